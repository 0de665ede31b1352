section
-- ===== PART A: goes FIRST, ahead of the names: the tables' words, and 'selects' of the private methods out of them =====
/-- a private method of a class that the tables say can be made, by its rows of tables_1 -/
def lw_okq (q : MethodName × Nat) : Prop := (q.1.cls ≠ "java/lang/invoke/MethodHandle" ∧ q.1.cls ≠ "java/lang/invoke/VarHandle") ∧ Cond.instantiable q.1.cls q.2 ∈ tables_1 ∧ Cond.privateMethod q.1 ∈ tables_1 ∧ Cond.instanceMethod q.1 ∈ tables_1
theorem lw_p0 : lw_okq (⟨"SheetKeys$Handler", "deriveKey", "(LSheetKeys$Row;)V"⟩, 17) := ⟨⟨by decide +kernel, by decide +kernel⟩, List.mem_of_getElem? (i := 49) (by decide +kernel), List.mem_of_getElem? (i := 202) (by decide +kernel), List.mem_of_getElem? (i := 203) (by decide +kernel)⟩
theorem lw_p1 : lw_okq (⟨"SheetKeys$Hasher", "loadWords", "(LSheetKeys$Row;I)V"⟩, 5) := ⟨⟨by decide +kernel, by decide +kernel⟩, List.mem_of_getElem? (i := 57) (by decide +kernel), List.mem_of_getElem? (i := 243) (by decide +kernel), List.mem_of_getElem? (i := 244) (by decide +kernel)⟩
theorem lw_p2 : lw_okq (⟨"SheetKeys$Hasher", "mixWords", "()V"⟩, 5) := ⟨⟨by decide +kernel, by decide +kernel⟩, List.mem_of_getElem? (i := 57) (by decide +kernel), List.mem_of_getElem? (i := 250) (by decide +kernel), List.mem_of_getElem? (i := 251) (by decide +kernel)⟩
theorem lw_p3 : lw_okq (⟨"SheetKeys$Handler", "isTriedTheUsers", "()Z"⟩, 17) := ⟨⟨by decide +kernel, by decide +kernel⟩, List.mem_of_getElem? (i := 49) (by decide +kernel), List.mem_of_getElem? (i := 264) (by decide +kernel), List.mem_of_getElem? (i := 265) (by decide +kernel)⟩
theorem lw_p4 : lw_okq (⟨"SheetKeys$Handler", "makeEntryByTried", "()V"⟩, 17) := ⟨⟨by decide +kernel, by decide +kernel⟩, List.mem_of_getElem? (i := 49) (by decide +kernel), List.mem_of_getElem? (i := 268) (by decide +kernel), List.mem_of_getElem? (i := 269) (by decide +kernel)⟩
theorem lw_p5 : lw_okq (⟨"SheetKeys$Handler", "streamEntry", "(LSheetKeys$Row;)V"⟩, 17) := ⟨⟨by decide +kernel, by decide +kernel⟩, List.mem_of_getElem? (i := 49) (by decide +kernel), List.mem_of_getElem? (i := 275) (by decide +kernel), List.mem_of_getElem? (i := 276) (by decide +kernel)⟩
theorem lw_p6 : lw_okq (⟨"SheetKeys$Streamer", "mixTable", "(LSheetKeys$Row;I)V"⟩, 1) := ⟨⟨by decide +kernel, by decide +kernel⟩, List.mem_of_getElem? (i := 79) (by decide +kernel), List.mem_of_getElem? (i := 283) (by decide +kernel), List.mem_of_getElem? (i := 284) (by decide +kernel)⟩
theorem lw_p7 : lw_okq (⟨"SheetKeys$Handler", "deriveOwnerKey", "(LSheetKeys$Row;)V"⟩, 17) := ⟨⟨by decide +kernel, by decide +kernel⟩, List.mem_of_getElem? (i := 49) (by decide +kernel), List.mem_of_getElem? (i := 296) (by decide +kernel), List.mem_of_getElem? (i := 297) (by decide +kernel)⟩
theorem lw_p8 : lw_okq (⟨"java/lang/Throwable", "fillInStackTrace", "(I)Ljava/lang/Throwable;"⟩, 6) := ⟨⟨by decide +kernel, by decide +kernel⟩, List.mem_of_getElem? (i := 377) (by decide +kernel), List.mem_of_getElem? (i := 375) (by decide +kernel), List.mem_of_getElem? (i := 376) (by decide +kernel)⟩
theorem lw_p9 : lw_okq (⟨"SheetKeys", "undoBlocks", "(II)I"⟩, 3) := ⟨⟨by decide +kernel, by decide +kernel⟩, List.mem_of_getElem? (i := 17) (by decide +kernel), List.mem_of_getElem? (i := 501) (by decide +kernel), List.mem_of_getElem? (i := 502) (by decide +kernel)⟩
theorem lw_p10 : lw_okq (⟨"SheetKeys", "unchain", "(LSheetKeys$Blocks;I)V"⟩, 3) := ⟨⟨by decide +kernel, by decide +kernel⟩, List.mem_of_getElem? (i := 17) (by decide +kernel), List.mem_of_getElem? (i := 518) (by decide +kernel), List.mem_of_getElem? (i := 519) (by decide +kernel)⟩
theorem lw_p11 : lw_okq (⟨"SheetKeys$Blocks", "addColumns", "(I)V"⟩, 4) := ⟨⟨by decide +kernel, by decide +kernel⟩, List.mem_of_getElem? (i := 89) (by decide +kernel), List.mem_of_getElem? (i := 534) (by decide +kernel), List.mem_of_getElem? (i := 535) (by decide +kernel)⟩
theorem lw_p12 : lw_okq (⟨"SheetKeys$Blocks", "unmixColumns", "()V"⟩, 4) := ⟨⟨by decide +kernel, by decide +kernel⟩, List.mem_of_getElem? (i := 89) (by decide +kernel), List.mem_of_getElem? (i := 538) (by decide +kernel), List.mem_of_getElem? (i := 539) (by decide +kernel)⟩
theorem lw_p13 : lw_okq (⟨"SheetKeys$Blocks", "mixColumns", "()V"⟩, 4) := ⟨⟨by decide +kernel, by decide +kernel⟩, List.mem_of_getElem? (i := 89) (by decide +kernel), List.mem_of_getElem? (i := 542) (by decide +kernel), List.mem_of_getElem? (i := 543) (by decide +kernel)⟩
theorem lw_p14 : lw_okq (⟨"SheetKeys$Blocks", "swapAndTurnBack", "()V"⟩, 4) := ⟨⟨by decide +kernel, by decide +kernel⟩, List.mem_of_getElem? (i := 89) (by decide +kernel), List.mem_of_getElem? (i := 546) (by decide +kernel), List.mem_of_getElem? (i := 547) (by decide +kernel)⟩
theorem lw_p15 : lw_okq (⟨"SheetKeys", "streamOrCopy", "(III)I"⟩, 3) := ⟨⟨by decide +kernel, by decide +kernel⟩, List.mem_of_getElem? (i := 17) (by decide +kernel), List.mem_of_getElem? (i := 562) (by decide +kernel), List.mem_of_getElem? (i := 563) (by decide +kernel)⟩
def lw_privs_1 : List (MethodName × Nat) := [(⟨"SheetKeys$Handler", "deriveKey", "(LSheetKeys$Row;)V"⟩, 17), (⟨"SheetKeys$Hasher", "loadWords", "(LSheetKeys$Row;I)V"⟩, 5), (⟨"SheetKeys$Hasher", "mixWords", "()V"⟩, 5), (⟨"SheetKeys$Handler", "isTriedTheUsers", "()Z"⟩, 17), (⟨"SheetKeys$Handler", "makeEntryByTried", "()V"⟩, 17), (⟨"SheetKeys$Handler", "streamEntry", "(LSheetKeys$Row;)V"⟩, 17), (⟨"SheetKeys$Streamer", "mixTable", "(LSheetKeys$Row;I)V"⟩, 1), (⟨"SheetKeys$Handler", "deriveOwnerKey", "(LSheetKeys$Row;)V"⟩, 17), (⟨"java/lang/Throwable", "fillInStackTrace", "(I)Ljava/lang/Throwable;"⟩, 6), (⟨"SheetKeys", "undoBlocks", "(II)I"⟩, 3), (⟨"SheetKeys", "unchain", "(LSheetKeys$Blocks;I)V"⟩, 3), (⟨"SheetKeys$Blocks", "addColumns", "(I)V"⟩, 4), (⟨"SheetKeys$Blocks", "unmixColumns", "()V"⟩, 4), (⟨"SheetKeys$Blocks", "mixColumns", "()V"⟩, 4), (⟨"SheetKeys$Blocks", "swapAndTurnBack", "()V"⟩, 4), (⟨"SheetKeys", "streamOrCopy", "(III)I"⟩, 3)]
theorem lw_r1 : ∀ q ∈ lw_privs_1, lw_okq q := List.forall_mem_cons.mpr ⟨lw_p0, List.forall_mem_cons.mpr ⟨lw_p1, List.forall_mem_cons.mpr ⟨lw_p2, List.forall_mem_cons.mpr ⟨lw_p3, List.forall_mem_cons.mpr ⟨lw_p4, List.forall_mem_cons.mpr ⟨lw_p5, List.forall_mem_cons.mpr ⟨lw_p6, List.forall_mem_cons.mpr ⟨lw_p7, List.forall_mem_cons.mpr ⟨lw_p8, List.forall_mem_cons.mpr ⟨lw_p9, List.forall_mem_cons.mpr ⟨lw_p10, List.forall_mem_cons.mpr ⟨lw_p11, List.forall_mem_cons.mpr ⟨lw_p12, List.forall_mem_cons.mpr ⟨lw_p13, List.forall_mem_cons.mpr ⟨lw_p14, List.forall_mem_cons.mpr ⟨lw_p15, fun _ h => absurd h List.not_mem_nil⟩⟩⟩⟩⟩⟩⟩⟩⟩⟩⟩⟩⟩⟩⟩⟩
theorem lw_p16 : lw_okq (⟨"SheetKeys", "fillingBytes", "()I"⟩, 3) := ⟨⟨by decide +kernel, by decide +kernel⟩, List.mem_of_getElem? (i := 17) (by decide +kernel), List.mem_of_getElem? (i := 574) (by decide +kernel), List.mem_of_getElem? (i := 575) (by decide +kernel)⟩
theorem lw_p17 : lw_okq (⟨"SheetKeys", "sealBlocks", "(IIII)I"⟩, 3) := ⟨⟨by decide +kernel, by decide +kernel⟩, List.mem_of_getElem? (i := 17) (by decide +kernel), List.mem_of_getElem? (i := 579) (by decide +kernel), List.mem_of_getElem? (i := 580) (by decide +kernel)⟩
theorem lw_p18 : lw_okq (⟨"SheetKeys$Blocks", "swapAndTurn", "()V"⟩, 4) := ⟨⟨by decide +kernel, by decide +kernel⟩, List.mem_of_getElem? (i := 89) (by decide +kernel), List.mem_of_getElem? (i := 589) (by decide +kernel), List.mem_of_getElem? (i := 590) (by decide +kernel)⟩
theorem lw_p19 : lw_okq (⟨"SheetKeysModel", "refused", "(I)Z"⟩, 36) := ⟨⟨by decide +kernel, by decide +kernel⟩, List.mem_of_getElem? (i := 593) (by decide +kernel), List.mem_of_getElem? (i := 784) (by decide +kernel), List.mem_of_getElem? (i := 785) (by decide +kernel)⟩
theorem lw_p20 : lw_okq (⟨"SheetKeysModel", "makeOwnerEntry", "()V"⟩, 36) := ⟨⟨by decide +kernel, by decide +kernel⟩, List.mem_of_getElem? (i := 593) (by decide +kernel), List.mem_of_getElem? (i := 804) (by decide +kernel), List.mem_of_getElem? (i := 805) (by decide +kernel)⟩
theorem lw_p21 : lw_okq (⟨"SheetKeysModel", "padWord", "(I)V"⟩, 36) := ⟨⟨by decide +kernel, by decide +kernel⟩, List.mem_of_getElem? (i := 593) (by decide +kernel), List.mem_of_getElem? (i := 808) (by decide +kernel), List.mem_of_getElem? (i := 809) (by decide +kernel)⟩
theorem lw_p22 : lw_okq (⟨"SheetKeysModel", "makeOwnerKey", "()V"⟩, 36) := ⟨⟨by decide +kernel, by decide +kernel⟩, List.mem_of_getElem? (i := 593) (by decide +kernel), List.mem_of_getElem? (i := 812) (by decide +kernel), List.mem_of_getElem? (i := 813) (by decide +kernel)⟩
theorem lw_p23 : lw_okq (⟨"SheetKeysModel", "say", "(I)V"⟩, 36) := ⟨⟨by decide +kernel, by decide +kernel⟩, List.mem_of_getElem? (i := 593) (by decide +kernel), List.mem_of_getElem? (i := 816) (by decide +kernel), List.mem_of_getElem? (i := 817) (by decide +kernel)⟩
theorem lw_p24 : lw_okq (⟨"SheetKeysModel", "finish", "()V"⟩, 36) := ⟨⟨by decide +kernel, by decide +kernel⟩, List.mem_of_getElem? (i := 593) (by decide +kernel), List.mem_of_getElem? (i := 820) (by decide +kernel), List.mem_of_getElem? (i := 821) (by decide +kernel)⟩
theorem lw_p25 : lw_okq (⟨"SheetKeysModel", "digestBlock", "(I)V"⟩, 36) := ⟨⟨by decide +kernel, by decide +kernel⟩, List.mem_of_getElem? (i := 593) (by decide +kernel), List.mem_of_getElem? (i := 828) (by decide +kernel), List.mem_of_getElem? (i := 829) (by decide +kernel)⟩
theorem lw_p26 : lw_okq (⟨"SheetKeysModel", "word", "(I)I"⟩, 36) := ⟨⟨by decide +kernel, by decide +kernel⟩, List.mem_of_getElem? (i := 593) (by decide +kernel), List.mem_of_getElem? (i := 832) (by decide +kernel), List.mem_of_getElem? (i := 833) (by decide +kernel)⟩
theorem lw_p27 : lw_okq (⟨"SheetKeysModel", "again", "(II)V"⟩, 36) := ⟨⟨by decide +kernel, by decide +kernel⟩, List.mem_of_getElem? (i := 593) (by decide +kernel), List.mem_of_getElem? (i := 839) (by decide +kernel), List.mem_of_getElem? (i := 840) (by decide +kernel)⟩
theorem lw_p28 : lw_okq (⟨"SheetKeysModel", "takeHand", "(I)V"⟩, 36) := ⟨⟨by decide +kernel, by decide +kernel⟩, List.mem_of_getElem? (i := 593) (by decide +kernel), List.mem_of_getElem? (i := 843) (by decide +kernel), List.mem_of_getElem? (i := 844) (by decide +kernel)⟩
theorem lw_p29 : lw_okq (⟨"SheetKeysModel", "stream", "(II)V"⟩, 36) := ⟨⟨by decide +kernel, by decide +kernel⟩, List.mem_of_getElem? (i := 593) (by decide +kernel), List.mem_of_getElem? (i := 847) (by decide +kernel), List.mem_of_getElem? (i := 848) (by decide +kernel)⟩
theorem lw_p30 : lw_okq (⟨"SheetKeysModel", "mix", "(I)V"⟩, 36) := ⟨⟨by decide +kernel, by decide +kernel⟩, List.mem_of_getElem? (i := 593) (by decide +kernel), List.mem_of_getElem? (i := 851) (by decide +kernel), List.mem_of_getElem? (i := 852) (by decide +kernel)⟩
theorem lw_p31 : lw_okq (⟨"SheetKeysModel", "makeKey", "()V"⟩, 36) := ⟨⟨by decide +kernel, by decide +kernel⟩, List.mem_of_getElem? (i := 593) (by decide +kernel), List.mem_of_getElem? (i := 855) (by decide +kernel), List.mem_of_getElem? (i := 856) (by decide +kernel)⟩
def lw_privs_2 : List (MethodName × Nat) := [(⟨"SheetKeys", "fillingBytes", "()I"⟩, 3), (⟨"SheetKeys", "sealBlocks", "(IIII)I"⟩, 3), (⟨"SheetKeys$Blocks", "swapAndTurn", "()V"⟩, 4), (⟨"SheetKeysModel", "refused", "(I)Z"⟩, 36), (⟨"SheetKeysModel", "makeOwnerEntry", "()V"⟩, 36), (⟨"SheetKeysModel", "padWord", "(I)V"⟩, 36), (⟨"SheetKeysModel", "makeOwnerKey", "()V"⟩, 36), (⟨"SheetKeysModel", "say", "(I)V"⟩, 36), (⟨"SheetKeysModel", "finish", "()V"⟩, 36), (⟨"SheetKeysModel", "digestBlock", "(I)V"⟩, 36), (⟨"SheetKeysModel", "word", "(I)I"⟩, 36), (⟨"SheetKeysModel", "again", "(II)V"⟩, 36), (⟨"SheetKeysModel", "takeHand", "(I)V"⟩, 36), (⟨"SheetKeysModel", "stream", "(II)V"⟩, 36), (⟨"SheetKeysModel", "mix", "(I)V"⟩, 36), (⟨"SheetKeysModel", "makeKey", "()V"⟩, 36)]
theorem lw_r2 : ∀ q ∈ lw_privs_2, lw_okq q := List.forall_mem_cons.mpr ⟨lw_p16, List.forall_mem_cons.mpr ⟨lw_p17, List.forall_mem_cons.mpr ⟨lw_p18, List.forall_mem_cons.mpr ⟨lw_p19, List.forall_mem_cons.mpr ⟨lw_p20, List.forall_mem_cons.mpr ⟨lw_p21, List.forall_mem_cons.mpr ⟨lw_p22, List.forall_mem_cons.mpr ⟨lw_p23, List.forall_mem_cons.mpr ⟨lw_p24, List.forall_mem_cons.mpr ⟨lw_p25, List.forall_mem_cons.mpr ⟨lw_p26, List.forall_mem_cons.mpr ⟨lw_p27, List.forall_mem_cons.mpr ⟨lw_p28, List.forall_mem_cons.mpr ⟨lw_p29, List.forall_mem_cons.mpr ⟨lw_p30, List.forall_mem_cons.mpr ⟨lw_p31, fun _ h => absurd h List.not_mem_nil⟩⟩⟩⟩⟩⟩⟩⟩⟩⟩⟩⟩⟩⟩⟩⟩
theorem lw_p32 : lw_okq (⟨"SheetKeysModel", "makeUserEntry", "()V"⟩, 36) := ⟨⟨by decide +kernel, by decide +kernel⟩, List.mem_of_getElem? (i := 593) (by decide +kernel), List.mem_of_getElem? (i := 859) (by decide +kernel), List.mem_of_getElem? (i := 860) (by decide +kernel)⟩
theorem lw_p33 : lw_okq (⟨"SheetKeysModel", "isUsers", "()Z"⟩, 36) := ⟨⟨by decide +kernel, by decide +kernel⟩, List.mem_of_getElem? (i := 593) (by decide +kernel), List.mem_of_getElem? (i := 867) (by decide +kernel), List.mem_of_getElem? (i := 868) (by decide +kernel)⟩
theorem lw_p34 : lw_okq (⟨"SheetKeysModel", "know", "()V"⟩, 36) := ⟨⟨by decide +kernel, by decide +kernel⟩, List.mem_of_getElem? (i := 593) (by decide +kernel), List.mem_of_getElem? (i := 871) (by decide +kernel), List.mem_of_getElem? (i := 872) (by decide +kernel)⟩
theorem lw_p35 : lw_okq (⟨"SheetKeysModel", "isSound", "(III)Z"⟩, 36) := ⟨⟨by decide +kernel, by decide +kernel⟩, List.mem_of_getElem? (i := 593) (by decide +kernel), List.mem_of_getElem? (i := 887) (by decide +kernel), List.mem_of_getElem? (i := 888) (by decide +kernel)⟩
theorem lw_p36 : lw_okq (⟨"SheetKeysModel", "makeObjectKey", "(III)V"⟩, 36) := ⟨⟨by decide +kernel, by decide +kernel⟩, List.mem_of_getElem? (i := 593) (by decide +kernel), List.mem_of_getElem? (i := 893) (by decide +kernel), List.mem_of_getElem? (i := 894) (by decide +kernel)⟩
theorem lw_p37 : lw_okq (⟨"SheetKeysModel", "undoBlocks", "()I"⟩, 36) := ⟨⟨by decide +kernel, by decide +kernel⟩, List.mem_of_getElem? (i := 593) (by decide +kernel), List.mem_of_getElem? (i := 897) (by decide +kernel), List.mem_of_getElem? (i := 898) (by decide +kernel)⟩
theorem lw_p38 : lw_okq (⟨"SheetKeysModel", "makeColumns", "()V"⟩, 36) := ⟨⟨by decide +kernel, by decide +kernel⟩, List.mem_of_getElem? (i := 593) (by decide +kernel), List.mem_of_getElem? (i := 901) (by decide +kernel), List.mem_of_getElem? (i := 902) (by decide +kernel)⟩
theorem lw_p39 : lw_okq (⟨"SheetKeysModel", "makeSwaps", "()V"⟩, 36) := ⟨⟨by decide +kernel, by decide +kernel⟩, List.mem_of_getElem? (i := 593) (by decide +kernel), List.mem_of_getElem? (i := 905) (by decide +kernel), List.mem_of_getElem? (i := 906) (by decide +kernel)⟩
theorem lw_p40 : lw_okq (⟨"SheetKeysModel", "filling", "()I"⟩, 36) := ⟨⟨by decide +kernel, by decide +kernel⟩, List.mem_of_getElem? (i := 593) (by decide +kernel), List.mem_of_getElem? (i := 918) (by decide +kernel), List.mem_of_getElem? (i := 919) (by decide +kernel)⟩
theorem lw_p41 : lw_okq (⟨"SheetKeysModel", "undoAt", "(I)V"⟩, 36) := ⟨⟨by decide +kernel, by decide +kernel⟩, List.mem_of_getElem? (i := 593) (by decide +kernel), List.mem_of_getElem? (i := 922) (by decide +kernel), List.mem_of_getElem? (i := 923) (by decide +kernel)⟩
theorem lw_p42 : lw_okq (⟨"SheetKeysModel", "undoBlock", "()V"⟩, 36) := ⟨⟨by decide +kernel, by decide +kernel⟩, List.mem_of_getElem? (i := 593) (by decide +kernel), List.mem_of_getElem? (i := 926) (by decide +kernel), List.mem_of_getElem? (i := 927) (by decide +kernel)⟩
theorem lw_p43 : lw_okq (⟨"SheetKeysModel", "addKey", "(I)V"⟩, 36) := ⟨⟨by decide +kernel, by decide +kernel⟩, List.mem_of_getElem? (i := 593) (by decide +kernel), List.mem_of_getElem? (i := 930) (by decide +kernel), List.mem_of_getElem? (i := 931) (by decide +kernel)⟩
theorem lw_p44 : lw_okq (⟨"SheetKeysModel", "mixColumns", "(IIII)V"⟩, 36) := ⟨⟨by decide +kernel, by decide +kernel⟩, List.mem_of_getElem? (i := 593) (by decide +kernel), List.mem_of_getElem? (i := 934) (by decide +kernel), List.mem_of_getElem? (i := 935) (by decide +kernel)⟩
theorem lw_p45 : lw_okq (⟨"SheetKeysModel", "shift", "(I)V"⟩, 36) := ⟨⟨by decide +kernel, by decide +kernel⟩, List.mem_of_getElem? (i := 593) (by decide +kernel), List.mem_of_getElem? (i := 938) (by decide +kernel), List.mem_of_getElem? (i := 939) (by decide +kernel)⟩
theorem lw_p46 : lw_okq (⟨"SheetKeysModel", "unswapped", "(I)I"⟩, 36) := ⟨⟨by decide +kernel, by decide +kernel⟩, List.mem_of_getElem? (i := 593) (by decide +kernel), List.mem_of_getElem? (i := 942) (by decide +kernel), List.mem_of_getElem? (i := 943) (by decide +kernel)⟩
theorem lw_p47 : lw_okq (⟨"SheetKeysModel", "streamRow", "()V"⟩, 36) := ⟨⟨by decide +kernel, by decide +kernel⟩, List.mem_of_getElem? (i := 593) (by decide +kernel), List.mem_of_getElem? (i := 946) (by decide +kernel), List.mem_of_getElem? (i := 947) (by decide +kernel)⟩
def lw_privs_3 : List (MethodName × Nat) := [(⟨"SheetKeysModel", "makeUserEntry", "()V"⟩, 36), (⟨"SheetKeysModel", "isUsers", "()Z"⟩, 36), (⟨"SheetKeysModel", "know", "()V"⟩, 36), (⟨"SheetKeysModel", "isSound", "(III)Z"⟩, 36), (⟨"SheetKeysModel", "makeObjectKey", "(III)V"⟩, 36), (⟨"SheetKeysModel", "undoBlocks", "()I"⟩, 36), (⟨"SheetKeysModel", "makeColumns", "()V"⟩, 36), (⟨"SheetKeysModel", "makeSwaps", "()V"⟩, 36), (⟨"SheetKeysModel", "filling", "()I"⟩, 36), (⟨"SheetKeysModel", "undoAt", "(I)V"⟩, 36), (⟨"SheetKeysModel", "undoBlock", "()V"⟩, 36), (⟨"SheetKeysModel", "addKey", "(I)V"⟩, 36), (⟨"SheetKeysModel", "mixColumns", "(IIII)V"⟩, 36), (⟨"SheetKeysModel", "shift", "(I)V"⟩, 36), (⟨"SheetKeysModel", "unswapped", "(I)I"⟩, 36), (⟨"SheetKeysModel", "streamRow", "()V"⟩, 36)]
theorem lw_r3 : ∀ q ∈ lw_privs_3, lw_okq q := List.forall_mem_cons.mpr ⟨lw_p32, List.forall_mem_cons.mpr ⟨lw_p33, List.forall_mem_cons.mpr ⟨lw_p34, List.forall_mem_cons.mpr ⟨lw_p35, List.forall_mem_cons.mpr ⟨lw_p36, List.forall_mem_cons.mpr ⟨lw_p37, List.forall_mem_cons.mpr ⟨lw_p38, List.forall_mem_cons.mpr ⟨lw_p39, List.forall_mem_cons.mpr ⟨lw_p40, List.forall_mem_cons.mpr ⟨lw_p41, List.forall_mem_cons.mpr ⟨lw_p42, List.forall_mem_cons.mpr ⟨lw_p43, List.forall_mem_cons.mpr ⟨lw_p44, List.forall_mem_cons.mpr ⟨lw_p45, List.forall_mem_cons.mpr ⟨lw_p46, List.forall_mem_cons.mpr ⟨lw_p47, fun _ h => absurd h List.not_mem_nil⟩⟩⟩⟩⟩⟩⟩⟩⟩⟩⟩⟩⟩⟩⟩⟩
theorem lw_p48 : lw_okq (⟨"SheetKeysModel", "copy", "()V"⟩, 36) := ⟨⟨by decide +kernel, by decide +kernel⟩, List.mem_of_getElem? (i := 593) (by decide +kernel), List.mem_of_getElem? (i := 950) (by decide +kernel), List.mem_of_getElem? (i := 951) (by decide +kernel)⟩
theorem lw_p49 : lw_okq (⟨"SheetKeysModel", "sealBlocks", "(II)V"⟩, 36) := ⟨⟨by decide +kernel, by decide +kernel⟩, List.mem_of_getElem? (i := 593) (by decide +kernel), List.mem_of_getElem? (i := 958) (by decide +kernel), List.mem_of_getElem? (i := 959) (by decide +kernel)⟩
theorem lw_p50 : lw_okq (⟨"SheetKeysModel", "makeBlock", "()V"⟩, 36) := ⟨⟨by decide +kernel, by decide +kernel⟩, List.mem_of_getElem? (i := 593) (by decide +kernel), List.mem_of_getElem? (i := 962) (by decide +kernel), List.mem_of_getElem? (i := 963) (by decide +kernel)⟩
def lw_privs_4 : List (MethodName × Nat) := [(⟨"SheetKeysModel", "copy", "()V"⟩, 36), (⟨"SheetKeysModel", "sealBlocks", "(II)V"⟩, 36), (⟨"SheetKeysModel", "makeBlock", "()V"⟩, 36)]
theorem lw_r4 : ∀ q ∈ lw_privs_4, lw_okq q := List.forall_mem_cons.mpr ⟨lw_p48, List.forall_mem_cons.mpr ⟨lw_p49, List.forall_mem_cons.mpr ⟨lw_p50, fun _ h => absurd h List.not_mem_nil⟩⟩⟩
def lw_privs : List (MethodName × Nat) := lw_privs_1 ++ (lw_privs_2 ++ (lw_privs_3 ++ (lw_privs_4)))
def lw_tbl : List Cond := k2_sels lw_privs ++ tables_1
theorem lw_privs_ok : ∀ q ∈ lw_privs, lw_okq q := by
  show ∀ q ∈ lw_privs_1 ++ (lw_privs_2 ++ (lw_privs_3 ++ (lw_privs_4))), lw_okq q
  exact List.forall_mem_append.mpr ⟨lw_r1, List.forall_mem_append.mpr ⟨lw_r2, List.forall_mem_append.mpr ⟨lw_r3, lw_r4⟩⟩⟩
-- ===== end of PART A; then your names; then what follows =====
end
section
def RX0 : String := "SheetKeys$Blocks"
def TX0 : u_T := fun k => match k with
  | 0 => ("SheetKeys$Blocks", "swapsBack", "[I", true)
  | 1 => ("SheetKeys$Blocks", "columns", "[I", true)
  | 2 => ("SheetKeys$Blocks", "block", "[I", true)
  | _ => ("SheetKeys$Blocks", "before", "[I", true)
def tyX0 : Nat → FieldType := fun k => match k with
  | 0 => .array .int
  | 1 => .array .int
  | 2 => .array .int
  | _ => .array .int
abbrev wsX00 : List Cond := u_ws RX0 TX0 4
theorem nmX0 : ∀ a, a < 4 → ∀ b, b < 4 → a ≠ b → (TX0 a).2.1 ≠ (TX0 b).2.1 := by decide +kernel
theorem tyX0_ok : ∀ k, k < 4 → parseFieldDescriptor (TX0 k).2.2.1 = some (tyX0 k) := by decide +kernel
abbrev cX0_init : ByteArray := prog_2_method_1_code
def yX0_init : MethodName := ⟨RX0, "<init>", "()V"⟩
abbrev cX0_expand : ByteArray := prog_2_method_2_code
def yX0_expand : MethodName := ⟨RX0, "expand", "(LSheetKeys$Row;)V"⟩
abbrev cX0_loadFrom : ByteArray := prog_2_method_3_code
def yX0_loadFrom : MethodName := ⟨RX0, "loadFrom", "(LSheetKeys$Row;I)V"⟩
abbrev cX0_addFrom : ByteArray := prog_2_method_4_code
def yX0_addFrom : MethodName := ⟨RX0, "addFrom", "(LSheetKeys$Row;I)V"⟩
abbrev cX0_storeTo : ByteArray := prog_2_method_5_code
def yX0_storeTo : MethodName := ⟨RX0, "storeTo", "(LSheetKeys$Row;I)V"⟩
abbrev cX0_fits : ByteArray := prog_2_method_6_code
def yX0_fits : MethodName := ⟨RX0, "fits", "(LSheetKeys$Row;I)Z"⟩
abbrev cX0_filling : ByteArray := prog_2_method_7_code
def yX0_filling : MethodName := ⟨RX0, "filling", "()I"⟩
abbrev cX0_makeBlock : ByteArray := prog_2_method_8_code
def yX0_makeBlock : MethodName := ⟨RX0, "makeBlock", "()V"⟩
abbrev cX0_unmakeBlock : ByteArray := prog_2_method_9_code
def yX0_unmakeBlock : MethodName := ⟨RX0, "unmakeBlock", "()V"⟩
abbrev cX0_addColumns : ByteArray := prog_2_method_10_code
def yX0_addColumns : MethodName := ⟨RX0, "addColumns", "(I)V"⟩
abbrev cX0_swapAndTurn : ByteArray := prog_2_method_11_code
def yX0_swapAndTurn : MethodName := ⟨RX0, "swapAndTurn", "()V"⟩
abbrev cX0_swapAndTurnBack : ByteArray := prog_2_method_12_code
def yX0_swapAndTurnBack : MethodName := ⟨RX0, "swapAndTurnBack", "()V"⟩
abbrev cX0_mixColumns : ByteArray := prog_2_method_13_code
def yX0_mixColumns : MethodName := ⟨RX0, "mixColumns", "()V"⟩
abbrev cX0_unmixColumns : ByteArray := prog_2_method_14_code
def yX0_unmixColumns : MethodName := ⟨RX0, "unmixColumns", "()V"⟩
abbrev cX0_twice : ByteArray := prog_2_method_15_code
def yX0_twice : MethodName := ⟨RX0, "twice", "(I)I"⟩
def RX1 : String := "SheetKeys$Handler"
def TX1 : u_T := fun k => match k with
  | 0 => ("SheetKeys$Handler", "revision", "I", false)
  | 1 => ("SheetKeys$Handler", "length", "I", false)
  | 2 => ("SheetKeys$Handler", "permissions", "I", false)
  | 3 => ("SheetKeys$Handler", "leftOut", "Z", false)
  | 4 => ("SheetKeys$Handler", "ownerEntry", "LSheetKeys$Row;", true)
  | 5 => ("SheetKeys$Handler", "userEntry", "LSheetKeys$Row;", true)
  | 6 => ("SheetKeys$Handler", "documentNumber", "LSheetKeys$Row;", true)
  | 7 => ("SheetKeys$Handler", "ownerPassword", "LSheetKeys$Row;", true)
  | 8 => ("SheetKeys$Handler", "userPassword", "LSheetKeys$Row;", true)
  | 9 => ("SheetKeys$Handler", "known", "LSheetKeys$Row;", true)
  | 10 => ("SheetKeys$Handler", "hasher", "LSheetKeys$Hasher;", true)
  | 11 => ("SheetKeys$Handler", "streamer", "LSheetKeys$Streamer;", true)
  | 12 => ("SheetKeys$Handler", "blocks", "LSheetKeys$Blocks;", true)
  | 13 => ("SheetKeys$Handler", "gathered", "LSheetKeys$Row;", true)
  | 14 => ("SheetKeys$Handler", "tried", "LSheetKeys$Row;", true)
  | 15 => ("SheetKeys$Handler", "madeEntry", "LSheetKeys$Row;", true)
  | _ => ("SheetKeys$Handler", "undoneEntry", "LSheetKeys$Row;", true)
def tyX1 : Nat → FieldType := fun k => match k with
  | 0 => .int
  | 1 => .int
  | 2 => .int
  | 3 => .boolean
  | 4 => .object "SheetKeys$Row"
  | 5 => .object "SheetKeys$Row"
  | 6 => .object "SheetKeys$Row"
  | 7 => .object "SheetKeys$Row"
  | 8 => .object "SheetKeys$Row"
  | 9 => .object "SheetKeys$Row"
  | 10 => .object "SheetKeys$Hasher"
  | 11 => .object "SheetKeys$Streamer"
  | 12 => .object "SheetKeys$Blocks"
  | 13 => .object "SheetKeys$Row"
  | 14 => .object "SheetKeys$Row"
  | 15 => .object "SheetKeys$Row"
  | _ => .object "SheetKeys$Row"
abbrev wsX10 : List Cond := u_ws RX1 TX1 17
theorem nmX1 : ∀ a, a < 17 → ∀ b, b < 17 → a ≠ b → (TX1 a).2.1 ≠ (TX1 b).2.1 := by decide +kernel
theorem tyX1_ok : ∀ k, k < 17 → parseFieldDescriptor (TX1 k).2.2.1 = some (tyX1 k) := by decide +kernel
abbrev cX1_init : ByteArray := prog_3_method_1_code
def yX1_init : MethodName := ⟨RX1, "<init>", "()V"⟩
abbrev cX1_toldRow : ByteArray := prog_3_method_2_code
def yX1_toldRow : MethodName := ⟨RX1, "toldRow", "(I)LSheetKeys$Row;"⟩
abbrev cX1_makeOwnerEntry : ByteArray := prog_3_method_3_code
def yX1_makeOwnerEntry : MethodName := ⟨RX1, "makeOwnerEntry", "()V"⟩
abbrev cX1_makeUserEntry : ByteArray := prog_3_method_4_code
def yX1_makeUserEntry : MethodName := ⟨RX1, "makeUserEntry", "()V"⟩
abbrev cX1_tryPassword : ByteArray := prog_3_method_5_code
def yX1_tryPassword : MethodName := ⟨RX1, "tryPassword", "(LSheetKeys$Row;)I"⟩
abbrev cX1_objectKey : ByteArray := prog_3_method_6_code
def yX1_objectKey : MethodName := ⟨RX1, "objectKey", "(III)LSheetKeys$Row;"⟩
abbrev cX1_addPadded : ByteArray := prog_3_method_7_code
def yX1_addPadded : MethodName := ⟨RX1, "addPadded", "(LSheetKeys$Row;LSheetKeys$Row;)V"⟩
abbrev cX1_addPad : ByteArray := prog_3_method_8_code
def yX1_addPad : MethodName := ⟨RX1, "addPad", "(LSheetKeys$Row;)V"⟩
abbrev cX1_deriveKey : ByteArray := prog_3_method_9_code
def yX1_deriveKey : MethodName := ⟨RX1, "deriveKey", "(LSheetKeys$Row;)V"⟩
abbrev cX1_deriveOwnerKey : ByteArray := prog_3_method_10_code
def yX1_deriveOwnerKey : MethodName := ⟨RX1, "deriveOwnerKey", "(LSheetKeys$Row;)V"⟩
abbrev cX1_streamEntry : ByteArray := prog_3_method_11_code
def yX1_streamEntry : MethodName := ⟨RX1, "streamEntry", "(LSheetKeys$Row;)V"⟩
abbrev cX1_makeEntryByTried : ByteArray := prog_3_method_12_code
def yX1_makeEntryByTried : MethodName := ⟨RX1, "makeEntryByTried", "()V"⟩
abbrev cX1_isTriedTheUsers : ByteArray := prog_3_method_13_code
def yX1_isTriedTheUsers : MethodName := ⟨RX1, "isTriedTheUsers", "()Z"⟩
def RX2 : String := "SheetKeys$Hasher"
def TX2 : u_T := fun k => match k with
  | 0 => ("SheetKeys$Hasher", "words", "[I", true)
  | 1 => ("SheetKeys$Hasher", "sumA", "I", false)
  | 2 => ("SheetKeys$Hasher", "sumB", "I", false)
  | 3 => ("SheetKeys$Hasher", "sumC", "I", false)
  | _ => ("SheetKeys$Hasher", "sumD", "I", false)
def tyX2 : Nat → FieldType := fun k => match k with
  | 0 => .array .int
  | 1 => .int
  | 2 => .int
  | 3 => .int
  | _ => .int
abbrev wsX20 : List Cond := u_ws RX2 TX2 5
theorem nmX2 : ∀ a, a < 5 → ∀ b, b < 5 → a ≠ b → (TX2 a).2.1 ≠ (TX2 b).2.1 := by decide +kernel
theorem tyX2_ok : ∀ k, k < 5 → parseFieldDescriptor (TX2 k).2.2.1 = some (tyX2 k) := by decide +kernel
abbrev cX2_init : ByteArray := prog_4_method_1_code
def yX2_init : MethodName := ⟨RX2, "<init>", "()V"⟩
abbrev cX2_hash : ByteArray := prog_4_method_2_code
def yX2_hash : MethodName := ⟨RX2, "hash", "(LSheetKeys$Row;LSheetKeys$Row;)V"⟩
abbrev cX2_loadWords : ByteArray := prog_4_method_3_code
def yX2_loadWords : MethodName := ⟨RX2, "loadWords", "(LSheetKeys$Row;I)V"⟩
abbrev cX2_endedByte : ByteArray := prog_4_method_4_code
def yX2_endedByte : MethodName := ⟨RX2, "endedByte", "(LSheetKeys$Row;I)I"⟩
abbrev cX2_mixWords : ByteArray := prog_4_method_5_code
def yX2_mixWords : MethodName := ⟨RX2, "mixWords", "()V"⟩
def RX3 : String := "SheetKeys$Row"
def TX3 : u_T := fun k => match k with
  | 0 => ("SheetKeys$Row", "bytes", "[I", true)
  | _ => ("SheetKeys$Row", "many", "I", false)
def tyX3 : Nat → FieldType := fun k => match k with
  | 0 => .array .int
  | _ => .int
abbrev wsX30 : List Cond := u_ws RX3 TX3 2
theorem nmX3 : ∀ a, a < 2 → ∀ b, b < 2 → a ≠ b → (TX3 a).2.1 ≠ (TX3 b).2.1 := by decide +kernel
theorem tyX3_ok : ∀ k, k < 2 → parseFieldDescriptor (TX3 k).2.2.1 = some (tyX3 k) := by decide +kernel
abbrev cX3_init : ByteArray := prog_5_method_1_code
def yX3_init : MethodName := ⟨RX3, "<init>", "(I)V"⟩
abbrev cX3_byteAt : ByteArray := prog_5_method_2_code
def yX3_byteAt : MethodName := ⟨RX3, "byteAt", "(I)I"⟩
abbrev cX3_clear : ByteArray := prog_5_method_3_code
def yX3_clear : MethodName := ⟨RX3, "clear", "()V"⟩
abbrev cX3_shorten : ByteArray := prog_5_method_4_code
def yX3_shorten : MethodName := ⟨RX3, "shorten", "(I)V"⟩
abbrev cX3_add : ByteArray := prog_5_method_5_code
def yX3_add : MethodName := ⟨RX3, "add", "(I)V"⟩
abbrev cX3_addTimes : ByteArray := prog_5_method_6_code
def yX3_addTimes : MethodName := ⟨RX3, "addTimes", "(II)V"⟩
abbrev cX3_addHighestFirst : ByteArray := prog_5_method_7_code
def yX3_addHighestFirst : MethodName := ⟨RX3, "addHighestFirst", "(I)V"⟩
abbrev cX3_addLowestFirst : ByteArray := prog_5_method_8_code
def yX3_addLowestFirst : MethodName := ⟨RX3, "addLowestFirst", "(II)V"⟩
abbrev cX3_addRow : ByteArray := prog_5_method_9_code
def yX3_addRow : MethodName := ⟨RX3, "addRow", "(LSheetKeys$Row;)V"⟩
abbrev cX3_become : ByteArray := prog_5_method_10_code
def yX3_become : MethodName := ⟨RX3, "become", "(LSheetKeys$Row;)V"⟩
abbrev cX3_beginsAs : ByteArray := prog_5_method_11_code
def yX3_beginsAs : MethodName := ⟨RX3, "beginsAs", "(LSheetKeys$Row;I)Z"⟩
def RX4 : String := "SheetKeys$Streamer"
def TX4 : u_T := fun k => match k with
  | _ => ("SheetKeys$Streamer", "table", "[I", true)
def tyX4 : Nat → FieldType := fun k => match k with
  | _ => .array .int
abbrev wsX40 : List Cond := u_ws RX4 TX4 1
theorem nmX4 : ∀ a, a < 1 → ∀ b, b < 1 → a ≠ b → (TX4 a).2.1 ≠ (TX4 b).2.1 := by decide +kernel
theorem tyX4_ok : ∀ k, k < 1 → parseFieldDescriptor (TX4 k).2.2.1 = some (tyX4 k) := by decide +kernel
abbrev cX4_init : ByteArray := prog_6_method_1_code
def yX4_init : MethodName := ⟨RX4, "<init>", "()V"⟩
abbrev cX4_stream : ByteArray := prog_6_method_2_code
def yX4_stream : MethodName := ⟨RX4, "stream", "(LSheetKeys$Row;LSheetKeys$Row;I)V"⟩
abbrev cX4_mixTable : ByteArray := prog_6_method_3_code
def yX4_mixTable : MethodName := ⟨RX4, "mixTable", "(LSheetKeys$Row;I)V"⟩
def RX5 : String := "SheetKeys"
def TX5 : u_T := fun k => match k with
  | 0 => ("SheetKeys", "row", "LSheetKeys$Row;", true)
  | 1 => ("SheetKeys", "result", "LSheetKeys$Row;", true)
  | _ => ("SheetKeys", "standard", "LSheetKeys$Handler;", true)
def tyX5 : Nat → FieldType := fun k => match k with
  | 0 => .object "SheetKeys$Row"
  | 1 => .object "SheetKeys$Row"
  | _ => .object "SheetKeys$Handler"
abbrev wsX50 : List Cond := u_ws RX5 TX5 3
theorem nmX5 : ∀ a, a < 3 → ∀ b, b < 3 → a ≠ b → (TX5 a).2.1 ≠ (TX5 b).2.1 := by decide +kernel
theorem tyX5_ok : ∀ k, k < 3 → parseFieldDescriptor (TX5 k).2.2.1 = some (tyX5 k) := by decide +kernel
abbrev cX5_init : ByteArray := prog_1_method_1_code
def yX5_init : MethodName := ⟨RX5, "<init>", "()V"⟩
abbrev cX5_feed : ByteArray := prog_1_method_2_code
def yX5_feed : MethodName := ⟨RX5, "feed", "(IIIII)I"⟩
abbrev cX5_put : ByteArray := prog_1_method_3_code
def yX5_put : MethodName := ⟨RX5, "put", "(II)I"⟩
abbrev cX5_cut : ByteArray := prog_1_method_4_code
def yX5_cut : MethodName := ⟨RX5, "cut", "(I)I"⟩
abbrev cX5_handler : ByteArray := prog_1_method_5_code
def yX5_handler : MethodName := ⟨RX5, "handler", "(IIIZ)V"⟩
abbrev cX5_take : ByteArray := prog_1_method_6_code
def yX5_take : MethodName := ⟨RX5, "take", "(I)I"⟩
abbrev cX5_enter : ByteArray := prog_1_method_7_code
def yX5_enter : MethodName := ⟨RX5, "enter", "(I)V"⟩
abbrev cX5_open : ByteArray := prog_1_method_8_code
def yX5_open : MethodName := ⟨RX5, "open", "()I"⟩
abbrev cX5_key : ByteArray := prog_1_method_9_code
def yX5_key : MethodName := ⟨RX5, "key", "(I)I"⟩
abbrev cX5_digest : ByteArray := prog_1_method_10_code
def yX5_digest : MethodName := ⟨RX5, "digest", "()V"⟩
abbrev cX5_undo : ByteArray := prog_1_method_11_code
def yX5_undo : MethodName := ⟨RX5, "undo", "(III)I"⟩
abbrev cX5_seal : ByteArray := prog_1_method_12_code
def yX5_seal : MethodName := ⟨RX5, "seal", "(IIIII)I"⟩
abbrev cX5_count : ByteArray := prog_1_method_13_code
def yX5_count : MethodName := ⟨RX5, "count", "(I)I"⟩
abbrev cX5_at : ByteArray := prog_1_method_14_code
def yX5_at : MethodName := ⟨RX5, "at", "(I)I"⟩
abbrev cX5_entry : ByteArray := prog_1_method_15_code
def yX5_entry : MethodName := ⟨RX5, "entry", "(II)I"⟩
abbrev cX5_keep : ByteArray := prog_1_method_16_code
def yX5_keep : MethodName := ⟨RX5, "keep", "()I"⟩
abbrev cX5_isObject : ByteArray := prog_1_method_17_code
def yX5_isObject : MethodName := ⟨RX5, "isObject", "(III)Z"⟩
abbrev cX5_streamOrCopy : ByteArray := prog_1_method_18_code
def yX5_streamOrCopy : MethodName := ⟨RX5, "streamOrCopy", "(III)I"⟩
abbrev cX5_undoBlocks : ByteArray := prog_1_method_19_code
def yX5_undoBlocks : MethodName := ⟨RX5, "undoBlocks", "(II)I"⟩
abbrev cX5_unchain : ByteArray := prog_1_method_20_code
def yX5_unchain : MethodName := ⟨RX5, "unchain", "(LSheetKeys$Blocks;I)V"⟩
abbrev cX5_fillingBytes : ByteArray := prog_1_method_21_code
def yX5_fillingBytes : MethodName := ⟨RX5, "fillingBytes", "()I"⟩
abbrev cX5_sealBlocks : ByteArray := prog_1_method_22_code
def yX5_sealBlocks : MethodName := ⟨RX5, "sealBlocks", "(IIII)I"⟩
def RX6 : String := "SheetKeysModel"
def TX6 : u_T := fun k => match k with
  | 0 => ("SheetKeysModel", "fault", "I", false)
  | 1 => ("SheetKeysModel", "size", "I", false)
  | 2 => ("SheetKeysModel", "row", "[I", true)
  | 3 => ("SheetKeysModel", "resultSize", "I", false)
  | 4 => ("SheetKeysModel", "result", "[I", true)
  | 5 => ("SheetKeysModel", "revision", "I", false)
  | 6 => ("SheetKeysModel", "length", "I", false)
  | 7 => ("SheetKeysModel", "permissions", "I", false)
  | 8 => ("SheetKeysModel", "leftOut", "Z", false)
  | 9 => ("SheetKeysModel", "owner", "[I", true)
  | 10 => ("SheetKeysModel", "user", "[I", true)
  | 11 => ("SheetKeysModel", "numberSize", "I", false)
  | 12 => ("SheetKeysModel", "number", "[I", true)
  | 13 => ("SheetKeysModel", "ownerSize", "I", false)
  | 14 => ("SheetKeysModel", "ownerWord", "[I", true)
  | 15 => ("SheetKeysModel", "userSize", "I", false)
  | 16 => ("SheetKeysModel", "userWord", "[I", true)
  | 17 => ("SheetKeysModel", "isKnown", "Z", false)
  | 18 => ("SheetKeysModel", "key", "[I", true)
  | 19 => ("SheetKeysModel", "messageSize", "I", false)
  | 20 => ("SheetKeysModel", "message", "[I", true)
  | 21 => ("SheetKeysModel", "digested", "[I", true)
  | 22 => ("SheetKeysModel", "sums", "[I", true)
  | 23 => ("SheetKeysModel", "sines", "[I", true)
  | 24 => ("SheetKeysModel", "turns", "[I", true)
  | 25 => ("SheetKeysModel", "pad", "[I", true)
  | 26 => ("SheetKeysModel", "handSize", "I", false)
  | 27 => ("SheetKeysModel", "hand", "[I", true)
  | 28 => ("SheetKeysModel", "table", "[I", true)
  | 29 => ("SheetKeysModel", "entry", "[I", true)
  | 30 => ("SheetKeysModel", "padded", "[I", true)
  | 31 => ("SheetKeysModel", "columns", "[I", true)
  | 32 => ("SheetKeysModel", "block", "[I", true)
  | 33 => ("SheetKeysModel", "other", "[I", true)
  | 34 => ("SheetKeysModel", "swaps", "[I", true)
  | _ => ("SheetKeysModel", "back", "[I", true)
def tyX6 : Nat → FieldType := fun k => match k with
  | 0 => .int
  | 1 => .int
  | 2 => .array .int
  | 3 => .int
  | 4 => .array .int
  | 5 => .int
  | 6 => .int
  | 7 => .int
  | 8 => .boolean
  | 9 => .array .int
  | 10 => .array .int
  | 11 => .int
  | 12 => .array .int
  | 13 => .int
  | 14 => .array .int
  | 15 => .int
  | 16 => .array .int
  | 17 => .boolean
  | 18 => .array .int
  | 19 => .int
  | 20 => .array .int
  | 21 => .array .int
  | 22 => .array .int
  | 23 => .array .int
  | 24 => .array .int
  | 25 => .array .int
  | 26 => .int
  | 27 => .array .int
  | 28 => .array .int
  | 29 => .array .int
  | 30 => .array .int
  | 31 => .array .int
  | 32 => .array .int
  | 33 => .array .int
  | 34 => .array .int
  | _ => .array .int
abbrev wsX60 : List Cond := u_ws RX6 TX6 36
theorem nmX6 : ∀ a, a < 36 → ∀ b, b < 36 → a ≠ b → (TX6 a).2.1 ≠ (TX6 b).2.1 := by decide +kernel
theorem tyX6_ok : ∀ k, k < 36 → parseFieldDescriptor (TX6 k).2.2.1 = some (tyX6 k) := by decide +kernel
abbrev cX6_init : ByteArray := prog_8_method_1_code
def yX6_init : MethodName := ⟨RX6, "<init>", "()V"⟩
abbrev cX6_thrown : ByteArray := prog_8_method_2_code
def yX6_thrown : MethodName := ⟨RX6, "thrown", "()I"⟩
abbrev cX6_refused : ByteArray := prog_8_method_3_code
def yX6_refused : MethodName := ⟨RX6, "refused", "(I)Z"⟩
abbrev cX6_feed : ByteArray := prog_8_method_4_code
def yX6_feed : MethodName := ⟨RX6, "feed", "(IIIII)I"⟩
abbrev cX6_put : ByteArray := prog_8_method_5_code
def yX6_put : MethodName := ⟨RX6, "put", "(II)I"⟩
abbrev cX6_cut : ByteArray := prog_8_method_6_code
def yX6_cut : MethodName := ⟨RX6, "cut", "(I)I"⟩
abbrev cX6_say : ByteArray := prog_8_method_7_code
def yX6_say : MethodName := ⟨RX6, "say", "(I)V"⟩
abbrev cX6_turned : ByteArray := prog_8_method_8_code
def yX6_turned : MethodName := ⟨RX6, "turned", "(II)I"⟩
abbrev cX6_word : ByteArray := prog_8_method_9_code
def yX6_word : MethodName := ⟨RX6, "word", "(I)I"⟩
abbrev cX6_digestBlock : ByteArray := prog_8_method_10_code
def yX6_digestBlock : MethodName := ⟨RX6, "digestBlock", "(I)V"⟩
abbrev cX6_finish : ByteArray := prog_8_method_11_code
def yX6_finish : MethodName := ⟨RX6, "finish", "()V"⟩
abbrev cX6_again : ByteArray := prog_8_method_12_code
def yX6_again : MethodName := ⟨RX6, "again", "(II)V"⟩
abbrev cX6_mix : ByteArray := prog_8_method_13_code
def yX6_mix : MethodName := ⟨RX6, "mix", "(I)V"⟩
abbrev cX6_stream : ByteArray := prog_8_method_14_code
def yX6_stream : MethodName := ⟨RX6, "stream", "(II)V"⟩
abbrev cX6_streamRow : ByteArray := prog_8_method_15_code
def yX6_streamRow : MethodName := ⟨RX6, "streamRow", "()V"⟩
abbrev cX6_padWord : ByteArray := prog_8_method_16_code
def yX6_padWord : MethodName := ⟨RX6, "padWord", "(I)V"⟩
abbrev cX6_makeKey : ByteArray := prog_8_method_17_code
def yX6_makeKey : MethodName := ⟨RX6, "makeKey", "()V"⟩
abbrev cX6_takeHand : ByteArray := prog_8_method_18_code
def yX6_takeHand : MethodName := ⟨RX6, "takeHand", "(I)V"⟩
abbrev cX6_makeOwnerKey : ByteArray := prog_8_method_19_code
def yX6_makeOwnerKey : MethodName := ⟨RX6, "makeOwnerKey", "()V"⟩
abbrev cX6_makeUserEntry : ByteArray := prog_8_method_20_code
def yX6_makeUserEntry : MethodName := ⟨RX6, "makeUserEntry", "()V"⟩
abbrev cX6_handler : ByteArray := prog_8_method_21_code
def yX6_handler : MethodName := ⟨RX6, "handler", "(IIIZ)V"⟩
abbrev cX6_take : ByteArray := prog_8_method_22_code
def yX6_take : MethodName := ⟨RX6, "take", "(I)I"⟩
abbrev cX6_makeOwnerEntry : ByteArray := prog_8_method_23_code
def yX6_makeOwnerEntry : MethodName := ⟨RX6, "makeOwnerEntry", "()V"⟩
abbrev cX6_enter : ByteArray := prog_8_method_24_code
def yX6_enter : MethodName := ⟨RX6, "enter", "(I)V"⟩
abbrev cX6_isUsers : ByteArray := prog_8_method_25_code
def yX6_isUsers : MethodName := ⟨RX6, "isUsers", "()Z"⟩
abbrev cX6_know : ByteArray := prog_8_method_26_code
def yX6_know : MethodName := ⟨RX6, "know", "()V"⟩
abbrev cX6_open : ByteArray := prog_8_method_27_code
def yX6_open : MethodName := ⟨RX6, "open", "()I"⟩
abbrev cX6_key : ByteArray := prog_8_method_28_code
def yX6_key : MethodName := ⟨RX6, "key", "(I)I"⟩
abbrev cX6_digest : ByteArray := prog_8_method_29_code
def yX6_digest : MethodName := ⟨RX6, "digest", "()V"⟩
abbrev cX6_doubled : ByteArray := prog_8_method_30_code
def yX6_doubled : MethodName := ⟨RX6, "doubled", "(I)I"⟩
abbrev cX6_product : ByteArray := prog_8_method_31_code
def yX6_product : MethodName := ⟨RX6, "product", "(II)I"⟩
abbrev cX6_swapped : ByteArray := prog_8_method_32_code
def yX6_swapped : MethodName := ⟨RX6, "swapped", "(I)I"⟩
abbrev cX6_unswapped : ByteArray := prog_8_method_33_code
def yX6_unswapped : MethodName := ⟨RX6, "unswapped", "(I)I"⟩
abbrev cX6_makeSwaps : ByteArray := prog_8_method_34_code
def yX6_makeSwaps : MethodName := ⟨RX6, "makeSwaps", "()V"⟩
abbrev cX6_makeColumns : ByteArray := prog_8_method_35_code
def yX6_makeColumns : MethodName := ⟨RX6, "makeColumns", "()V"⟩
abbrev cX6_addKey : ByteArray := prog_8_method_36_code
def yX6_addKey : MethodName := ⟨RX6, "addKey", "(I)V"⟩
abbrev cX6_shift : ByteArray := prog_8_method_37_code
def yX6_shift : MethodName := ⟨RX6, "shift", "(I)V"⟩
abbrev cX6_mixColumns : ByteArray := prog_8_method_38_code
def yX6_mixColumns : MethodName := ⟨RX6, "mixColumns", "(IIII)V"⟩
abbrev cX6_makeBlock : ByteArray := prog_8_method_39_code
def yX6_makeBlock : MethodName := ⟨RX6, "makeBlock", "()V"⟩
abbrev cX6_undoBlock : ByteArray := prog_8_method_40_code
def yX6_undoBlock : MethodName := ⟨RX6, "undoBlock", "()V"⟩
abbrev cX6_makeObjectKey : ByteArray := prog_8_method_41_code
def yX6_makeObjectKey : MethodName := ⟨RX6, "makeObjectKey", "(III)V"⟩
abbrev cX6_isSound : ByteArray := prog_8_method_42_code
def yX6_isSound : MethodName := ⟨RX6, "isSound", "(III)Z"⟩
abbrev cX6_copy : ByteArray := prog_8_method_43_code
def yX6_copy : MethodName := ⟨RX6, "copy", "()V"⟩
abbrev cX6_filling : ByteArray := prog_8_method_44_code
def yX6_filling : MethodName := ⟨RX6, "filling", "()I"⟩
abbrev cX6_undoAt : ByteArray := prog_8_method_45_code
def yX6_undoAt : MethodName := ⟨RX6, "undoAt", "(I)V"⟩
abbrev cX6_undoBlocks : ByteArray := prog_8_method_46_code
def yX6_undoBlocks : MethodName := ⟨RX6, "undoBlocks", "()I"⟩
abbrev cX6_undo : ByteArray := prog_8_method_47_code
def yX6_undo : MethodName := ⟨RX6, "undo", "(III)I"⟩
abbrev cX6_sealBlocks : ByteArray := prog_8_method_48_code
def yX6_sealBlocks : MethodName := ⟨RX6, "sealBlocks", "(II)V"⟩
abbrev cX6_seal : ByteArray := prog_8_method_49_code
def yX6_seal : MethodName := ⟨RX6, "seal", "(IIIII)I"⟩
abbrev cX6_count : ByteArray := prog_8_method_50_code
def yX6_count : MethodName := ⟨RX6, "count", "(I)I"⟩
abbrev cX6_at : ByteArray := prog_8_method_51_code
def yX6_at : MethodName := ⟨RX6, "at", "(I)I"⟩
abbrev cX6_entry : ByteArray := prog_8_method_52_code
def yX6_entry : MethodName := ⟨RX6, "entry", "(II)I"⟩
abbrev cX6_keep : ByteArray := prog_8_method_53_code
def yX6_keep : MethodName := ⟨RX6, "keep", "()I"⟩
def RJ9 : String := "java/lang/Math"
def TJ9 : u_T := fun k => match k with
  | _ => ("", "", "", false)
def tyJ9 : Nat → FieldType := fun k => match k with
  | _ => .int
abbrev wsJ90 : List Cond := u_ws RJ9 TJ9 0
theorem nmJ9 : ∀ a, a < 0 → ∀ b, b < 0 → a ≠ b → (TJ9 a).2.1 ≠ (TJ9 b).2.1 := by decide +kernel
theorem tyJ9_ok : ∀ k, k < 0 → parseFieldDescriptor (TJ9 k).2.2.1 = some (tyJ9 k) := by decide +kernel
abbrev cJ9_min_7cf53 : ByteArray := prog_13_method_69_code
def yJ9_min_7cf53 : MethodName := ⟨RJ9, "min", "(II)I"⟩
def RJ0 : String := "java/lang/String"
def TJ0 : u_T := fun k => match k with
  | _ => ("", "", "", false)
def tyJ0 : Nat → FieldType := fun k => match k with
  | _ => .int
abbrev wsJ00 : List Cond := u_ws RJ0 TJ0 0
theorem nmJ0 : ∀ a, a < 0 → ∀ b, b < 0 → a ≠ b → (TJ0 a).2.1 ≠ (TJ0 b).2.1 := by decide +kernel
theorem tyJ0_ok : ∀ k, k < 0 → parseFieldDescriptor (TJ0 k).2.2.1 = some (tyJ0 k) := by decide +kernel
def RJ10 : String := "java/lang/System"
def TJ10 : u_T := fun k => match k with
  | _ => ("", "", "", false)
def tyJ10 : Nat → FieldType := fun k => match k with
  | _ => .int
abbrev wsJ100 : List Cond := u_ws RJ10 TJ10 0
theorem nmJ10 : ∀ a, a < 0 → ∀ b, b < 0 → a ≠ b → (TJ10 a).2.1 ≠ (TJ10 b).2.1 := by decide +kernel
theorem tyJ10_ok : ∀ k, k < 0 → parseFieldDescriptor (TJ10 k).2.2.1 = some (tyJ10 k) := by decide +kernel
def RL : String := "SheetKeysLaw"
abbrev cL_put : ByteArray := method_3_code
def yL_put : MethodName := ⟨RL, "put", "(LSheetKeys;II[J)I"⟩
abbrev cL_cut : ByteArray := method_4_code
def yL_cut : MethodName := ⟨RL, "cut", "(LSheetKeys;I[J)I"⟩
abbrev cL_handler : ByteArray := method_5_code
def yL_handler : MethodName := ⟨RL, "handler", "(LSheetKeys;IIIZ)I"⟩
abbrev cL_take : ByteArray := method_6_code
def yL_take : MethodName := ⟨RL, "take", "(LSheetKeys;I[J)I"⟩
abbrev cL_enter : ByteArray := method_7_code
def yL_enter : MethodName := ⟨RL, "enter", "(LSheetKeys;I)I"⟩
abbrev cL_undo : ByteArray := method_8_code
def yL_undo : MethodName := ⟨RL, "undo", "(LSheetKeys;III[J)I"⟩
abbrev cL_seal : ByteArray := method_9_code
def yL_seal : MethodName := ⟨RL, "seal", "(LSheetKeys;IIIII[J)I"⟩
abbrev cL_law : ByteArray := code
def yL_law : MethodName := ⟨RL, "law", "([I)Z"⟩
abbrev vwCl : List vw_C := [(RX0, TX0, 4), (RX1, TX1, 17), (RX2, TX2, 5), (RX3, TX3, 2), (RX4, TX4, 1), (RX5, TX5, 3), (RX6, TX6, 36)]
end
section
theorem dX0_init_0 : decode cX0_init 0 = .ok (.aload_n 0, 1) := by decide +kernel
theorem dX0_init_1 : decode cX0_init 1 = .ok (.invokespecial 3, 3) := by decide +kernel
theorem dX0_init_4 : decode cX0_init 4 = .ok (.aload_n 0, 1) := by decide +kernel
theorem dX0_init_5 : decode cX0_init 5 = .ok (.sipush 256, 3) := by decide +kernel
theorem dX0_init_8 : decode cX0_init 8 = .ok (.newarray .int, 2) := by decide +kernel
theorem dX0_init_10 : decode cX0_init 10 = .ok (.putfield 9, 3) := by decide +kernel
theorem dX0_init_13 : decode cX0_init 13 = .ok (.aload_n 0, 1) := by decide +kernel
theorem dX0_init_14 : decode cX0_init 14 = .ok (.sipush 176, 3) := by decide +kernel
theorem dX0_init_17 : decode cX0_init 17 = .ok (.newarray .int, 2) := by decide +kernel
theorem dX0_init_19 : decode cX0_init 19 = .ok (.putfield 15, 3) := by decide +kernel
theorem dX0_init_22 : decode cX0_init 22 = .ok (.aload_n 0, 1) := by decide +kernel
theorem dX0_init_23 : decode cX0_init 23 = .ok (.bipush 16, 2) := by decide +kernel
theorem dX0_init_25 : decode cX0_init 25 = .ok (.newarray .int, 2) := by decide +kernel
theorem dX0_init_27 : decode cX0_init 27 = .ok (.putfield 18, 3) := by decide +kernel
theorem dX0_init_30 : decode cX0_init 30 = .ok (.aload_n 0, 1) := by decide +kernel
theorem dX0_init_31 : decode cX0_init 31 = .ok (.bipush 16, 2) := by decide +kernel
theorem dX0_init_33 : decode cX0_init 33 = .ok (.newarray .int, 2) := by decide +kernel
theorem dX0_init_35 : decode cX0_init 35 = .ok (.putfield 21, 3) := by decide +kernel
theorem dX0_init_38 : decode cX0_init 38 = .ok (.iconst 0, 1) := by decide +kernel
theorem dX0_init_39 : decode cX0_init 39 = .ok (.istore_n 1, 1) := by decide +kernel
theorem dX0_init_40 : decode cX0_init 40 = .ok (.iload_n 1, 1) := by decide +kernel
theorem dX0_init_41 : decode cX0_init 41 = .ok (.sipush 256, 3) := by decide +kernel
theorem dX0_init_44 : decode cX0_init 44 = .ok (.if_icmp .ge 20, 3) := by decide +kernel
theorem dX0_init_47 : decode cX0_init 47 = .ok (.aload_n 0, 1) := by decide +kernel
theorem dX0_init_48 : decode cX0_init 48 = .ok (.getfield 9, 3) := by decide +kernel
theorem dX0_init_51 : decode cX0_init 51 = .ok (.getstatic 24, 3) := by decide +kernel
theorem dX0_init_54 : decode cX0_init 54 = .ok (.iload_n 1, 1) := by decide +kernel
theorem dX0_init_55 : decode cX0_init 55 = .ok (.iaload, 1) := by decide +kernel
theorem dX0_init_56 : decode cX0_init 56 = .ok (.iload_n 1, 1) := by decide +kernel
theorem dX0_init_57 : decode cX0_init 57 = .ok (.iastore, 1) := by decide +kernel
theorem dX0_init_58 : decode cX0_init 58 = .ok (.iinc 1 1, 3) := by decide +kernel
theorem dX0_init_61 : decode cX0_init 61 = .ok (.goto (-21), 3) := by decide +kernel
theorem dX0_init_64 : decode cX0_init 64 = .ok (.return_, 1) := by decide +kernel
theorem dX0_expand_0 : decode cX0_expand 0 = .ok (.iconst 0, 1) := by decide +kernel
theorem dX0_expand_1 : decode cX0_expand 1 = .ok (.istore_n 2, 1) := by decide +kernel
theorem dX0_expand_2 : decode cX0_expand 2 = .ok (.iload_n 2, 1) := by decide +kernel
theorem dX0_expand_3 : decode cX0_expand 3 = .ok (.bipush 16, 2) := by decide +kernel
theorem dX0_expand_5 : decode cX0_expand 5 = .ok (.if_icmp .ge 33, 3) := by decide +kernel
theorem dX0_expand_8 : decode cX0_expand 8 = .ok (.aload_n 0, 1) := by decide +kernel
theorem dX0_expand_9 : decode cX0_expand 9 = .ok (.getfield 15, 3) := by decide +kernel
theorem dX0_expand_12 : decode cX0_expand 12 = .ok (.iload_n 2, 1) := by decide +kernel
theorem dX0_expand_13 : decode cX0_expand 13 = .ok (.iload_n 2, 1) := by decide +kernel
theorem dX0_expand_14 : decode cX0_expand 14 = .ok (.aload_n 1, 1) := by decide +kernel
theorem dX0_expand_15 : decode cX0_expand 15 = .ok (.getfield 27, 3) := by decide +kernel
theorem dX0_expand_18 : decode cX0_expand 18 = .ok (.if_icmp .ge 12, 3) := by decide +kernel
theorem dX0_expand_21 : decode cX0_expand 21 = .ok (.aload_n 1, 1) := by decide +kernel
theorem dX0_expand_22 : decode cX0_expand 22 = .ok (.getfield 33, 3) := by decide +kernel
theorem dX0_expand_25 : decode cX0_expand 25 = .ok (.iload_n 2, 1) := by decide +kernel
theorem dX0_expand_26 : decode cX0_expand 26 = .ok (.iaload, 1) := by decide +kernel
theorem dX0_expand_27 : decode cX0_expand 27 = .ok (.goto 4, 3) := by decide +kernel
theorem dX0_expand_30 : decode cX0_expand 30 = .ok (.iconst 0, 1) := by decide +kernel
theorem dX0_expand_31 : decode cX0_expand 31 = .ok (.iastore, 1) := by decide +kernel
theorem dX0_expand_32 : decode cX0_expand 32 = .ok (.iinc 2 1, 3) := by decide +kernel
theorem dX0_expand_35 : decode cX0_expand 35 = .ok (.goto (-33), 3) := by decide +kernel
theorem dX0_expand_38 : decode cX0_expand 38 = .ok (.iconst 1, 1) := by decide +kernel
theorem dX0_expand_39 : decode cX0_expand 39 = .ok (.istore_n 2, 1) := by decide +kernel
theorem dX0_expand_40 : decode cX0_expand 40 = .ok (.bipush 16, 2) := by decide +kernel
theorem dX0_expand_42 : decode cX0_expand 42 = .ok (.istore_n 3, 1) := by decide +kernel
theorem dX0_expand_43 : decode cX0_expand 43 = .ok (.iload_n 3, 1) := by decide +kernel
theorem dX0_expand_44 : decode cX0_expand 44 = .ok (.aload_n 0, 1) := by decide +kernel
theorem dX0_expand_45 : decode cX0_expand 45 = .ok (.getfield 15, 3) := by decide +kernel
theorem dX0_expand_48 : decode cX0_expand 48 = .ok (.arraylength, 1) := by decide +kernel
theorem dX0_expand_49 : decode cX0_expand 49 = .ok (.if_icmp .ge 204, 3) := by decide +kernel
theorem dX0_expand_52 : decode cX0_expand 52 = .ok (.iload_n 3, 1) := by decide +kernel
theorem dX0_expand_53 : decode cX0_expand 53 = .ok (.bipush 16, 2) := by decide +kernel
theorem dX0_expand_55 : decode cX0_expand 55 = .ok (.irem, 1) := by decide +kernel
theorem dX0_expand_56 : decode cX0_expand 56 = .ok (.ifCond .ne 147, 3) := by decide +kernel
theorem dX0_expand_59 : decode cX0_expand 59 = .ok (.aload_n 0, 1) := by decide +kernel
theorem dX0_expand_60 : decode cX0_expand 60 = .ok (.getfield 15, 3) := by decide +kernel
theorem dX0_expand_63 : decode cX0_expand 63 = .ok (.iload_n 3, 1) := by decide +kernel
theorem dX0_expand_64 : decode cX0_expand 64 = .ok (.aload_n 0, 1) := by decide +kernel
theorem dX0_expand_65 : decode cX0_expand 65 = .ok (.getfield 15, 3) := by decide +kernel
theorem dX0_expand_68 : decode cX0_expand 68 = .ok (.iload_n 3, 1) := by decide +kernel
theorem dX0_expand_69 : decode cX0_expand 69 = .ok (.bipush 16, 2) := by decide +kernel
theorem dX0_expand_71 : decode cX0_expand 71 = .ok (.isub, 1) := by decide +kernel
theorem dX0_expand_72 : decode cX0_expand 72 = .ok (.iaload, 1) := by decide +kernel
theorem dX0_expand_73 : decode cX0_expand 73 = .ok (.getstatic 24, 3) := by decide +kernel
theorem dX0_expand_76 : decode cX0_expand 76 = .ok (.aload_n 0, 1) := by decide +kernel
theorem dX0_expand_77 : decode cX0_expand 77 = .ok (.getfield 15, 3) := by decide +kernel
theorem dX0_expand_80 : decode cX0_expand 80 = .ok (.iload_n 3, 1) := by decide +kernel
theorem dX0_expand_81 : decode cX0_expand 81 = .ok (.iconst 3, 1) := by decide +kernel
theorem dX0_expand_82 : decode cX0_expand 82 = .ok (.isub, 1) := by decide +kernel
theorem dX0_expand_83 : decode cX0_expand 83 = .ok (.iaload, 1) := by decide +kernel
theorem dX0_expand_84 : decode cX0_expand 84 = .ok (.sipush 255, 3) := by decide +kernel
theorem dX0_expand_87 : decode cX0_expand 87 = .ok (.iand, 1) := by decide +kernel
theorem dX0_expand_88 : decode cX0_expand 88 = .ok (.iaload, 1) := by decide +kernel
theorem dX0_expand_89 : decode cX0_expand 89 = .ok (.ixor, 1) := by decide +kernel
theorem dX0_expand_90 : decode cX0_expand 90 = .ok (.iload_n 2, 1) := by decide +kernel
theorem dX0_expand_91 : decode cX0_expand 91 = .ok (.ixor, 1) := by decide +kernel
theorem dX0_expand_92 : decode cX0_expand 92 = .ok (.iastore, 1) := by decide +kernel
theorem dX0_expand_93 : decode cX0_expand 93 = .ok (.aload_n 0, 1) := by decide +kernel
theorem dX0_expand_94 : decode cX0_expand 94 = .ok (.getfield 15, 3) := by decide +kernel
theorem dX0_expand_97 : decode cX0_expand 97 = .ok (.iload_n 3, 1) := by decide +kernel
theorem dX0_expand_98 : decode cX0_expand 98 = .ok (.iconst 1, 1) := by decide +kernel
theorem dX0_expand_99 : decode cX0_expand 99 = .ok (.iadd, 1) := by decide +kernel
theorem dX0_expand_100 : decode cX0_expand 100 = .ok (.aload_n 0, 1) := by decide +kernel
theorem dX0_expand_101 : decode cX0_expand 101 = .ok (.getfield 15, 3) := by decide +kernel
theorem dX0_expand_104 : decode cX0_expand 104 = .ok (.iload_n 3, 1) := by decide +kernel
theorem dX0_expand_105 : decode cX0_expand 105 = .ok (.bipush 15, 2) := by decide +kernel
theorem dX0_expand_107 : decode cX0_expand 107 = .ok (.isub, 1) := by decide +kernel
theorem dX0_expand_108 : decode cX0_expand 108 = .ok (.iaload, 1) := by decide +kernel
theorem dX0_expand_109 : decode cX0_expand 109 = .ok (.getstatic 24, 3) := by decide +kernel
theorem dX0_expand_112 : decode cX0_expand 112 = .ok (.aload_n 0, 1) := by decide +kernel
theorem dX0_expand_113 : decode cX0_expand 113 = .ok (.getfield 15, 3) := by decide +kernel
theorem dX0_expand_116 : decode cX0_expand 116 = .ok (.iload_n 3, 1) := by decide +kernel
theorem dX0_expand_117 : decode cX0_expand 117 = .ok (.iconst 2, 1) := by decide +kernel
theorem dX0_expand_118 : decode cX0_expand 118 = .ok (.isub, 1) := by decide +kernel
theorem dX0_expand_119 : decode cX0_expand 119 = .ok (.iaload, 1) := by decide +kernel
theorem dX0_expand_120 : decode cX0_expand 120 = .ok (.sipush 255, 3) := by decide +kernel
theorem dX0_expand_123 : decode cX0_expand 123 = .ok (.iand, 1) := by decide +kernel
theorem dX0_expand_124 : decode cX0_expand 124 = .ok (.iaload, 1) := by decide +kernel
theorem dX0_expand_125 : decode cX0_expand 125 = .ok (.ixor, 1) := by decide +kernel
theorem dX0_expand_126 : decode cX0_expand 126 = .ok (.iastore, 1) := by decide +kernel
theorem dX0_expand_127 : decode cX0_expand 127 = .ok (.aload_n 0, 1) := by decide +kernel
theorem dX0_expand_128 : decode cX0_expand 128 = .ok (.getfield 15, 3) := by decide +kernel
theorem dX0_expand_131 : decode cX0_expand 131 = .ok (.iload_n 3, 1) := by decide +kernel
theorem dX0_expand_132 : decode cX0_expand 132 = .ok (.iconst 2, 1) := by decide +kernel
theorem dX0_expand_133 : decode cX0_expand 133 = .ok (.iadd, 1) := by decide +kernel
theorem dX0_expand_134 : decode cX0_expand 134 = .ok (.aload_n 0, 1) := by decide +kernel
theorem dX0_expand_135 : decode cX0_expand 135 = .ok (.getfield 15, 3) := by decide +kernel
theorem dX0_expand_138 : decode cX0_expand 138 = .ok (.iload_n 3, 1) := by decide +kernel
theorem dX0_expand_139 : decode cX0_expand 139 = .ok (.bipush 14, 2) := by decide +kernel
theorem dX0_expand_141 : decode cX0_expand 141 = .ok (.isub, 1) := by decide +kernel
theorem dX0_expand_142 : decode cX0_expand 142 = .ok (.iaload, 1) := by decide +kernel
theorem dX0_expand_143 : decode cX0_expand 143 = .ok (.getstatic 24, 3) := by decide +kernel
theorem dX0_expand_146 : decode cX0_expand 146 = .ok (.aload_n 0, 1) := by decide +kernel
theorem dX0_expand_147 : decode cX0_expand 147 = .ok (.getfield 15, 3) := by decide +kernel
theorem dX0_expand_150 : decode cX0_expand 150 = .ok (.iload_n 3, 1) := by decide +kernel
theorem dX0_expand_151 : decode cX0_expand 151 = .ok (.iconst 1, 1) := by decide +kernel
theorem dX0_expand_152 : decode cX0_expand 152 = .ok (.isub, 1) := by decide +kernel
theorem dX0_expand_153 : decode cX0_expand 153 = .ok (.iaload, 1) := by decide +kernel
theorem dX0_expand_154 : decode cX0_expand 154 = .ok (.sipush 255, 3) := by decide +kernel
theorem dX0_expand_157 : decode cX0_expand 157 = .ok (.iand, 1) := by decide +kernel
theorem dX0_expand_158 : decode cX0_expand 158 = .ok (.iaload, 1) := by decide +kernel
theorem dX0_expand_159 : decode cX0_expand 159 = .ok (.ixor, 1) := by decide +kernel
theorem dX0_expand_160 : decode cX0_expand 160 = .ok (.iastore, 1) := by decide +kernel
theorem dX0_expand_161 : decode cX0_expand 161 = .ok (.aload_n 0, 1) := by decide +kernel
theorem dX0_expand_162 : decode cX0_expand 162 = .ok (.getfield 15, 3) := by decide +kernel
theorem dX0_expand_165 : decode cX0_expand 165 = .ok (.iload_n 3, 1) := by decide +kernel
theorem dX0_expand_166 : decode cX0_expand 166 = .ok (.iconst 3, 1) := by decide +kernel
theorem dX0_expand_167 : decode cX0_expand 167 = .ok (.iadd, 1) := by decide +kernel
theorem dX0_expand_168 : decode cX0_expand 168 = .ok (.aload_n 0, 1) := by decide +kernel
theorem dX0_expand_169 : decode cX0_expand 169 = .ok (.getfield 15, 3) := by decide +kernel
theorem dX0_expand_172 : decode cX0_expand 172 = .ok (.iload_n 3, 1) := by decide +kernel
theorem dX0_expand_173 : decode cX0_expand 173 = .ok (.bipush 13, 2) := by decide +kernel
theorem dX0_expand_175 : decode cX0_expand 175 = .ok (.isub, 1) := by decide +kernel
theorem dX0_expand_176 : decode cX0_expand 176 = .ok (.iaload, 1) := by decide +kernel
theorem dX0_expand_177 : decode cX0_expand 177 = .ok (.getstatic 24, 3) := by decide +kernel
theorem dX0_expand_180 : decode cX0_expand 180 = .ok (.aload_n 0, 1) := by decide +kernel
theorem dX0_expand_181 : decode cX0_expand 181 = .ok (.getfield 15, 3) := by decide +kernel
theorem dX0_expand_184 : decode cX0_expand 184 = .ok (.iload_n 3, 1) := by decide +kernel
theorem dX0_expand_185 : decode cX0_expand 185 = .ok (.iconst 4, 1) := by decide +kernel
theorem dX0_expand_186 : decode cX0_expand 186 = .ok (.isub, 1) := by decide +kernel
theorem dX0_expand_187 : decode cX0_expand 187 = .ok (.iaload, 1) := by decide +kernel
theorem dX0_expand_188 : decode cX0_expand 188 = .ok (.sipush 255, 3) := by decide +kernel
theorem dX0_expand_191 : decode cX0_expand 191 = .ok (.iand, 1) := by decide +kernel
theorem dX0_expand_192 : decode cX0_expand 192 = .ok (.iaload, 1) := by decide +kernel
theorem dX0_expand_193 : decode cX0_expand 193 = .ok (.ixor, 1) := by decide +kernel
theorem dX0_expand_194 : decode cX0_expand 194 = .ok (.iastore, 1) := by decide +kernel
theorem dX0_expand_195 : decode cX0_expand 195 = .ok (.iload_n 2, 1) := by decide +kernel
theorem dX0_expand_196 : decode cX0_expand 196 = .ok (.invokestatic 36, 3) := by decide +kernel
theorem dX0_expand_199 : decode cX0_expand 199 = .ok (.istore_n 2, 1) := by decide +kernel
theorem dX0_expand_200 : decode cX0_expand 200 = .ok (.goto 47, 3) := by decide +kernel
theorem dX0_expand_203 : decode cX0_expand 203 = .ok (.iload_n 3, 1) := by decide +kernel
theorem dX0_expand_204 : decode cX0_expand 204 = .ok (.istore 4, 2) := by decide +kernel
theorem dX0_expand_206 : decode cX0_expand 206 = .ok (.iload 4, 2) := by decide +kernel
theorem dX0_expand_208 : decode cX0_expand 208 = .ok (.iload_n 3, 1) := by decide +kernel
theorem dX0_expand_209 : decode cX0_expand 209 = .ok (.iconst 4, 1) := by decide +kernel
theorem dX0_expand_210 : decode cX0_expand 210 = .ok (.iadd, 1) := by decide +kernel
theorem dX0_expand_211 : decode cX0_expand 211 = .ok (.if_icmp .ge 36, 3) := by decide +kernel
theorem dX0_expand_214 : decode cX0_expand 214 = .ok (.aload_n 0, 1) := by decide +kernel
theorem dX0_expand_215 : decode cX0_expand 215 = .ok (.getfield 15, 3) := by decide +kernel
theorem dX0_expand_218 : decode cX0_expand 218 = .ok (.iload 4, 2) := by decide +kernel
theorem dX0_expand_220 : decode cX0_expand 220 = .ok (.aload_n 0, 1) := by decide +kernel
theorem dX0_expand_221 : decode cX0_expand 221 = .ok (.getfield 15, 3) := by decide +kernel
theorem dX0_expand_224 : decode cX0_expand 224 = .ok (.iload 4, 2) := by decide +kernel
theorem dX0_expand_226 : decode cX0_expand 226 = .ok (.bipush 16, 2) := by decide +kernel
theorem dX0_expand_228 : decode cX0_expand 228 = .ok (.isub, 1) := by decide +kernel
theorem dX0_expand_229 : decode cX0_expand 229 = .ok (.iaload, 1) := by decide +kernel
theorem dX0_expand_230 : decode cX0_expand 230 = .ok (.aload_n 0, 1) := by decide +kernel
theorem dX0_expand_231 : decode cX0_expand 231 = .ok (.getfield 15, 3) := by decide +kernel
theorem dX0_expand_234 : decode cX0_expand 234 = .ok (.iload 4, 2) := by decide +kernel
theorem dX0_expand_236 : decode cX0_expand 236 = .ok (.iconst 4, 1) := by decide +kernel
theorem dX0_expand_237 : decode cX0_expand 237 = .ok (.isub, 1) := by decide +kernel
theorem dX0_expand_238 : decode cX0_expand 238 = .ok (.iaload, 1) := by decide +kernel
theorem dX0_expand_239 : decode cX0_expand 239 = .ok (.ixor, 1) := by decide +kernel
theorem dX0_expand_240 : decode cX0_expand 240 = .ok (.iastore, 1) := by decide +kernel
theorem dX0_expand_241 : decode cX0_expand 241 = .ok (.iinc 4 1, 3) := by decide +kernel
theorem dX0_expand_244 : decode cX0_expand 244 = .ok (.goto (-38), 3) := by decide +kernel
theorem dX0_expand_247 : decode cX0_expand 247 = .ok (.iinc 3 4, 3) := by decide +kernel
theorem dX0_expand_250 : decode cX0_expand 250 = .ok (.goto (-207), 3) := by decide +kernel
theorem dX0_expand_253 : decode cX0_expand 253 = .ok (.return_, 1) := by decide +kernel
theorem dX0_loadFrom_0 : decode cX0_loadFrom 0 = .ok (.aload_n 1, 1) := by decide +kernel
theorem dX0_loadFrom_1 : decode cX0_loadFrom 1 = .ok (.iload_n 2, 1) := by decide +kernel
theorem dX0_loadFrom_2 : decode cX0_loadFrom 2 = .ok (.invokestatic 40, 3) := by decide +kernel
theorem dX0_loadFrom_5 : decode cX0_loadFrom 5 = .ok (.ifCond .eq 18, 3) := by decide +kernel
theorem dX0_loadFrom_8 : decode cX0_loadFrom 8 = .ok (.aload_n 1, 1) := by decide +kernel
theorem dX0_loadFrom_9 : decode cX0_loadFrom 9 = .ok (.getfield 33, 3) := by decide +kernel
theorem dX0_loadFrom_12 : decode cX0_loadFrom 12 = .ok (.iload_n 2, 1) := by decide +kernel
theorem dX0_loadFrom_13 : decode cX0_loadFrom 13 = .ok (.aload_n 0, 1) := by decide +kernel
theorem dX0_loadFrom_14 : decode cX0_loadFrom 14 = .ok (.getfield 18, 3) := by decide +kernel
theorem dX0_loadFrom_17 : decode cX0_loadFrom 17 = .ok (.iconst 0, 1) := by decide +kernel
theorem dX0_loadFrom_18 : decode cX0_loadFrom 18 = .ok (.bipush 16, 2) := by decide +kernel
theorem dX0_loadFrom_20 : decode cX0_loadFrom 20 = .ok (.invokestatic 44, 3) := by decide +kernel
theorem dX0_loadFrom_23 : decode cX0_loadFrom 23 = .ok (.return_, 1) := by decide +kernel
theorem dX0_addFrom_0 : decode cX0_addFrom 0 = .ok (.aload_n 1, 1) := by decide +kernel
theorem dX0_addFrom_1 : decode cX0_addFrom 1 = .ok (.iload_n 2, 1) := by decide +kernel
theorem dX0_addFrom_2 : decode cX0_addFrom 2 = .ok (.invokestatic 40, 3) := by decide +kernel
theorem dX0_addFrom_5 : decode cX0_addFrom 5 = .ok (.ifCond .eq 34, 3) := by decide +kernel
theorem dX0_addFrom_8 : decode cX0_addFrom 8 = .ok (.iconst 0, 1) := by decide +kernel
theorem dX0_addFrom_9 : decode cX0_addFrom 9 = .ok (.istore_n 3, 1) := by decide +kernel
theorem dX0_addFrom_10 : decode cX0_addFrom 10 = .ok (.iload_n 3, 1) := by decide +kernel
theorem dX0_addFrom_11 : decode cX0_addFrom 11 = .ok (.bipush 16, 2) := by decide +kernel
theorem dX0_addFrom_13 : decode cX0_addFrom 13 = .ok (.if_icmp .ge 26, 3) := by decide +kernel
theorem dX0_addFrom_16 : decode cX0_addFrom 16 = .ok (.aload_n 0, 1) := by decide +kernel
theorem dX0_addFrom_17 : decode cX0_addFrom 17 = .ok (.getfield 18, 3) := by decide +kernel
theorem dX0_addFrom_20 : decode cX0_addFrom 20 = .ok (.iload_n 3, 1) := by decide +kernel
theorem dX0_addFrom_21 : decode cX0_addFrom 21 = .ok (.dup2, 1) := by decide +kernel
theorem dX0_addFrom_22 : decode cX0_addFrom 22 = .ok (.iaload, 1) := by decide +kernel
theorem dX0_addFrom_23 : decode cX0_addFrom 23 = .ok (.aload_n 1, 1) := by decide +kernel
theorem dX0_addFrom_24 : decode cX0_addFrom 24 = .ok (.getfield 33, 3) := by decide +kernel
theorem dX0_addFrom_27 : decode cX0_addFrom 27 = .ok (.iload_n 2, 1) := by decide +kernel
theorem dX0_addFrom_28 : decode cX0_addFrom 28 = .ok (.iload_n 3, 1) := by decide +kernel
theorem dX0_addFrom_29 : decode cX0_addFrom 29 = .ok (.iadd, 1) := by decide +kernel
theorem dX0_addFrom_30 : decode cX0_addFrom 30 = .ok (.iaload, 1) := by decide +kernel
theorem dX0_addFrom_31 : decode cX0_addFrom 31 = .ok (.ixor, 1) := by decide +kernel
theorem dX0_addFrom_32 : decode cX0_addFrom 32 = .ok (.iastore, 1) := by decide +kernel
theorem dX0_addFrom_33 : decode cX0_addFrom 33 = .ok (.iinc 3 1, 3) := by decide +kernel
theorem dX0_addFrom_36 : decode cX0_addFrom 36 = .ok (.goto (-26), 3) := by decide +kernel
theorem dX0_addFrom_39 : decode cX0_addFrom 39 = .ok (.return_, 1) := by decide +kernel
theorem dX0_storeTo_0 : decode cX0_storeTo 0 = .ok (.aload_n 1, 1) := by decide +kernel
theorem dX0_storeTo_1 : decode cX0_storeTo 1 = .ok (.iload_n 2, 1) := by decide +kernel
theorem dX0_storeTo_2 : decode cX0_storeTo 2 = .ok (.invokestatic 40, 3) := by decide +kernel
theorem dX0_storeTo_5 : decode cX0_storeTo 5 = .ok (.ifCond .eq 18, 3) := by decide +kernel
theorem dX0_storeTo_8 : decode cX0_storeTo 8 = .ok (.aload_n 0, 1) := by decide +kernel
theorem dX0_storeTo_9 : decode cX0_storeTo 9 = .ok (.getfield 18, 3) := by decide +kernel
theorem dX0_storeTo_12 : decode cX0_storeTo 12 = .ok (.iconst 0, 1) := by decide +kernel
theorem dX0_storeTo_13 : decode cX0_storeTo 13 = .ok (.aload_n 1, 1) := by decide +kernel
theorem dX0_storeTo_14 : decode cX0_storeTo 14 = .ok (.getfield 33, 3) := by decide +kernel
theorem dX0_storeTo_17 : decode cX0_storeTo 17 = .ok (.iload_n 2, 1) := by decide +kernel
theorem dX0_storeTo_18 : decode cX0_storeTo 18 = .ok (.bipush 16, 2) := by decide +kernel
theorem dX0_storeTo_20 : decode cX0_storeTo 20 = .ok (.invokestatic 44, 3) := by decide +kernel
theorem dX0_storeTo_23 : decode cX0_storeTo 23 = .ok (.return_, 1) := by decide +kernel
theorem dX0_fits_0 : decode cX0_fits 0 = .ok (.iload_n 1, 1) := by decide +kernel
theorem dX0_fits_1 : decode cX0_fits 1 = .ok (.ifCond .lt 19, 3) := by decide +kernel
theorem dX0_fits_4 : decode cX0_fits 4 = .ok (.iload_n 1, 1) := by decide +kernel
theorem dX0_fits_5 : decode cX0_fits 5 = .ok (.aload_n 0, 1) := by decide +kernel
theorem dX0_fits_6 : decode cX0_fits 6 = .ok (.getfield 33, 3) := by decide +kernel
theorem dX0_fits_9 : decode cX0_fits 9 = .ok (.arraylength, 1) := by decide +kernel
theorem dX0_fits_10 : decode cX0_fits 10 = .ok (.bipush 16, 2) := by decide +kernel
theorem dX0_fits_12 : decode cX0_fits 12 = .ok (.isub, 1) := by decide +kernel
theorem dX0_fits_13 : decode cX0_fits 13 = .ok (.if_icmp .gt 7, 3) := by decide +kernel
theorem dX0_fits_16 : decode cX0_fits 16 = .ok (.iconst 1, 1) := by decide +kernel
theorem dX0_fits_17 : decode cX0_fits 17 = .ok (.goto 4, 3) := by decide +kernel
theorem dX0_fits_20 : decode cX0_fits 20 = .ok (.iconst 0, 1) := by decide +kernel
theorem dX0_fits_21 : decode cX0_fits 21 = .ok (.ireturn, 1) := by decide +kernel
theorem dX0_filling_0 : decode cX0_filling 0 = .ok (.aload_n 0, 1) := by decide +kernel
theorem dX0_filling_1 : decode cX0_filling 1 = .ok (.getfield 18, 3) := by decide +kernel
theorem dX0_filling_4 : decode cX0_filling 4 = .ok (.bipush 15, 2) := by decide +kernel
theorem dX0_filling_6 : decode cX0_filling 6 = .ok (.iaload, 1) := by decide +kernel
theorem dX0_filling_7 : decode cX0_filling 7 = .ok (.istore_n 1, 1) := by decide +kernel
theorem dX0_filling_8 : decode cX0_filling 8 = .ok (.iload_n 1, 1) := by decide +kernel
theorem dX0_filling_9 : decode cX0_filling 9 = .ok (.iconst 1, 1) := by decide +kernel
theorem dX0_filling_10 : decode cX0_filling 10 = .ok (.if_icmp .lt 9, 3) := by decide +kernel
theorem dX0_filling_13 : decode cX0_filling 13 = .ok (.iload_n 1, 1) := by decide +kernel
theorem dX0_filling_14 : decode cX0_filling 14 = .ok (.bipush 16, 2) := by decide +kernel
theorem dX0_filling_16 : decode cX0_filling 16 = .ok (.if_icmp .le 5, 3) := by decide +kernel
theorem dX0_filling_19 : decode cX0_filling 19 = .ok (.iconst 0, 1) := by decide +kernel
theorem dX0_filling_20 : decode cX0_filling 20 = .ok (.ireturn, 1) := by decide +kernel
theorem dX0_filling_21 : decode cX0_filling 21 = .ok (.bipush 16, 2) := by decide +kernel
theorem dX0_filling_23 : decode cX0_filling 23 = .ok (.iload_n 1, 1) := by decide +kernel
theorem dX0_filling_24 : decode cX0_filling 24 = .ok (.isub, 1) := by decide +kernel
theorem dX0_filling_25 : decode cX0_filling 25 = .ok (.istore_n 2, 1) := by decide +kernel
theorem dX0_filling_26 : decode cX0_filling 26 = .ok (.iload_n 2, 1) := by decide +kernel
theorem dX0_filling_27 : decode cX0_filling 27 = .ok (.bipush 16, 2) := by decide +kernel
theorem dX0_filling_29 : decode cX0_filling 29 = .ok (.if_icmp .ge 21, 3) := by decide +kernel
theorem dX0_filling_32 : decode cX0_filling 32 = .ok (.aload_n 0, 1) := by decide +kernel
theorem dX0_filling_33 : decode cX0_filling 33 = .ok (.getfield 18, 3) := by decide +kernel
theorem dX0_filling_36 : decode cX0_filling 36 = .ok (.iload_n 2, 1) := by decide +kernel
theorem dX0_filling_37 : decode cX0_filling 37 = .ok (.iaload, 1) := by decide +kernel
theorem dX0_filling_38 : decode cX0_filling 38 = .ok (.iload_n 1, 1) := by decide +kernel
theorem dX0_filling_39 : decode cX0_filling 39 = .ok (.if_icmp .eq 5, 3) := by decide +kernel
theorem dX0_filling_42 : decode cX0_filling 42 = .ok (.iconst 0, 1) := by decide +kernel
theorem dX0_filling_43 : decode cX0_filling 43 = .ok (.ireturn, 1) := by decide +kernel
theorem dX0_filling_44 : decode cX0_filling 44 = .ok (.iinc 2 1, 3) := by decide +kernel
theorem dX0_filling_47 : decode cX0_filling 47 = .ok (.goto (-21), 3) := by decide +kernel
theorem dX0_filling_50 : decode cX0_filling 50 = .ok (.iload_n 1, 1) := by decide +kernel
theorem dX0_filling_51 : decode cX0_filling 51 = .ok (.ireturn, 1) := by decide +kernel
theorem dX0_makeBlock_0 : decode cX0_makeBlock 0 = .ok (.aload_n 0, 1) := by decide +kernel
theorem dX0_makeBlock_1 : decode cX0_makeBlock 1 = .ok (.iconst 0, 1) := by decide +kernel
theorem dX0_makeBlock_2 : decode cX0_makeBlock 2 = .ok (.invokevirtual 50, 3) := by decide +kernel
theorem dX0_makeBlock_5 : decode cX0_makeBlock 5 = .ok (.iconst 1, 1) := by decide +kernel
theorem dX0_makeBlock_6 : decode cX0_makeBlock 6 = .ok (.istore_n 1, 1) := by decide +kernel
theorem dX0_makeBlock_7 : decode cX0_makeBlock 7 = .ok (.iload_n 1, 1) := by decide +kernel
theorem dX0_makeBlock_8 : decode cX0_makeBlock 8 = .ok (.bipush 10, 2) := by decide +kernel
theorem dX0_makeBlock_10 : decode cX0_makeBlock 10 = .ok (.if_icmp .gt 28, 3) := by decide +kernel
theorem dX0_makeBlock_13 : decode cX0_makeBlock 13 = .ok (.aload_n 0, 1) := by decide +kernel
theorem dX0_makeBlock_14 : decode cX0_makeBlock 14 = .ok (.invokevirtual 54, 3) := by decide +kernel
theorem dX0_makeBlock_17 : decode cX0_makeBlock 17 = .ok (.iload_n 1, 1) := by decide +kernel
theorem dX0_makeBlock_18 : decode cX0_makeBlock 18 = .ok (.bipush 10, 2) := by decide +kernel
theorem dX0_makeBlock_20 : decode cX0_makeBlock 20 = .ok (.if_icmp .ge 7, 3) := by decide +kernel
theorem dX0_makeBlock_23 : decode cX0_makeBlock 23 = .ok (.aload_n 0, 1) := by decide +kernel
theorem dX0_makeBlock_24 : decode cX0_makeBlock 24 = .ok (.invokevirtual 57, 3) := by decide +kernel
theorem dX0_makeBlock_27 : decode cX0_makeBlock 27 = .ok (.aload_n 0, 1) := by decide +kernel
theorem dX0_makeBlock_28 : decode cX0_makeBlock 28 = .ok (.iload_n 1, 1) := by decide +kernel
theorem dX0_makeBlock_29 : decode cX0_makeBlock 29 = .ok (.invokevirtual 50, 3) := by decide +kernel
theorem dX0_makeBlock_32 : decode cX0_makeBlock 32 = .ok (.iinc 1 1, 3) := by decide +kernel
theorem dX0_makeBlock_35 : decode cX0_makeBlock 35 = .ok (.goto (-28), 3) := by decide +kernel
theorem dX0_makeBlock_38 : decode cX0_makeBlock 38 = .ok (.return_, 1) := by decide +kernel
theorem dX0_unmakeBlock_0 : decode cX0_unmakeBlock 0 = .ok (.bipush 10, 2) := by decide +kernel
theorem dX0_unmakeBlock_2 : decode cX0_unmakeBlock 2 = .ok (.istore_n 1, 1) := by decide +kernel
theorem dX0_unmakeBlock_3 : decode cX0_unmakeBlock 3 = .ok (.iload_n 1, 1) := by decide +kernel
theorem dX0_unmakeBlock_4 : decode cX0_unmakeBlock 4 = .ok (.iconst 1, 1) := by decide +kernel
theorem dX0_unmakeBlock_5 : decode cX0_unmakeBlock 5 = .ok (.if_icmp .lt 28, 3) := by decide +kernel
theorem dX0_unmakeBlock_8 : decode cX0_unmakeBlock 8 = .ok (.aload_n 0, 1) := by decide +kernel
theorem dX0_unmakeBlock_9 : decode cX0_unmakeBlock 9 = .ok (.iload_n 1, 1) := by decide +kernel
theorem dX0_unmakeBlock_10 : decode cX0_unmakeBlock 10 = .ok (.invokevirtual 50, 3) := by decide +kernel
theorem dX0_unmakeBlock_13 : decode cX0_unmakeBlock 13 = .ok (.iload_n 1, 1) := by decide +kernel
theorem dX0_unmakeBlock_14 : decode cX0_unmakeBlock 14 = .ok (.bipush 10, 2) := by decide +kernel
theorem dX0_unmakeBlock_16 : decode cX0_unmakeBlock 16 = .ok (.if_icmp .ge 7, 3) := by decide +kernel
theorem dX0_unmakeBlock_19 : decode cX0_unmakeBlock 19 = .ok (.aload_n 0, 1) := by decide +kernel
theorem dX0_unmakeBlock_20 : decode cX0_unmakeBlock 20 = .ok (.invokevirtual 60, 3) := by decide +kernel
theorem dX0_unmakeBlock_23 : decode cX0_unmakeBlock 23 = .ok (.aload_n 0, 1) := by decide +kernel
theorem dX0_unmakeBlock_24 : decode cX0_unmakeBlock 24 = .ok (.invokevirtual 63, 3) := by decide +kernel
theorem dX0_unmakeBlock_27 : decode cX0_unmakeBlock 27 = .ok (.iinc 1 (-1), 3) := by decide +kernel
theorem dX0_unmakeBlock_30 : decode cX0_unmakeBlock 30 = .ok (.goto (-27), 3) := by decide +kernel
theorem dX0_unmakeBlock_33 : decode cX0_unmakeBlock 33 = .ok (.aload_n 0, 1) := by decide +kernel
theorem dX0_unmakeBlock_34 : decode cX0_unmakeBlock 34 = .ok (.iconst 0, 1) := by decide +kernel
theorem dX0_unmakeBlock_35 : decode cX0_unmakeBlock 35 = .ok (.invokevirtual 50, 3) := by decide +kernel
theorem dX0_unmakeBlock_38 : decode cX0_unmakeBlock 38 = .ok (.return_, 1) := by decide +kernel
theorem dX0_addColumns_0 : decode cX0_addColumns 0 = .ok (.bipush 16, 2) := by decide +kernel
theorem dX0_addColumns_2 : decode cX0_addColumns 2 = .ok (.iload_n 1, 1) := by decide +kernel
theorem dX0_addColumns_3 : decode cX0_addColumns 3 = .ok (.imul, 1) := by decide +kernel
theorem dX0_addColumns_4 : decode cX0_addColumns 4 = .ok (.istore_n 2, 1) := by decide +kernel
theorem dX0_addColumns_5 : decode cX0_addColumns 5 = .ok (.iconst 0, 1) := by decide +kernel
theorem dX0_addColumns_6 : decode cX0_addColumns 6 = .ok (.istore_n 3, 1) := by decide +kernel
theorem dX0_addColumns_7 : decode cX0_addColumns 7 = .ok (.iload_n 3, 1) := by decide +kernel
theorem dX0_addColumns_8 : decode cX0_addColumns 8 = .ok (.bipush 16, 2) := by decide +kernel
theorem dX0_addColumns_10 : decode cX0_addColumns 10 = .ok (.if_icmp .ge 26, 3) := by decide +kernel
theorem dX0_addColumns_13 : decode cX0_addColumns 13 = .ok (.aload_n 0, 1) := by decide +kernel
theorem dX0_addColumns_14 : decode cX0_addColumns 14 = .ok (.getfield 18, 3) := by decide +kernel
theorem dX0_addColumns_17 : decode cX0_addColumns 17 = .ok (.iload_n 3, 1) := by decide +kernel
theorem dX0_addColumns_18 : decode cX0_addColumns 18 = .ok (.dup2, 1) := by decide +kernel
theorem dX0_addColumns_19 : decode cX0_addColumns 19 = .ok (.iaload, 1) := by decide +kernel
theorem dX0_addColumns_20 : decode cX0_addColumns 20 = .ok (.aload_n 0, 1) := by decide +kernel
theorem dX0_addColumns_21 : decode cX0_addColumns 21 = .ok (.getfield 15, 3) := by decide +kernel
theorem dX0_addColumns_24 : decode cX0_addColumns 24 = .ok (.iload_n 2, 1) := by decide +kernel
theorem dX0_addColumns_25 : decode cX0_addColumns 25 = .ok (.iload_n 3, 1) := by decide +kernel
theorem dX0_addColumns_26 : decode cX0_addColumns 26 = .ok (.iadd, 1) := by decide +kernel
theorem dX0_addColumns_27 : decode cX0_addColumns 27 = .ok (.iaload, 1) := by decide +kernel
theorem dX0_addColumns_28 : decode cX0_addColumns 28 = .ok (.ixor, 1) := by decide +kernel
theorem dX0_addColumns_29 : decode cX0_addColumns 29 = .ok (.iastore, 1) := by decide +kernel
theorem dX0_addColumns_30 : decode cX0_addColumns 30 = .ok (.iinc 3 1, 3) := by decide +kernel
theorem dX0_addColumns_33 : decode cX0_addColumns 33 = .ok (.goto (-26), 3) := by decide +kernel
theorem dX0_addColumns_36 : decode cX0_addColumns 36 = .ok (.return_, 1) := by decide +kernel
theorem dX0_swapAndTurn_0 : decode cX0_swapAndTurn 0 = .ok (.aload_n 0, 1) := by decide +kernel
theorem dX0_swapAndTurn_1 : decode cX0_swapAndTurn 1 = .ok (.getfield 18, 3) := by decide +kernel
theorem dX0_swapAndTurn_4 : decode cX0_swapAndTurn 4 = .ok (.iconst 0, 1) := by decide +kernel
theorem dX0_swapAndTurn_5 : decode cX0_swapAndTurn 5 = .ok (.aload_n 0, 1) := by decide +kernel
theorem dX0_swapAndTurn_6 : decode cX0_swapAndTurn 6 = .ok (.getfield 21, 3) := by decide +kernel
theorem dX0_swapAndTurn_9 : decode cX0_swapAndTurn 9 = .ok (.iconst 0, 1) := by decide +kernel
theorem dX0_swapAndTurn_10 : decode cX0_swapAndTurn 10 = .ok (.bipush 16, 2) := by decide +kernel
theorem dX0_swapAndTurn_12 : decode cX0_swapAndTurn 12 = .ok (.invokestatic 44, 3) := by decide +kernel
theorem dX0_swapAndTurn_15 : decode cX0_swapAndTurn 15 = .ok (.iconst 0, 1) := by decide +kernel
theorem dX0_swapAndTurn_16 : decode cX0_swapAndTurn 16 = .ok (.istore_n 1, 1) := by decide +kernel
theorem dX0_swapAndTurn_17 : decode cX0_swapAndTurn 17 = .ok (.iload_n 1, 1) := by decide +kernel
theorem dX0_swapAndTurn_18 : decode cX0_swapAndTurn 18 = .ok (.bipush 16, 2) := by decide +kernel
theorem dX0_swapAndTurn_20 : decode cX0_swapAndTurn 20 = .ok (.if_icmp .ge 34, 3) := by decide +kernel
theorem dX0_swapAndTurn_23 : decode cX0_swapAndTurn 23 = .ok (.aload_n 0, 1) := by decide +kernel
theorem dX0_swapAndTurn_24 : decode cX0_swapAndTurn 24 = .ok (.getfield 18, 3) := by decide +kernel
theorem dX0_swapAndTurn_27 : decode cX0_swapAndTurn 27 = .ok (.iload_n 1, 1) := by decide +kernel
theorem dX0_swapAndTurn_28 : decode cX0_swapAndTurn 28 = .ok (.getstatic 24, 3) := by decide +kernel
theorem dX0_swapAndTurn_31 : decode cX0_swapAndTurn 31 = .ok (.aload_n 0, 1) := by decide +kernel
theorem dX0_swapAndTurn_32 : decode cX0_swapAndTurn 32 = .ok (.getfield 21, 3) := by decide +kernel
theorem dX0_swapAndTurn_35 : decode cX0_swapAndTurn 35 = .ok (.iconst 5, 1) := by decide +kernel
theorem dX0_swapAndTurn_36 : decode cX0_swapAndTurn 36 = .ok (.iload_n 1, 1) := by decide +kernel
theorem dX0_swapAndTurn_37 : decode cX0_swapAndTurn 37 = .ok (.imul, 1) := by decide +kernel
theorem dX0_swapAndTurn_38 : decode cX0_swapAndTurn 38 = .ok (.bipush 15, 2) := by decide +kernel
theorem dX0_swapAndTurn_40 : decode cX0_swapAndTurn 40 = .ok (.iand, 1) := by decide +kernel
theorem dX0_swapAndTurn_41 : decode cX0_swapAndTurn 41 = .ok (.iaload, 1) := by decide +kernel
theorem dX0_swapAndTurn_42 : decode cX0_swapAndTurn 42 = .ok (.sipush 255, 3) := by decide +kernel
theorem dX0_swapAndTurn_45 : decode cX0_swapAndTurn 45 = .ok (.iand, 1) := by decide +kernel
theorem dX0_swapAndTurn_46 : decode cX0_swapAndTurn 46 = .ok (.iaload, 1) := by decide +kernel
theorem dX0_swapAndTurn_47 : decode cX0_swapAndTurn 47 = .ok (.iastore, 1) := by decide +kernel
theorem dX0_swapAndTurn_48 : decode cX0_swapAndTurn 48 = .ok (.iinc 1 1, 3) := by decide +kernel
theorem dX0_swapAndTurn_51 : decode cX0_swapAndTurn 51 = .ok (.goto (-34), 3) := by decide +kernel
theorem dX0_swapAndTurn_54 : decode cX0_swapAndTurn 54 = .ok (.return_, 1) := by decide +kernel
theorem dX0_swapAndTurnBack_0 : decode cX0_swapAndTurnBack 0 = .ok (.aload_n 0, 1) := by decide +kernel
theorem dX0_swapAndTurnBack_1 : decode cX0_swapAndTurnBack 1 = .ok (.getfield 18, 3) := by decide +kernel
theorem dX0_swapAndTurnBack_4 : decode cX0_swapAndTurnBack 4 = .ok (.iconst 0, 1) := by decide +kernel
theorem dX0_swapAndTurnBack_5 : decode cX0_swapAndTurnBack 5 = .ok (.aload_n 0, 1) := by decide +kernel
theorem dX0_swapAndTurnBack_6 : decode cX0_swapAndTurnBack 6 = .ok (.getfield 21, 3) := by decide +kernel
theorem dX0_swapAndTurnBack_9 : decode cX0_swapAndTurnBack 9 = .ok (.iconst 0, 1) := by decide +kernel
theorem dX0_swapAndTurnBack_10 : decode cX0_swapAndTurnBack 10 = .ok (.bipush 16, 2) := by decide +kernel
theorem dX0_swapAndTurnBack_12 : decode cX0_swapAndTurnBack 12 = .ok (.invokestatic 44, 3) := by decide +kernel
theorem dX0_swapAndTurnBack_15 : decode cX0_swapAndTurnBack 15 = .ok (.iconst 0, 1) := by decide +kernel
theorem dX0_swapAndTurnBack_16 : decode cX0_swapAndTurnBack 16 = .ok (.istore_n 1, 1) := by decide +kernel
theorem dX0_swapAndTurnBack_17 : decode cX0_swapAndTurnBack 17 = .ok (.iload_n 1, 1) := by decide +kernel
theorem dX0_swapAndTurnBack_18 : decode cX0_swapAndTurnBack 18 = .ok (.bipush 16, 2) := by decide +kernel
theorem dX0_swapAndTurnBack_20 : decode cX0_swapAndTurnBack 20 = .ok (.if_icmp .ge 35, 3) := by decide +kernel
theorem dX0_swapAndTurnBack_23 : decode cX0_swapAndTurnBack 23 = .ok (.aload_n 0, 1) := by decide +kernel
theorem dX0_swapAndTurnBack_24 : decode cX0_swapAndTurnBack 24 = .ok (.getfield 18, 3) := by decide +kernel
theorem dX0_swapAndTurnBack_27 : decode cX0_swapAndTurnBack 27 = .ok (.iconst 5, 1) := by decide +kernel
theorem dX0_swapAndTurnBack_28 : decode cX0_swapAndTurnBack 28 = .ok (.iload_n 1, 1) := by decide +kernel
theorem dX0_swapAndTurnBack_29 : decode cX0_swapAndTurnBack 29 = .ok (.imul, 1) := by decide +kernel
theorem dX0_swapAndTurnBack_30 : decode cX0_swapAndTurnBack 30 = .ok (.bipush 15, 2) := by decide +kernel
theorem dX0_swapAndTurnBack_32 : decode cX0_swapAndTurnBack 32 = .ok (.iand, 1) := by decide +kernel
theorem dX0_swapAndTurnBack_33 : decode cX0_swapAndTurnBack 33 = .ok (.aload_n 0, 1) := by decide +kernel
theorem dX0_swapAndTurnBack_34 : decode cX0_swapAndTurnBack 34 = .ok (.getfield 9, 3) := by decide +kernel
theorem dX0_swapAndTurnBack_37 : decode cX0_swapAndTurnBack 37 = .ok (.aload_n 0, 1) := by decide +kernel
theorem dX0_swapAndTurnBack_38 : decode cX0_swapAndTurnBack 38 = .ok (.getfield 21, 3) := by decide +kernel
theorem dX0_swapAndTurnBack_41 : decode cX0_swapAndTurnBack 41 = .ok (.iload_n 1, 1) := by decide +kernel
theorem dX0_swapAndTurnBack_42 : decode cX0_swapAndTurnBack 42 = .ok (.iaload, 1) := by decide +kernel
theorem dX0_swapAndTurnBack_43 : decode cX0_swapAndTurnBack 43 = .ok (.sipush 255, 3) := by decide +kernel
theorem dX0_swapAndTurnBack_46 : decode cX0_swapAndTurnBack 46 = .ok (.iand, 1) := by decide +kernel
theorem dX0_swapAndTurnBack_47 : decode cX0_swapAndTurnBack 47 = .ok (.iaload, 1) := by decide +kernel
theorem dX0_swapAndTurnBack_48 : decode cX0_swapAndTurnBack 48 = .ok (.iastore, 1) := by decide +kernel
theorem dX0_swapAndTurnBack_49 : decode cX0_swapAndTurnBack 49 = .ok (.iinc 1 1, 3) := by decide +kernel
theorem dX0_swapAndTurnBack_52 : decode cX0_swapAndTurnBack 52 = .ok (.goto (-35), 3) := by decide +kernel
theorem dX0_swapAndTurnBack_55 : decode cX0_swapAndTurnBack 55 = .ok (.return_, 1) := by decide +kernel
theorem dX0_mixColumns_0 : decode cX0_mixColumns 0 = .ok (.iconst 0, 1) := by decide +kernel
theorem dX0_mixColumns_1 : decode cX0_mixColumns 1 = .ok (.istore_n 1, 1) := by decide +kernel
theorem dX0_mixColumns_2 : decode cX0_mixColumns 2 = .ok (.iload_n 1, 1) := by decide +kernel
theorem dX0_mixColumns_3 : decode cX0_mixColumns 3 = .ok (.bipush 16, 2) := by decide +kernel
theorem dX0_mixColumns_5 : decode cX0_mixColumns 5 = .ok (.if_icmp .ge 136, 3) := by decide +kernel
theorem dX0_mixColumns_8 : decode cX0_mixColumns 8 = .ok (.aload_n 0, 1) := by decide +kernel
theorem dX0_mixColumns_9 : decode cX0_mixColumns 9 = .ok (.getfield 18, 3) := by decide +kernel
theorem dX0_mixColumns_12 : decode cX0_mixColumns 12 = .ok (.iload_n 1, 1) := by decide +kernel
theorem dX0_mixColumns_13 : decode cX0_mixColumns 13 = .ok (.iaload, 1) := by decide +kernel
theorem dX0_mixColumns_14 : decode cX0_mixColumns 14 = .ok (.istore_n 2, 1) := by decide +kernel
theorem dX0_mixColumns_15 : decode cX0_mixColumns 15 = .ok (.aload_n 0, 1) := by decide +kernel
theorem dX0_mixColumns_16 : decode cX0_mixColumns 16 = .ok (.getfield 18, 3) := by decide +kernel
theorem dX0_mixColumns_19 : decode cX0_mixColumns 19 = .ok (.iload_n 1, 1) := by decide +kernel
theorem dX0_mixColumns_20 : decode cX0_mixColumns 20 = .ok (.iconst 1, 1) := by decide +kernel
theorem dX0_mixColumns_21 : decode cX0_mixColumns 21 = .ok (.iadd, 1) := by decide +kernel
theorem dX0_mixColumns_22 : decode cX0_mixColumns 22 = .ok (.iaload, 1) := by decide +kernel
theorem dX0_mixColumns_23 : decode cX0_mixColumns 23 = .ok (.istore_n 3, 1) := by decide +kernel
theorem dX0_mixColumns_24 : decode cX0_mixColumns 24 = .ok (.aload_n 0, 1) := by decide +kernel
theorem dX0_mixColumns_25 : decode cX0_mixColumns 25 = .ok (.getfield 18, 3) := by decide +kernel
theorem dX0_mixColumns_28 : decode cX0_mixColumns 28 = .ok (.iload_n 1, 1) := by decide +kernel
theorem dX0_mixColumns_29 : decode cX0_mixColumns 29 = .ok (.iconst 2, 1) := by decide +kernel
theorem dX0_mixColumns_30 : decode cX0_mixColumns 30 = .ok (.iadd, 1) := by decide +kernel
theorem dX0_mixColumns_31 : decode cX0_mixColumns 31 = .ok (.iaload, 1) := by decide +kernel
theorem dX0_mixColumns_32 : decode cX0_mixColumns 32 = .ok (.istore 4, 2) := by decide +kernel
theorem dX0_mixColumns_34 : decode cX0_mixColumns 34 = .ok (.aload_n 0, 1) := by decide +kernel
theorem dX0_mixColumns_35 : decode cX0_mixColumns 35 = .ok (.getfield 18, 3) := by decide +kernel
theorem dX0_mixColumns_38 : decode cX0_mixColumns 38 = .ok (.iload_n 1, 1) := by decide +kernel
theorem dX0_mixColumns_39 : decode cX0_mixColumns 39 = .ok (.iconst 3, 1) := by decide +kernel
theorem dX0_mixColumns_40 : decode cX0_mixColumns 40 = .ok (.iadd, 1) := by decide +kernel
theorem dX0_mixColumns_41 : decode cX0_mixColumns 41 = .ok (.iaload, 1) := by decide +kernel
theorem dX0_mixColumns_42 : decode cX0_mixColumns 42 = .ok (.istore 5, 2) := by decide +kernel
theorem dX0_mixColumns_44 : decode cX0_mixColumns 44 = .ok (.iload_n 2, 1) := by decide +kernel
theorem dX0_mixColumns_45 : decode cX0_mixColumns 45 = .ok (.iload_n 3, 1) := by decide +kernel
theorem dX0_mixColumns_46 : decode cX0_mixColumns 46 = .ok (.ixor, 1) := by decide +kernel
theorem dX0_mixColumns_47 : decode cX0_mixColumns 47 = .ok (.iload 4, 2) := by decide +kernel
theorem dX0_mixColumns_49 : decode cX0_mixColumns 49 = .ok (.ixor, 1) := by decide +kernel
theorem dX0_mixColumns_50 : decode cX0_mixColumns 50 = .ok (.iload 5, 2) := by decide +kernel
theorem dX0_mixColumns_52 : decode cX0_mixColumns 52 = .ok (.ixor, 1) := by decide +kernel
theorem dX0_mixColumns_53 : decode cX0_mixColumns 53 = .ok (.istore 6, 2) := by decide +kernel
theorem dX0_mixColumns_55 : decode cX0_mixColumns 55 = .ok (.aload_n 0, 1) := by decide +kernel
theorem dX0_mixColumns_56 : decode cX0_mixColumns 56 = .ok (.getfield 18, 3) := by decide +kernel
theorem dX0_mixColumns_59 : decode cX0_mixColumns 59 = .ok (.iload_n 1, 1) := by decide +kernel
theorem dX0_mixColumns_60 : decode cX0_mixColumns 60 = .ok (.iload_n 2, 1) := by decide +kernel
theorem dX0_mixColumns_61 : decode cX0_mixColumns 61 = .ok (.iload 6, 2) := by decide +kernel
theorem dX0_mixColumns_63 : decode cX0_mixColumns 63 = .ok (.ixor, 1) := by decide +kernel
theorem dX0_mixColumns_64 : decode cX0_mixColumns 64 = .ok (.iload_n 2, 1) := by decide +kernel
theorem dX0_mixColumns_65 : decode cX0_mixColumns 65 = .ok (.iload_n 3, 1) := by decide +kernel
theorem dX0_mixColumns_66 : decode cX0_mixColumns 66 = .ok (.ixor, 1) := by decide +kernel
theorem dX0_mixColumns_67 : decode cX0_mixColumns 67 = .ok (.invokestatic 36, 3) := by decide +kernel
theorem dX0_mixColumns_70 : decode cX0_mixColumns 70 = .ok (.ixor, 1) := by decide +kernel
theorem dX0_mixColumns_71 : decode cX0_mixColumns 71 = .ok (.iastore, 1) := by decide +kernel
theorem dX0_mixColumns_72 : decode cX0_mixColumns 72 = .ok (.aload_n 0, 1) := by decide +kernel
theorem dX0_mixColumns_73 : decode cX0_mixColumns 73 = .ok (.getfield 18, 3) := by decide +kernel
theorem dX0_mixColumns_76 : decode cX0_mixColumns 76 = .ok (.iload_n 1, 1) := by decide +kernel
theorem dX0_mixColumns_77 : decode cX0_mixColumns 77 = .ok (.iconst 1, 1) := by decide +kernel
theorem dX0_mixColumns_78 : decode cX0_mixColumns 78 = .ok (.iadd, 1) := by decide +kernel
theorem dX0_mixColumns_79 : decode cX0_mixColumns 79 = .ok (.iload_n 3, 1) := by decide +kernel
theorem dX0_mixColumns_80 : decode cX0_mixColumns 80 = .ok (.iload 6, 2) := by decide +kernel
theorem dX0_mixColumns_82 : decode cX0_mixColumns 82 = .ok (.ixor, 1) := by decide +kernel
theorem dX0_mixColumns_83 : decode cX0_mixColumns 83 = .ok (.iload_n 3, 1) := by decide +kernel
theorem dX0_mixColumns_84 : decode cX0_mixColumns 84 = .ok (.iload 4, 2) := by decide +kernel
theorem dX0_mixColumns_86 : decode cX0_mixColumns 86 = .ok (.ixor, 1) := by decide +kernel
theorem dX0_mixColumns_87 : decode cX0_mixColumns 87 = .ok (.invokestatic 36, 3) := by decide +kernel
theorem dX0_mixColumns_90 : decode cX0_mixColumns 90 = .ok (.ixor, 1) := by decide +kernel
theorem dX0_mixColumns_91 : decode cX0_mixColumns 91 = .ok (.iastore, 1) := by decide +kernel
theorem dX0_mixColumns_92 : decode cX0_mixColumns 92 = .ok (.aload_n 0, 1) := by decide +kernel
theorem dX0_mixColumns_93 : decode cX0_mixColumns 93 = .ok (.getfield 18, 3) := by decide +kernel
theorem dX0_mixColumns_96 : decode cX0_mixColumns 96 = .ok (.iload_n 1, 1) := by decide +kernel
theorem dX0_mixColumns_97 : decode cX0_mixColumns 97 = .ok (.iconst 2, 1) := by decide +kernel
theorem dX0_mixColumns_98 : decode cX0_mixColumns 98 = .ok (.iadd, 1) := by decide +kernel
theorem dX0_mixColumns_99 : decode cX0_mixColumns 99 = .ok (.iload 4, 2) := by decide +kernel
theorem dX0_mixColumns_101 : decode cX0_mixColumns 101 = .ok (.iload 6, 2) := by decide +kernel
theorem dX0_mixColumns_103 : decode cX0_mixColumns 103 = .ok (.ixor, 1) := by decide +kernel
theorem dX0_mixColumns_104 : decode cX0_mixColumns 104 = .ok (.iload 4, 2) := by decide +kernel
theorem dX0_mixColumns_106 : decode cX0_mixColumns 106 = .ok (.iload 5, 2) := by decide +kernel
theorem dX0_mixColumns_108 : decode cX0_mixColumns 108 = .ok (.ixor, 1) := by decide +kernel
theorem dX0_mixColumns_109 : decode cX0_mixColumns 109 = .ok (.invokestatic 36, 3) := by decide +kernel
theorem dX0_mixColumns_112 : decode cX0_mixColumns 112 = .ok (.ixor, 1) := by decide +kernel
theorem dX0_mixColumns_113 : decode cX0_mixColumns 113 = .ok (.iastore, 1) := by decide +kernel
theorem dX0_mixColumns_114 : decode cX0_mixColumns 114 = .ok (.aload_n 0, 1) := by decide +kernel
theorem dX0_mixColumns_115 : decode cX0_mixColumns 115 = .ok (.getfield 18, 3) := by decide +kernel
theorem dX0_mixColumns_118 : decode cX0_mixColumns 118 = .ok (.iload_n 1, 1) := by decide +kernel
theorem dX0_mixColumns_119 : decode cX0_mixColumns 119 = .ok (.iconst 3, 1) := by decide +kernel
theorem dX0_mixColumns_120 : decode cX0_mixColumns 120 = .ok (.iadd, 1) := by decide +kernel
theorem dX0_mixColumns_121 : decode cX0_mixColumns 121 = .ok (.iload 5, 2) := by decide +kernel
theorem dX0_mixColumns_123 : decode cX0_mixColumns 123 = .ok (.iload 6, 2) := by decide +kernel
theorem dX0_mixColumns_125 : decode cX0_mixColumns 125 = .ok (.ixor, 1) := by decide +kernel
theorem dX0_mixColumns_126 : decode cX0_mixColumns 126 = .ok (.iload 5, 2) := by decide +kernel
theorem dX0_mixColumns_128 : decode cX0_mixColumns 128 = .ok (.iload_n 2, 1) := by decide +kernel
theorem dX0_mixColumns_129 : decode cX0_mixColumns 129 = .ok (.ixor, 1) := by decide +kernel
theorem dX0_mixColumns_130 : decode cX0_mixColumns 130 = .ok (.invokestatic 36, 3) := by decide +kernel
theorem dX0_mixColumns_133 : decode cX0_mixColumns 133 = .ok (.ixor, 1) := by decide +kernel
theorem dX0_mixColumns_134 : decode cX0_mixColumns 134 = .ok (.iastore, 1) := by decide +kernel
theorem dX0_mixColumns_135 : decode cX0_mixColumns 135 = .ok (.iinc 1 4, 3) := by decide +kernel
theorem dX0_mixColumns_138 : decode cX0_mixColumns 138 = .ok (.goto (-136), 3) := by decide +kernel
theorem dX0_mixColumns_141 : decode cX0_mixColumns 141 = .ok (.return_, 1) := by decide +kernel
theorem dX0_unmixColumns_0 : decode cX0_unmixColumns 0 = .ok (.iconst 0, 1) := by decide +kernel
theorem dX0_unmixColumns_1 : decode cX0_unmixColumns 1 = .ok (.istore_n 1, 1) := by decide +kernel
theorem dX0_unmixColumns_2 : decode cX0_unmixColumns 2 = .ok (.iload_n 1, 1) := by decide +kernel
theorem dX0_unmixColumns_3 : decode cX0_unmixColumns 3 = .ok (.bipush 16, 2) := by decide +kernel
theorem dX0_unmixColumns_5 : decode cX0_unmixColumns 5 = .ok (.if_icmp .ge 101, 3) := by decide +kernel
theorem dX0_unmixColumns_8 : decode cX0_unmixColumns 8 = .ok (.aload_n 0, 1) := by decide +kernel
theorem dX0_unmixColumns_9 : decode cX0_unmixColumns 9 = .ok (.getfield 18, 3) := by decide +kernel
theorem dX0_unmixColumns_12 : decode cX0_unmixColumns 12 = .ok (.iload_n 1, 1) := by decide +kernel
theorem dX0_unmixColumns_13 : decode cX0_unmixColumns 13 = .ok (.iaload, 1) := by decide +kernel
theorem dX0_unmixColumns_14 : decode cX0_unmixColumns 14 = .ok (.aload_n 0, 1) := by decide +kernel
theorem dX0_unmixColumns_15 : decode cX0_unmixColumns 15 = .ok (.getfield 18, 3) := by decide +kernel
theorem dX0_unmixColumns_18 : decode cX0_unmixColumns 18 = .ok (.iload_n 1, 1) := by decide +kernel
theorem dX0_unmixColumns_19 : decode cX0_unmixColumns 19 = .ok (.iconst 2, 1) := by decide +kernel
theorem dX0_unmixColumns_20 : decode cX0_unmixColumns 20 = .ok (.iadd, 1) := by decide +kernel
theorem dX0_unmixColumns_21 : decode cX0_unmixColumns 21 = .ok (.iaload, 1) := by decide +kernel
theorem dX0_unmixColumns_22 : decode cX0_unmixColumns 22 = .ok (.ixor, 1) := by decide +kernel
theorem dX0_unmixColumns_23 : decode cX0_unmixColumns 23 = .ok (.invokestatic 36, 3) := by decide +kernel
theorem dX0_unmixColumns_26 : decode cX0_unmixColumns 26 = .ok (.invokestatic 36, 3) := by decide +kernel
theorem dX0_unmixColumns_29 : decode cX0_unmixColumns 29 = .ok (.istore_n 2, 1) := by decide +kernel
theorem dX0_unmixColumns_30 : decode cX0_unmixColumns 30 = .ok (.aload_n 0, 1) := by decide +kernel
theorem dX0_unmixColumns_31 : decode cX0_unmixColumns 31 = .ok (.getfield 18, 3) := by decide +kernel
theorem dX0_unmixColumns_34 : decode cX0_unmixColumns 34 = .ok (.iload_n 1, 1) := by decide +kernel
theorem dX0_unmixColumns_35 : decode cX0_unmixColumns 35 = .ok (.iconst 1, 1) := by decide +kernel
theorem dX0_unmixColumns_36 : decode cX0_unmixColumns 36 = .ok (.iadd, 1) := by decide +kernel
theorem dX0_unmixColumns_37 : decode cX0_unmixColumns 37 = .ok (.iaload, 1) := by decide +kernel
theorem dX0_unmixColumns_38 : decode cX0_unmixColumns 38 = .ok (.aload_n 0, 1) := by decide +kernel
theorem dX0_unmixColumns_39 : decode cX0_unmixColumns 39 = .ok (.getfield 18, 3) := by decide +kernel
theorem dX0_unmixColumns_42 : decode cX0_unmixColumns 42 = .ok (.iload_n 1, 1) := by decide +kernel
theorem dX0_unmixColumns_43 : decode cX0_unmixColumns 43 = .ok (.iconst 3, 1) := by decide +kernel
theorem dX0_unmixColumns_44 : decode cX0_unmixColumns 44 = .ok (.iadd, 1) := by decide +kernel
theorem dX0_unmixColumns_45 : decode cX0_unmixColumns 45 = .ok (.iaload, 1) := by decide +kernel
theorem dX0_unmixColumns_46 : decode cX0_unmixColumns 46 = .ok (.ixor, 1) := by decide +kernel
theorem dX0_unmixColumns_47 : decode cX0_unmixColumns 47 = .ok (.invokestatic 36, 3) := by decide +kernel
theorem dX0_unmixColumns_50 : decode cX0_unmixColumns 50 = .ok (.invokestatic 36, 3) := by decide +kernel
theorem dX0_unmixColumns_53 : decode cX0_unmixColumns 53 = .ok (.istore_n 3, 1) := by decide +kernel
theorem dX0_unmixColumns_54 : decode cX0_unmixColumns 54 = .ok (.aload_n 0, 1) := by decide +kernel
theorem dX0_unmixColumns_55 : decode cX0_unmixColumns 55 = .ok (.getfield 18, 3) := by decide +kernel
theorem dX0_unmixColumns_58 : decode cX0_unmixColumns 58 = .ok (.iload_n 1, 1) := by decide +kernel
theorem dX0_unmixColumns_59 : decode cX0_unmixColumns 59 = .ok (.dup2, 1) := by decide +kernel
theorem dX0_unmixColumns_60 : decode cX0_unmixColumns 60 = .ok (.iaload, 1) := by decide +kernel
theorem dX0_unmixColumns_61 : decode cX0_unmixColumns 61 = .ok (.iload_n 2, 1) := by decide +kernel
theorem dX0_unmixColumns_62 : decode cX0_unmixColumns 62 = .ok (.ixor, 1) := by decide +kernel
theorem dX0_unmixColumns_63 : decode cX0_unmixColumns 63 = .ok (.iastore, 1) := by decide +kernel
theorem dX0_unmixColumns_64 : decode cX0_unmixColumns 64 = .ok (.aload_n 0, 1) := by decide +kernel
theorem dX0_unmixColumns_65 : decode cX0_unmixColumns 65 = .ok (.getfield 18, 3) := by decide +kernel
theorem dX0_unmixColumns_68 : decode cX0_unmixColumns 68 = .ok (.iload_n 1, 1) := by decide +kernel
theorem dX0_unmixColumns_69 : decode cX0_unmixColumns 69 = .ok (.iconst 1, 1) := by decide +kernel
theorem dX0_unmixColumns_70 : decode cX0_unmixColumns 70 = .ok (.iadd, 1) := by decide +kernel
theorem dX0_unmixColumns_71 : decode cX0_unmixColumns 71 = .ok (.dup2, 1) := by decide +kernel
theorem dX0_unmixColumns_72 : decode cX0_unmixColumns 72 = .ok (.iaload, 1) := by decide +kernel
theorem dX0_unmixColumns_73 : decode cX0_unmixColumns 73 = .ok (.iload_n 3, 1) := by decide +kernel
theorem dX0_unmixColumns_74 : decode cX0_unmixColumns 74 = .ok (.ixor, 1) := by decide +kernel
theorem dX0_unmixColumns_75 : decode cX0_unmixColumns 75 = .ok (.iastore, 1) := by decide +kernel
theorem dX0_unmixColumns_76 : decode cX0_unmixColumns 76 = .ok (.aload_n 0, 1) := by decide +kernel
theorem dX0_unmixColumns_77 : decode cX0_unmixColumns 77 = .ok (.getfield 18, 3) := by decide +kernel
theorem dX0_unmixColumns_80 : decode cX0_unmixColumns 80 = .ok (.iload_n 1, 1) := by decide +kernel
theorem dX0_unmixColumns_81 : decode cX0_unmixColumns 81 = .ok (.iconst 2, 1) := by decide +kernel
theorem dX0_unmixColumns_82 : decode cX0_unmixColumns 82 = .ok (.iadd, 1) := by decide +kernel
theorem dX0_unmixColumns_83 : decode cX0_unmixColumns 83 = .ok (.dup2, 1) := by decide +kernel
theorem dX0_unmixColumns_84 : decode cX0_unmixColumns 84 = .ok (.iaload, 1) := by decide +kernel
theorem dX0_unmixColumns_85 : decode cX0_unmixColumns 85 = .ok (.iload_n 2, 1) := by decide +kernel
theorem dX0_unmixColumns_86 : decode cX0_unmixColumns 86 = .ok (.ixor, 1) := by decide +kernel
theorem dX0_unmixColumns_87 : decode cX0_unmixColumns 87 = .ok (.iastore, 1) := by decide +kernel
theorem dX0_unmixColumns_88 : decode cX0_unmixColumns 88 = .ok (.aload_n 0, 1) := by decide +kernel
theorem dX0_unmixColumns_89 : decode cX0_unmixColumns 89 = .ok (.getfield 18, 3) := by decide +kernel
theorem dX0_unmixColumns_92 : decode cX0_unmixColumns 92 = .ok (.iload_n 1, 1) := by decide +kernel
theorem dX0_unmixColumns_93 : decode cX0_unmixColumns 93 = .ok (.iconst 3, 1) := by decide +kernel
theorem dX0_unmixColumns_94 : decode cX0_unmixColumns 94 = .ok (.iadd, 1) := by decide +kernel
theorem dX0_unmixColumns_95 : decode cX0_unmixColumns 95 = .ok (.dup2, 1) := by decide +kernel
theorem dX0_unmixColumns_96 : decode cX0_unmixColumns 96 = .ok (.iaload, 1) := by decide +kernel
theorem dX0_unmixColumns_97 : decode cX0_unmixColumns 97 = .ok (.iload_n 3, 1) := by decide +kernel
theorem dX0_unmixColumns_98 : decode cX0_unmixColumns 98 = .ok (.ixor, 1) := by decide +kernel
theorem dX0_unmixColumns_99 : decode cX0_unmixColumns 99 = .ok (.iastore, 1) := by decide +kernel
theorem dX0_unmixColumns_100 : decode cX0_unmixColumns 100 = .ok (.iinc 1 4, 3) := by decide +kernel
theorem dX0_unmixColumns_103 : decode cX0_unmixColumns 103 = .ok (.goto (-101), 3) := by decide +kernel
theorem dX0_unmixColumns_106 : decode cX0_unmixColumns 106 = .ok (.aload_n 0, 1) := by decide +kernel
theorem dX0_unmixColumns_107 : decode cX0_unmixColumns 107 = .ok (.invokevirtual 57, 3) := by decide +kernel
theorem dX0_unmixColumns_110 : decode cX0_unmixColumns 110 = .ok (.return_, 1) := by decide +kernel
theorem dX0_twice_0 : decode cX0_twice 0 = .ok (.iload_n 0, 1) := by decide +kernel
theorem dX0_twice_1 : decode cX0_twice 1 = .ok (.sipush 128, 3) := by decide +kernel
theorem dX0_twice_4 : decode cX0_twice 4 = .ok (.iand, 1) := by decide +kernel
theorem dX0_twice_5 : decode cX0_twice 5 = .ok (.ifCond .ne 9, 3) := by decide +kernel
theorem dX0_twice_8 : decode cX0_twice 8 = .ok (.iload_n 0, 1) := by decide +kernel
theorem dX0_twice_9 : decode cX0_twice 9 = .ok (.iconst 1, 1) := by decide +kernel
theorem dX0_twice_10 : decode cX0_twice 10 = .ok (.ishl, 1) := by decide +kernel
theorem dX0_twice_11 : decode cX0_twice 11 = .ok (.goto 10, 3) := by decide +kernel
theorem dX0_twice_14 : decode cX0_twice 14 = .ok (.iload_n 0, 1) := by decide +kernel
theorem dX0_twice_15 : decode cX0_twice 15 = .ok (.iconst 1, 1) := by decide +kernel
theorem dX0_twice_16 : decode cX0_twice 16 = .ok (.ishl, 1) := by decide +kernel
theorem dX0_twice_17 : decode cX0_twice 17 = .ok (.sipush 283, 3) := by decide +kernel
theorem dX0_twice_20 : decode cX0_twice 20 = .ok (.ixor, 1) := by decide +kernel
theorem dX0_twice_21 : decode cX0_twice 21 = .ok (.ireturn, 1) := by decide +kernel
theorem dX1_init_0 : decode cX1_init 0 = .ok (.aload_n 0, 1) := by decide +kernel
theorem dX1_init_1 : decode cX1_init 1 = .ok (.invokespecial 3, 3) := by decide +kernel
theorem dX1_init_4 : decode cX1_init 4 = .ok (.aload_n 0, 1) := by decide +kernel
theorem dX1_init_5 : decode cX1_init 5 = .ok (.iconst 3, 1) := by decide +kernel
theorem dX1_init_6 : decode cX1_init 6 = .ok (.putfield 9, 3) := by decide +kernel
theorem dX1_init_9 : decode cX1_init 9 = .ok (.aload_n 0, 1) := by decide +kernel
theorem dX1_init_10 : decode cX1_init 10 = .ok (.bipush 16, 2) := by decide +kernel
theorem dX1_init_12 : decode cX1_init 12 = .ok (.putfield 15, 3) := by decide +kernel
theorem dX1_init_15 : decode cX1_init 15 = .ok (.aload_n 0, 1) := by decide +kernel
theorem dX1_init_16 : decode cX1_init 16 = .ok (.bipush (-4), 2) := by decide +kernel
theorem dX1_init_18 : decode cX1_init 18 = .ok (.putfield 18, 3) := by decide +kernel
theorem dX1_init_21 : decode cX1_init 21 = .ok (.aload_n 0, 1) := by decide +kernel
theorem dX1_init_22 : decode cX1_init 22 = .ok (.iconst 0, 1) := by decide +kernel
theorem dX1_init_23 : decode cX1_init 23 = .ok (.putfield 21, 3) := by decide +kernel
theorem dX1_init_26 : decode cX1_init 26 = .ok (.aload_n 0, 1) := by decide +kernel
theorem dX1_init_27 : decode cX1_init 27 = .ok (.new 25, 3) := by decide +kernel
theorem dX1_init_30 : decode cX1_init 30 = .ok (.dup, 1) := by decide +kernel
theorem dX1_init_31 : decode cX1_init 31 = .ok (.bipush 32, 2) := by decide +kernel
theorem dX1_init_33 : decode cX1_init 33 = .ok (.invokespecial 27, 3) := by decide +kernel
theorem dX1_init_36 : decode cX1_init 36 = .ok (.putfield 30, 3) := by decide +kernel
theorem dX1_init_39 : decode cX1_init 39 = .ok (.aload_n 0, 1) := by decide +kernel
theorem dX1_init_40 : decode cX1_init 40 = .ok (.new 25, 3) := by decide +kernel
theorem dX1_init_43 : decode cX1_init 43 = .ok (.dup, 1) := by decide +kernel
theorem dX1_init_44 : decode cX1_init 44 = .ok (.bipush 32, 2) := by decide +kernel
theorem dX1_init_46 : decode cX1_init 46 = .ok (.invokespecial 27, 3) := by decide +kernel
theorem dX1_init_49 : decode cX1_init 49 = .ok (.putfield 34, 3) := by decide +kernel
theorem dX1_init_52 : decode cX1_init 52 = .ok (.aload_n 0, 1) := by decide +kernel
theorem dX1_init_53 : decode cX1_init 53 = .ok (.new 25, 3) := by decide +kernel
theorem dX1_init_56 : decode cX1_init 56 = .ok (.dup, 1) := by decide +kernel
theorem dX1_init_57 : decode cX1_init 57 = .ok (.bipush 64, 2) := by decide +kernel
theorem dX1_init_59 : decode cX1_init 59 = .ok (.invokespecial 27, 3) := by decide +kernel
theorem dX1_init_62 : decode cX1_init 62 = .ok (.putfield 37, 3) := by decide +kernel
theorem dX1_init_65 : decode cX1_init 65 = .ok (.aload_n 0, 1) := by decide +kernel
theorem dX1_init_66 : decode cX1_init 66 = .ok (.new 25, 3) := by decide +kernel
theorem dX1_init_69 : decode cX1_init 69 = .ok (.dup, 1) := by decide +kernel
theorem dX1_init_70 : decode cX1_init 70 = .ok (.bipush 64, 2) := by decide +kernel
theorem dX1_init_72 : decode cX1_init 72 = .ok (.invokespecial 27, 3) := by decide +kernel
theorem dX1_init_75 : decode cX1_init 75 = .ok (.putfield 40, 3) := by decide +kernel
theorem dX1_init_78 : decode cX1_init 78 = .ok (.aload_n 0, 1) := by decide +kernel
theorem dX1_init_79 : decode cX1_init 79 = .ok (.new 25, 3) := by decide +kernel
theorem dX1_init_82 : decode cX1_init 82 = .ok (.dup, 1) := by decide +kernel
theorem dX1_init_83 : decode cX1_init 83 = .ok (.bipush 64, 2) := by decide +kernel
theorem dX1_init_85 : decode cX1_init 85 = .ok (.invokespecial 27, 3) := by decide +kernel
theorem dX1_init_88 : decode cX1_init 88 = .ok (.putfield 43, 3) := by decide +kernel
theorem dX1_init_91 : decode cX1_init 91 = .ok (.aload_n 0, 1) := by decide +kernel
theorem dX1_init_92 : decode cX1_init 92 = .ok (.new 25, 3) := by decide +kernel
theorem dX1_init_95 : decode cX1_init 95 = .ok (.dup, 1) := by decide +kernel
theorem dX1_init_96 : decode cX1_init 96 = .ok (.bipush 16, 2) := by decide +kernel
theorem dX1_init_98 : decode cX1_init 98 = .ok (.invokespecial 27, 3) := by decide +kernel
theorem dX1_init_101 : decode cX1_init 101 = .ok (.putfield 46, 3) := by decide +kernel
theorem dX1_init_104 : decode cX1_init 104 = .ok (.aload_n 0, 1) := by decide +kernel
theorem dX1_init_105 : decode cX1_init 105 = .ok (.new 49, 3) := by decide +kernel
theorem dX1_init_108 : decode cX1_init 108 = .ok (.dup, 1) := by decide +kernel
theorem dX1_init_109 : decode cX1_init 109 = .ok (.invokespecial 51, 3) := by decide +kernel
theorem dX1_init_112 : decode cX1_init 112 = .ok (.putfield 52, 3) := by decide +kernel
theorem dX1_init_115 : decode cX1_init 115 = .ok (.aload_n 0, 1) := by decide +kernel
theorem dX1_init_116 : decode cX1_init 116 = .ok (.new 56, 3) := by decide +kernel
theorem dX1_init_119 : decode cX1_init 119 = .ok (.dup, 1) := by decide +kernel
theorem dX1_init_120 : decode cX1_init 120 = .ok (.invokespecial 58, 3) := by decide +kernel
theorem dX1_init_123 : decode cX1_init 123 = .ok (.putfield 59, 3) := by decide +kernel
theorem dX1_init_126 : decode cX1_init 126 = .ok (.aload_n 0, 1) := by decide +kernel
theorem dX1_init_127 : decode cX1_init 127 = .ok (.new 63, 3) := by decide +kernel
theorem dX1_init_130 : decode cX1_init 130 = .ok (.dup, 1) := by decide +kernel
theorem dX1_init_131 : decode cX1_init 131 = .ok (.invokespecial 65, 3) := by decide +kernel
theorem dX1_init_134 : decode cX1_init 134 = .ok (.putfield 66, 3) := by decide +kernel
theorem dX1_init_137 : decode cX1_init 137 = .ok (.aload_n 0, 1) := by decide +kernel
theorem dX1_init_138 : decode cX1_init 138 = .ok (.new 25, 3) := by decide +kernel
theorem dX1_init_141 : decode cX1_init 141 = .ok (.dup, 1) := by decide +kernel
theorem dX1_init_142 : decode cX1_init 142 = .ok (.sipush 136, 3) := by decide +kernel
theorem dX1_init_145 : decode cX1_init 145 = .ok (.invokespecial 27, 3) := by decide +kernel
theorem dX1_init_148 : decode cX1_init 148 = .ok (.putfield 70, 3) := by decide +kernel
theorem dX1_init_151 : decode cX1_init 151 = .ok (.aload_n 0, 1) := by decide +kernel
theorem dX1_init_152 : decode cX1_init 152 = .ok (.new 25, 3) := by decide +kernel
theorem dX1_init_155 : decode cX1_init 155 = .ok (.dup, 1) := by decide +kernel
theorem dX1_init_156 : decode cX1_init 156 = .ok (.bipush 16, 2) := by decide +kernel
theorem dX1_init_158 : decode cX1_init 158 = .ok (.invokespecial 27, 3) := by decide +kernel
theorem dX1_init_161 : decode cX1_init 161 = .ok (.putfield 73, 3) := by decide +kernel
theorem dX1_init_164 : decode cX1_init 164 = .ok (.aload_n 0, 1) := by decide +kernel
theorem dX1_init_165 : decode cX1_init 165 = .ok (.new 25, 3) := by decide +kernel
theorem dX1_init_168 : decode cX1_init 168 = .ok (.dup, 1) := by decide +kernel
theorem dX1_init_169 : decode cX1_init 169 = .ok (.bipush 32, 2) := by decide +kernel
theorem dX1_init_171 : decode cX1_init 171 = .ok (.invokespecial 27, 3) := by decide +kernel
theorem dX1_init_174 : decode cX1_init 174 = .ok (.putfield 76, 3) := by decide +kernel
theorem dX1_init_177 : decode cX1_init 177 = .ok (.aload_n 0, 1) := by decide +kernel
theorem dX1_init_178 : decode cX1_init 178 = .ok (.new 25, 3) := by decide +kernel
theorem dX1_init_181 : decode cX1_init 181 = .ok (.dup, 1) := by decide +kernel
theorem dX1_init_182 : decode cX1_init 182 = .ok (.bipush 32, 2) := by decide +kernel
theorem dX1_init_184 : decode cX1_init 184 = .ok (.invokespecial 27, 3) := by decide +kernel
theorem dX1_init_187 : decode cX1_init 187 = .ok (.putfield 79, 3) := by decide +kernel
theorem dX1_init_190 : decode cX1_init 190 = .ok (.aload_n 0, 1) := by decide +kernel
theorem dX1_init_191 : decode cX1_init 191 = .ok (.getfield 30, 3) := by decide +kernel
theorem dX1_init_194 : decode cX1_init 194 = .ok (.bipush 32, 2) := by decide +kernel
theorem dX1_init_196 : decode cX1_init 196 = .ok (.putfield 82, 3) := by decide +kernel
theorem dX1_init_199 : decode cX1_init 199 = .ok (.aload_n 0, 1) := by decide +kernel
theorem dX1_init_200 : decode cX1_init 200 = .ok (.getfield 34, 3) := by decide +kernel
theorem dX1_init_203 : decode cX1_init 203 = .ok (.bipush 32, 2) := by decide +kernel
theorem dX1_init_205 : decode cX1_init 205 = .ok (.putfield 82, 3) := by decide +kernel
theorem dX1_init_208 : decode cX1_init 208 = .ok (.return_, 1) := by decide +kernel
theorem dX1_toldRow_0 : decode cX1_toldRow 0 = .ok (.iload_n 1, 1) := by decide +kernel
theorem dX1_toldRow_1 : decode cX1_toldRow 1 = .ok (.tableswitch 60 0 4 #[35, 40, 45, 50, 55], 35) := by decide +kernel
theorem dX1_toldRow_36 : decode cX1_toldRow 36 = .ok (.aload_n 0, 1) := by decide +kernel
theorem dX1_toldRow_37 : decode cX1_toldRow 37 = .ok (.getfield 30, 3) := by decide +kernel
theorem dX1_toldRow_40 : decode cX1_toldRow 40 = .ok (.areturn, 1) := by decide +kernel
theorem dX1_toldRow_41 : decode cX1_toldRow 41 = .ok (.aload_n 0, 1) := by decide +kernel
theorem dX1_toldRow_42 : decode cX1_toldRow 42 = .ok (.getfield 34, 3) := by decide +kernel
theorem dX1_toldRow_45 : decode cX1_toldRow 45 = .ok (.areturn, 1) := by decide +kernel
theorem dX1_toldRow_46 : decode cX1_toldRow 46 = .ok (.aload_n 0, 1) := by decide +kernel
theorem dX1_toldRow_47 : decode cX1_toldRow 47 = .ok (.getfield 37, 3) := by decide +kernel
theorem dX1_toldRow_50 : decode cX1_toldRow 50 = .ok (.areturn, 1) := by decide +kernel
theorem dX1_toldRow_51 : decode cX1_toldRow 51 = .ok (.aload_n 0, 1) := by decide +kernel
theorem dX1_toldRow_52 : decode cX1_toldRow 52 = .ok (.getfield 40, 3) := by decide +kernel
theorem dX1_toldRow_55 : decode cX1_toldRow 55 = .ok (.areturn, 1) := by decide +kernel
theorem dX1_toldRow_56 : decode cX1_toldRow 56 = .ok (.aload_n 0, 1) := by decide +kernel
theorem dX1_toldRow_57 : decode cX1_toldRow 57 = .ok (.getfield 43, 3) := by decide +kernel
theorem dX1_toldRow_60 : decode cX1_toldRow 60 = .ok (.areturn, 1) := by decide +kernel
theorem dX1_toldRow_61 : decode cX1_toldRow 61 = .ok (.aconst_null, 1) := by decide +kernel
theorem dX1_toldRow_62 : decode cX1_toldRow 62 = .ok (.areturn, 1) := by decide +kernel
theorem dX1_makeOwnerEntry_0 : decode cX1_makeOwnerEntry 0 = .ok (.aload_n 0, 1) := by decide +kernel
theorem dX1_makeOwnerEntry_1 : decode cX1_makeOwnerEntry 1 = .ok (.aload_n 0, 1) := by decide +kernel
theorem dX1_makeOwnerEntry_2 : decode cX1_makeOwnerEntry 2 = .ok (.getfield 40, 3) := by decide +kernel
theorem dX1_makeOwnerEntry_5 : decode cX1_makeOwnerEntry 5 = .ok (.invokevirtual 85, 3) := by decide +kernel
theorem dX1_makeOwnerEntry_8 : decode cX1_makeOwnerEntry 8 = .ok (.aload_n 0, 1) := by decide +kernel
theorem dX1_makeOwnerEntry_9 : decode cX1_makeOwnerEntry 9 = .ok (.getfield 30, 3) := by decide +kernel
theorem dX1_makeOwnerEntry_12 : decode cX1_makeOwnerEntry 12 = .ok (.invokevirtual 89, 3) := by decide +kernel
theorem dX1_makeOwnerEntry_15 : decode cX1_makeOwnerEntry 15 = .ok (.aload_n 0, 1) := by decide +kernel
theorem dX1_makeOwnerEntry_16 : decode cX1_makeOwnerEntry 16 = .ok (.getfield 30, 3) := by decide +kernel
theorem dX1_makeOwnerEntry_19 : decode cX1_makeOwnerEntry 19 = .ok (.aload_n 0, 1) := by decide +kernel
theorem dX1_makeOwnerEntry_20 : decode cX1_makeOwnerEntry 20 = .ok (.getfield 43, 3) := by decide +kernel
theorem dX1_makeOwnerEntry_23 : decode cX1_makeOwnerEntry 23 = .ok (.invokestatic 92, 3) := by decide +kernel
theorem dX1_makeOwnerEntry_26 : decode cX1_makeOwnerEntry 26 = .ok (.aload_n 0, 1) := by decide +kernel
theorem dX1_makeOwnerEntry_27 : decode cX1_makeOwnerEntry 27 = .ok (.aload_n 0, 1) := by decide +kernel
theorem dX1_makeOwnerEntry_28 : decode cX1_makeOwnerEntry 28 = .ok (.getfield 30, 3) := by decide +kernel
theorem dX1_makeOwnerEntry_31 : decode cX1_makeOwnerEntry 31 = .ok (.invokevirtual 96, 3) := by decide +kernel
theorem dX1_makeOwnerEntry_34 : decode cX1_makeOwnerEntry 34 = .ok (.return_, 1) := by decide +kernel
theorem dX1_makeUserEntry_0 : decode cX1_makeUserEntry 0 = .ok (.aload_n 0, 1) := by decide +kernel
theorem dX1_makeUserEntry_1 : decode cX1_makeUserEntry 1 = .ok (.aload_n 0, 1) := by decide +kernel
theorem dX1_makeUserEntry_2 : decode cX1_makeUserEntry 2 = .ok (.getfield 43, 3) := by decide +kernel
theorem dX1_makeUserEntry_5 : decode cX1_makeUserEntry 5 = .ok (.invokevirtual 99, 3) := by decide +kernel
theorem dX1_makeUserEntry_8 : decode cX1_makeUserEntry 8 = .ok (.aload_n 0, 1) := by decide +kernel
theorem dX1_makeUserEntry_9 : decode cX1_makeUserEntry 9 = .ok (.invokevirtual 102, 3) := by decide +kernel
theorem dX1_makeUserEntry_12 : decode cX1_makeUserEntry 12 = .ok (.aload_n 0, 1) := by decide +kernel
theorem dX1_makeUserEntry_13 : decode cX1_makeUserEntry 13 = .ok (.getfield 34, 3) := by decide +kernel
theorem dX1_makeUserEntry_16 : decode cX1_makeUserEntry 16 = .ok (.aload_n 0, 1) := by decide +kernel
theorem dX1_makeUserEntry_17 : decode cX1_makeUserEntry 17 = .ok (.getfield 76, 3) := by decide +kernel
theorem dX1_makeUserEntry_20 : decode cX1_makeUserEntry 20 = .ok (.invokevirtual 105, 3) := by decide +kernel
theorem dX1_makeUserEntry_23 : decode cX1_makeUserEntry 23 = .ok (.return_, 1) := by decide +kernel
theorem dX1_tryPassword_0 : decode cX1_tryPassword 0 = .ok (.aload_n 0, 1) := by decide +kernel
theorem dX1_tryPassword_1 : decode cX1_tryPassword 1 = .ok (.aload_n 1, 1) := by decide +kernel
theorem dX1_tryPassword_2 : decode cX1_tryPassword 2 = .ok (.invokevirtual 99, 3) := by decide +kernel
theorem dX1_tryPassword_5 : decode cX1_tryPassword 5 = .ok (.aload_n 0, 1) := by decide +kernel
theorem dX1_tryPassword_6 : decode cX1_tryPassword 6 = .ok (.invokevirtual 108, 3) := by decide +kernel
theorem dX1_tryPassword_9 : decode cX1_tryPassword 9 = .ok (.ifCond .eq 16, 3) := by decide +kernel
theorem dX1_tryPassword_12 : decode cX1_tryPassword 12 = .ok (.aload_n 0, 1) := by decide +kernel
theorem dX1_tryPassword_13 : decode cX1_tryPassword 13 = .ok (.getfield 46, 3) := by decide +kernel
theorem dX1_tryPassword_16 : decode cX1_tryPassword 16 = .ok (.aload_n 0, 1) := by decide +kernel
theorem dX1_tryPassword_17 : decode cX1_tryPassword 17 = .ok (.getfield 73, 3) := by decide +kernel
theorem dX1_tryPassword_20 : decode cX1_tryPassword 20 = .ok (.invokevirtual 105, 3) := by decide +kernel
theorem dX1_tryPassword_23 : decode cX1_tryPassword 23 = .ok (.iconst 1, 1) := by decide +kernel
theorem dX1_tryPassword_24 : decode cX1_tryPassword 24 = .ok (.ireturn, 1) := by decide +kernel
theorem dX1_tryPassword_25 : decode cX1_tryPassword 25 = .ok (.aload_n 0, 1) := by decide +kernel
theorem dX1_tryPassword_26 : decode cX1_tryPassword 26 = .ok (.aload_n 1, 1) := by decide +kernel
theorem dX1_tryPassword_27 : decode cX1_tryPassword 27 = .ok (.invokevirtual 85, 3) := by decide +kernel
theorem dX1_tryPassword_30 : decode cX1_tryPassword 30 = .ok (.aload_n 0, 1) := by decide +kernel
theorem dX1_tryPassword_31 : decode cX1_tryPassword 31 = .ok (.getfield 79, 3) := by decide +kernel
theorem dX1_tryPassword_34 : decode cX1_tryPassword 34 = .ok (.aload_n 0, 1) := by decide +kernel
theorem dX1_tryPassword_35 : decode cX1_tryPassword 35 = .ok (.getfield 30, 3) := by decide +kernel
theorem dX1_tryPassword_38 : decode cX1_tryPassword 38 = .ok (.invokevirtual 105, 3) := by decide +kernel
theorem dX1_tryPassword_41 : decode cX1_tryPassword 41 = .ok (.aload_n 0, 1) := by decide +kernel
theorem dX1_tryPassword_42 : decode cX1_tryPassword 42 = .ok (.aload_n 0, 1) := by decide +kernel
theorem dX1_tryPassword_43 : decode cX1_tryPassword 43 = .ok (.getfield 79, 3) := by decide +kernel
theorem dX1_tryPassword_46 : decode cX1_tryPassword 46 = .ok (.invokevirtual 96, 3) := by decide +kernel
theorem dX1_tryPassword_49 : decode cX1_tryPassword 49 = .ok (.aload_n 0, 1) := by decide +kernel
theorem dX1_tryPassword_50 : decode cX1_tryPassword 50 = .ok (.aload_n 0, 1) := by decide +kernel
theorem dX1_tryPassword_51 : decode cX1_tryPassword 51 = .ok (.getfield 79, 3) := by decide +kernel
theorem dX1_tryPassword_54 : decode cX1_tryPassword 54 = .ok (.invokevirtual 99, 3) := by decide +kernel
theorem dX1_tryPassword_57 : decode cX1_tryPassword 57 = .ok (.aload_n 0, 1) := by decide +kernel
theorem dX1_tryPassword_58 : decode cX1_tryPassword 58 = .ok (.invokevirtual 108, 3) := by decide +kernel
theorem dX1_tryPassword_61 : decode cX1_tryPassword 61 = .ok (.ifCond .eq 16, 3) := by decide +kernel
theorem dX1_tryPassword_64 : decode cX1_tryPassword 64 = .ok (.aload_n 0, 1) := by decide +kernel
theorem dX1_tryPassword_65 : decode cX1_tryPassword 65 = .ok (.getfield 46, 3) := by decide +kernel
theorem dX1_tryPassword_68 : decode cX1_tryPassword 68 = .ok (.aload_n 0, 1) := by decide +kernel
theorem dX1_tryPassword_69 : decode cX1_tryPassword 69 = .ok (.getfield 73, 3) := by decide +kernel
theorem dX1_tryPassword_72 : decode cX1_tryPassword 72 = .ok (.invokevirtual 105, 3) := by decide +kernel
theorem dX1_tryPassword_75 : decode cX1_tryPassword 75 = .ok (.iconst 2, 1) := by decide +kernel
theorem dX1_tryPassword_76 : decode cX1_tryPassword 76 = .ok (.ireturn, 1) := by decide +kernel
theorem dX1_tryPassword_77 : decode cX1_tryPassword 77 = .ok (.iconst 0, 1) := by decide +kernel
theorem dX1_tryPassword_78 : decode cX1_tryPassword 78 = .ok (.ireturn, 1) := by decide +kernel
theorem dX1_objectKey_0 : decode cX1_objectKey 0 = .ok (.aload_n 0, 1) := by decide +kernel
theorem dX1_objectKey_1 : decode cX1_objectKey 1 = .ok (.getfield 70, 3) := by decide +kernel
theorem dX1_objectKey_4 : decode cX1_objectKey 4 = .ok (.aload_n 0, 1) := by decide +kernel
theorem dX1_objectKey_5 : decode cX1_objectKey 5 = .ok (.getfield 46, 3) := by decide +kernel
theorem dX1_objectKey_8 : decode cX1_objectKey 8 = .ok (.invokevirtual 105, 3) := by decide +kernel
theorem dX1_objectKey_11 : decode cX1_objectKey 11 = .ok (.aload_n 0, 1) := by decide +kernel
theorem dX1_objectKey_12 : decode cX1_objectKey 12 = .ok (.getfield 70, 3) := by decide +kernel
theorem dX1_objectKey_15 : decode cX1_objectKey 15 = .ok (.iload_n 1, 1) := by decide +kernel
theorem dX1_objectKey_16 : decode cX1_objectKey 16 = .ok (.iconst 3, 1) := by decide +kernel
theorem dX1_objectKey_17 : decode cX1_objectKey 17 = .ok (.invokevirtual 112, 3) := by decide +kernel
theorem dX1_objectKey_20 : decode cX1_objectKey 20 = .ok (.aload_n 0, 1) := by decide +kernel
theorem dX1_objectKey_21 : decode cX1_objectKey 21 = .ok (.getfield 70, 3) := by decide +kernel
theorem dX1_objectKey_24 : decode cX1_objectKey 24 = .ok (.iload_n 2, 1) := by decide +kernel
theorem dX1_objectKey_25 : decode cX1_objectKey 25 = .ok (.iconst 2, 1) := by decide +kernel
theorem dX1_objectKey_26 : decode cX1_objectKey 26 = .ok (.invokevirtual 112, 3) := by decide +kernel
theorem dX1_objectKey_29 : decode cX1_objectKey 29 = .ok (.iload_n 3, 1) := by decide +kernel
theorem dX1_objectKey_30 : decode cX1_objectKey 30 = .ok (.iconst 2, 1) := by decide +kernel
theorem dX1_objectKey_31 : decode cX1_objectKey 31 = .ok (.if_icmp .ne 12, 3) := by decide +kernel
theorem dX1_objectKey_34 : decode cX1_objectKey 34 = .ok (.aload_n 0, 1) := by decide +kernel
theorem dX1_objectKey_35 : decode cX1_objectKey 35 = .ok (.getfield 70, 3) := by decide +kernel
theorem dX1_objectKey_38 : decode cX1_objectKey 38 = .ok (.ldc 116, 2) := by decide +kernel
theorem dX1_objectKey_40 : decode cX1_objectKey 40 = .ok (.invokevirtual 117, 3) := by decide +kernel
theorem dX1_objectKey_43 : decode cX1_objectKey 43 = .ok (.aload_n 0, 1) := by decide +kernel
theorem dX1_objectKey_44 : decode cX1_objectKey 44 = .ok (.getfield 52, 3) := by decide +kernel
theorem dX1_objectKey_47 : decode cX1_objectKey 47 = .ok (.aload_n 0, 1) := by decide +kernel
theorem dX1_objectKey_48 : decode cX1_objectKey 48 = .ok (.getfield 70, 3) := by decide +kernel
theorem dX1_objectKey_51 : decode cX1_objectKey 51 = .ok (.aload_n 0, 1) := by decide +kernel
theorem dX1_objectKey_52 : decode cX1_objectKey 52 = .ok (.getfield 73, 3) := by decide +kernel
theorem dX1_objectKey_55 : decode cX1_objectKey 55 = .ok (.invokevirtual 120, 3) := by decide +kernel
theorem dX1_objectKey_58 : decode cX1_objectKey 58 = .ok (.aload_n 0, 1) := by decide +kernel
theorem dX1_objectKey_59 : decode cX1_objectKey 59 = .ok (.getfield 73, 3) := by decide +kernel
theorem dX1_objectKey_62 : decode cX1_objectKey 62 = .ok (.aload_n 0, 1) := by decide +kernel
theorem dX1_objectKey_63 : decode cX1_objectKey 63 = .ok (.getfield 15, 3) := by decide +kernel
theorem dX1_objectKey_66 : decode cX1_objectKey 66 = .ok (.iconst 5, 1) := by decide +kernel
theorem dX1_objectKey_67 : decode cX1_objectKey 67 = .ok (.iadd, 1) := by decide +kernel
theorem dX1_objectKey_68 : decode cX1_objectKey 68 = .ok (.invokevirtual 123, 3) := by decide +kernel
theorem dX1_objectKey_71 : decode cX1_objectKey 71 = .ok (.aload_n 0, 1) := by decide +kernel
theorem dX1_objectKey_72 : decode cX1_objectKey 72 = .ok (.getfield 73, 3) := by decide +kernel
theorem dX1_objectKey_75 : decode cX1_objectKey 75 = .ok (.areturn, 1) := by decide +kernel
theorem dX1_addPadded_0 : decode cX1_addPadded 0 = .ok (.aload_n 1, 1) := by decide +kernel
theorem dX1_addPadded_1 : decode cX1_addPadded 1 = .ok (.getfield 82, 3) := by decide +kernel
theorem dX1_addPadded_4 : decode cX1_addPadded 4 = .ok (.bipush 32, 2) := by decide +kernel
theorem dX1_addPadded_6 : decode cX1_addPadded 6 = .ok (.invokestatic 126, 3) := by decide +kernel
theorem dX1_addPadded_9 : decode cX1_addPadded 9 = .ok (.istore_n 2, 1) := by decide +kernel
theorem dX1_addPadded_10 : decode cX1_addPadded 10 = .ok (.iconst 0, 1) := by decide +kernel
theorem dX1_addPadded_11 : decode cX1_addPadded 11 = .ok (.istore_n 3, 1) := by decide +kernel
theorem dX1_addPadded_12 : decode cX1_addPadded 12 = .ok (.iload_n 3, 1) := by decide +kernel
theorem dX1_addPadded_13 : decode cX1_addPadded 13 = .ok (.iload_n 2, 1) := by decide +kernel
theorem dX1_addPadded_14 : decode cX1_addPadded 14 = .ok (.if_icmp .ge 19, 3) := by decide +kernel
theorem dX1_addPadded_17 : decode cX1_addPadded 17 = .ok (.aload_n 0, 1) := by decide +kernel
theorem dX1_addPadded_18 : decode cX1_addPadded 18 = .ok (.aload_n 1, 1) := by decide +kernel
theorem dX1_addPadded_19 : decode cX1_addPadded 19 = .ok (.getfield 132, 3) := by decide +kernel
theorem dX1_addPadded_22 : decode cX1_addPadded 22 = .ok (.iload_n 3, 1) := by decide +kernel
theorem dX1_addPadded_23 : decode cX1_addPadded 23 = .ok (.iaload, 1) := by decide +kernel
theorem dX1_addPadded_24 : decode cX1_addPadded 24 = .ok (.invokevirtual 136, 3) := by decide +kernel
theorem dX1_addPadded_27 : decode cX1_addPadded 27 = .ok (.iinc 3 1, 3) := by decide +kernel
theorem dX1_addPadded_30 : decode cX1_addPadded 30 = .ok (.goto (-18), 3) := by decide +kernel
theorem dX1_addPadded_33 : decode cX1_addPadded 33 = .ok (.iconst 0, 1) := by decide +kernel
theorem dX1_addPadded_34 : decode cX1_addPadded 34 = .ok (.istore_n 3, 1) := by decide +kernel
theorem dX1_addPadded_35 : decode cX1_addPadded 35 = .ok (.iload_n 3, 1) := by decide +kernel
theorem dX1_addPadded_36 : decode cX1_addPadded 36 = .ok (.bipush 32, 2) := by decide +kernel
theorem dX1_addPadded_38 : decode cX1_addPadded 38 = .ok (.iload_n 2, 1) := by decide +kernel
theorem dX1_addPadded_39 : decode cX1_addPadded 39 = .ok (.isub, 1) := by decide +kernel
theorem dX1_addPadded_40 : decode cX1_addPadded 40 = .ok (.if_icmp .ge 18, 3) := by decide +kernel
theorem dX1_addPadded_43 : decode cX1_addPadded 43 = .ok (.aload_n 0, 1) := by decide +kernel
theorem dX1_addPadded_44 : decode cX1_addPadded 44 = .ok (.getstatic 139, 3) := by decide +kernel
theorem dX1_addPadded_47 : decode cX1_addPadded 47 = .ok (.iload_n 3, 1) := by decide +kernel
theorem dX1_addPadded_48 : decode cX1_addPadded 48 = .ok (.iaload, 1) := by decide +kernel
theorem dX1_addPadded_49 : decode cX1_addPadded 49 = .ok (.invokevirtual 136, 3) := by decide +kernel
theorem dX1_addPadded_52 : decode cX1_addPadded 52 = .ok (.iinc 3 1, 3) := by decide +kernel
theorem dX1_addPadded_55 : decode cX1_addPadded 55 = .ok (.goto (-20), 3) := by decide +kernel
theorem dX1_addPadded_58 : decode cX1_addPadded 58 = .ok (.return_, 1) := by decide +kernel
theorem dX1_addPad_0 : decode cX1_addPad 0 = .ok (.iconst 0, 1) := by decide +kernel
theorem dX1_addPad_1 : decode cX1_addPad 1 = .ok (.istore_n 1, 1) := by decide +kernel
theorem dX1_addPad_2 : decode cX1_addPad 2 = .ok (.iload_n 1, 1) := by decide +kernel
theorem dX1_addPad_3 : decode cX1_addPad 3 = .ok (.bipush 32, 2) := by decide +kernel
theorem dX1_addPad_5 : decode cX1_addPad 5 = .ok (.if_icmp .ge 18, 3) := by decide +kernel
theorem dX1_addPad_8 : decode cX1_addPad 8 = .ok (.aload_n 0, 1) := by decide +kernel
theorem dX1_addPad_9 : decode cX1_addPad 9 = .ok (.getstatic 139, 3) := by decide +kernel
theorem dX1_addPad_12 : decode cX1_addPad 12 = .ok (.iload_n 1, 1) := by decide +kernel
theorem dX1_addPad_13 : decode cX1_addPad 13 = .ok (.iaload, 1) := by decide +kernel
theorem dX1_addPad_14 : decode cX1_addPad 14 = .ok (.invokevirtual 136, 3) := by decide +kernel
theorem dX1_addPad_17 : decode cX1_addPad 17 = .ok (.iinc 1 1, 3) := by decide +kernel
theorem dX1_addPad_20 : decode cX1_addPad 20 = .ok (.goto (-18), 3) := by decide +kernel
theorem dX1_addPad_23 : decode cX1_addPad 23 = .ok (.return_, 1) := by decide +kernel
theorem dX1_deriveKey_0 : decode cX1_deriveKey 0 = .ok (.aload_n 0, 1) := by decide +kernel
theorem dX1_deriveKey_1 : decode cX1_deriveKey 1 = .ok (.getfield 70, 3) := by decide +kernel
theorem dX1_deriveKey_4 : decode cX1_deriveKey 4 = .ok (.invokevirtual 89, 3) := by decide +kernel
theorem dX1_deriveKey_7 : decode cX1_deriveKey 7 = .ok (.aload_n 0, 1) := by decide +kernel
theorem dX1_deriveKey_8 : decode cX1_deriveKey 8 = .ok (.getfield 70, 3) := by decide +kernel
theorem dX1_deriveKey_11 : decode cX1_deriveKey 11 = .ok (.aload_n 1, 1) := by decide +kernel
theorem dX1_deriveKey_12 : decode cX1_deriveKey 12 = .ok (.invokestatic 92, 3) := by decide +kernel
theorem dX1_deriveKey_15 : decode cX1_deriveKey 15 = .ok (.aload_n 0, 1) := by decide +kernel
theorem dX1_deriveKey_16 : decode cX1_deriveKey 16 = .ok (.getfield 70, 3) := by decide +kernel
theorem dX1_deriveKey_19 : decode cX1_deriveKey 19 = .ok (.aload_n 0, 1) := by decide +kernel
theorem dX1_deriveKey_20 : decode cX1_deriveKey 20 = .ok (.getfield 30, 3) := by decide +kernel
theorem dX1_deriveKey_23 : decode cX1_deriveKey 23 = .ok (.invokevirtual 142, 3) := by decide +kernel
theorem dX1_deriveKey_26 : decode cX1_deriveKey 26 = .ok (.aload_n 0, 1) := by decide +kernel
theorem dX1_deriveKey_27 : decode cX1_deriveKey 27 = .ok (.getfield 70, 3) := by decide +kernel
theorem dX1_deriveKey_30 : decode cX1_deriveKey 30 = .ok (.aload_n 0, 1) := by decide +kernel
theorem dX1_deriveKey_31 : decode cX1_deriveKey 31 = .ok (.getfield 18, 3) := by decide +kernel
theorem dX1_deriveKey_34 : decode cX1_deriveKey 34 = .ok (.iconst 4, 1) := by decide +kernel
theorem dX1_deriveKey_35 : decode cX1_deriveKey 35 = .ok (.invokevirtual 112, 3) := by decide +kernel
theorem dX1_deriveKey_38 : decode cX1_deriveKey 38 = .ok (.aload_n 0, 1) := by decide +kernel
theorem dX1_deriveKey_39 : decode cX1_deriveKey 39 = .ok (.getfield 70, 3) := by decide +kernel
theorem dX1_deriveKey_42 : decode cX1_deriveKey 42 = .ok (.aload_n 0, 1) := by decide +kernel
theorem dX1_deriveKey_43 : decode cX1_deriveKey 43 = .ok (.getfield 37, 3) := by decide +kernel
theorem dX1_deriveKey_46 : decode cX1_deriveKey 46 = .ok (.invokevirtual 142, 3) := by decide +kernel
theorem dX1_deriveKey_49 : decode cX1_deriveKey 49 = .ok (.aload_n 0, 1) := by decide +kernel
theorem dX1_deriveKey_50 : decode cX1_deriveKey 50 = .ok (.getfield 9, 3) := by decide +kernel
theorem dX1_deriveKey_53 : decode cX1_deriveKey 53 = .ok (.iconst 4, 1) := by decide +kernel
theorem dX1_deriveKey_54 : decode cX1_deriveKey 54 = .ok (.if_icmp .ne 21, 3) := by decide +kernel
theorem dX1_deriveKey_57 : decode cX1_deriveKey 57 = .ok (.aload_n 0, 1) := by decide +kernel
theorem dX1_deriveKey_58 : decode cX1_deriveKey 58 = .ok (.getfield 21, 3) := by decide +kernel
theorem dX1_deriveKey_61 : decode cX1_deriveKey 61 = .ok (.ifCond .eq 14, 3) := by decide +kernel
theorem dX1_deriveKey_64 : decode cX1_deriveKey 64 = .ok (.aload_n 0, 1) := by decide +kernel
theorem dX1_deriveKey_65 : decode cX1_deriveKey 65 = .ok (.getfield 70, 3) := by decide +kernel
theorem dX1_deriveKey_68 : decode cX1_deriveKey 68 = .ok (.sipush 255, 3) := by decide +kernel
theorem dX1_deriveKey_71 : decode cX1_deriveKey 71 = .ok (.iconst 4, 1) := by decide +kernel
theorem dX1_deriveKey_72 : decode cX1_deriveKey 72 = .ok (.invokevirtual 145, 3) := by decide +kernel
theorem dX1_deriveKey_75 : decode cX1_deriveKey 75 = .ok (.aload_n 0, 1) := by decide +kernel
theorem dX1_deriveKey_76 : decode cX1_deriveKey 76 = .ok (.getfield 52, 3) := by decide +kernel
theorem dX1_deriveKey_79 : decode cX1_deriveKey 79 = .ok (.aload_n 0, 1) := by decide +kernel
theorem dX1_deriveKey_80 : decode cX1_deriveKey 80 = .ok (.getfield 70, 3) := by decide +kernel
theorem dX1_deriveKey_83 : decode cX1_deriveKey 83 = .ok (.aload_n 0, 1) := by decide +kernel
theorem dX1_deriveKey_84 : decode cX1_deriveKey 84 = .ok (.getfield 73, 3) := by decide +kernel
theorem dX1_deriveKey_87 : decode cX1_deriveKey 87 = .ok (.invokevirtual 120, 3) := by decide +kernel
theorem dX1_deriveKey_90 : decode cX1_deriveKey 90 = .ok (.aload_n 0, 1) := by decide +kernel
theorem dX1_deriveKey_91 : decode cX1_deriveKey 91 = .ok (.getfield 9, 3) := by decide +kernel
theorem dX1_deriveKey_94 : decode cX1_deriveKey 94 = .ok (.iconst 3, 1) := by decide +kernel
theorem dX1_deriveKey_95 : decode cX1_deriveKey 95 = .ok (.if_icmp .lt 43, 3) := by decide +kernel
theorem dX1_deriveKey_98 : decode cX1_deriveKey 98 = .ok (.iconst 0, 1) := by decide +kernel
theorem dX1_deriveKey_99 : decode cX1_deriveKey 99 = .ok (.istore_n 2, 1) := by decide +kernel
theorem dX1_deriveKey_100 : decode cX1_deriveKey 100 = .ok (.iload_n 2, 1) := by decide +kernel
theorem dX1_deriveKey_101 : decode cX1_deriveKey 101 = .ok (.bipush 50, 2) := by decide +kernel
theorem dX1_deriveKey_103 : decode cX1_deriveKey 103 = .ok (.if_icmp .ge 35, 3) := by decide +kernel
theorem dX1_deriveKey_106 : decode cX1_deriveKey 106 = .ok (.aload_n 0, 1) := by decide +kernel
theorem dX1_deriveKey_107 : decode cX1_deriveKey 107 = .ok (.getfield 73, 3) := by decide +kernel
theorem dX1_deriveKey_110 : decode cX1_deriveKey 110 = .ok (.aload_n 0, 1) := by decide +kernel
theorem dX1_deriveKey_111 : decode cX1_deriveKey 111 = .ok (.getfield 15, 3) := by decide +kernel
theorem dX1_deriveKey_114 : decode cX1_deriveKey 114 = .ok (.invokevirtual 123, 3) := by decide +kernel
theorem dX1_deriveKey_117 : decode cX1_deriveKey 117 = .ok (.aload_n 0, 1) := by decide +kernel
theorem dX1_deriveKey_118 : decode cX1_deriveKey 118 = .ok (.getfield 52, 3) := by decide +kernel
theorem dX1_deriveKey_121 : decode cX1_deriveKey 121 = .ok (.aload_n 0, 1) := by decide +kernel
theorem dX1_deriveKey_122 : decode cX1_deriveKey 122 = .ok (.getfield 73, 3) := by decide +kernel
theorem dX1_deriveKey_125 : decode cX1_deriveKey 125 = .ok (.aload_n 0, 1) := by decide +kernel
theorem dX1_deriveKey_126 : decode cX1_deriveKey 126 = .ok (.getfield 73, 3) := by decide +kernel
theorem dX1_deriveKey_129 : decode cX1_deriveKey 129 = .ok (.invokevirtual 120, 3) := by decide +kernel
theorem dX1_deriveKey_132 : decode cX1_deriveKey 132 = .ok (.iinc 2 1, 3) := by decide +kernel
theorem dX1_deriveKey_135 : decode cX1_deriveKey 135 = .ok (.goto (-35), 3) := by decide +kernel
theorem dX1_deriveKey_138 : decode cX1_deriveKey 138 = .ok (.aload_n 0, 1) := by decide +kernel
theorem dX1_deriveKey_139 : decode cX1_deriveKey 139 = .ok (.getfield 73, 3) := by decide +kernel
theorem dX1_deriveKey_142 : decode cX1_deriveKey 142 = .ok (.aload_n 0, 1) := by decide +kernel
theorem dX1_deriveKey_143 : decode cX1_deriveKey 143 = .ok (.getfield 15, 3) := by decide +kernel
theorem dX1_deriveKey_146 : decode cX1_deriveKey 146 = .ok (.invokevirtual 123, 3) := by decide +kernel
theorem dX1_deriveKey_149 : decode cX1_deriveKey 149 = .ok (.return_, 1) := by decide +kernel
theorem dX1_deriveOwnerKey_0 : decode cX1_deriveOwnerKey 0 = .ok (.aload_n 0, 1) := by decide +kernel
theorem dX1_deriveOwnerKey_1 : decode cX1_deriveOwnerKey 1 = .ok (.getfield 70, 3) := by decide +kernel
theorem dX1_deriveOwnerKey_4 : decode cX1_deriveOwnerKey 4 = .ok (.invokevirtual 89, 3) := by decide +kernel
theorem dX1_deriveOwnerKey_7 : decode cX1_deriveOwnerKey 7 = .ok (.aload_n 0, 1) := by decide +kernel
theorem dX1_deriveOwnerKey_8 : decode cX1_deriveOwnerKey 8 = .ok (.getfield 70, 3) := by decide +kernel
theorem dX1_deriveOwnerKey_11 : decode cX1_deriveOwnerKey 11 = .ok (.aload_n 1, 1) := by decide +kernel
theorem dX1_deriveOwnerKey_12 : decode cX1_deriveOwnerKey 12 = .ok (.invokestatic 92, 3) := by decide +kernel
theorem dX1_deriveOwnerKey_15 : decode cX1_deriveOwnerKey 15 = .ok (.aload_n 0, 1) := by decide +kernel
theorem dX1_deriveOwnerKey_16 : decode cX1_deriveOwnerKey 16 = .ok (.getfield 52, 3) := by decide +kernel
theorem dX1_deriveOwnerKey_19 : decode cX1_deriveOwnerKey 19 = .ok (.aload_n 0, 1) := by decide +kernel
theorem dX1_deriveOwnerKey_20 : decode cX1_deriveOwnerKey 20 = .ok (.getfield 70, 3) := by decide +kernel
theorem dX1_deriveOwnerKey_23 : decode cX1_deriveOwnerKey 23 = .ok (.aload_n 0, 1) := by decide +kernel
theorem dX1_deriveOwnerKey_24 : decode cX1_deriveOwnerKey 24 = .ok (.getfield 73, 3) := by decide +kernel
theorem dX1_deriveOwnerKey_27 : decode cX1_deriveOwnerKey 27 = .ok (.invokevirtual 120, 3) := by decide +kernel
theorem dX1_deriveOwnerKey_30 : decode cX1_deriveOwnerKey 30 = .ok (.aload_n 0, 1) := by decide +kernel
theorem dX1_deriveOwnerKey_31 : decode cX1_deriveOwnerKey 31 = .ok (.getfield 9, 3) := by decide +kernel
theorem dX1_deriveOwnerKey_34 : decode cX1_deriveOwnerKey 34 = .ok (.iconst 3, 1) := by decide +kernel
theorem dX1_deriveOwnerKey_35 : decode cX1_deriveOwnerKey 35 = .ok (.if_icmp .lt 32, 3) := by decide +kernel
theorem dX1_deriveOwnerKey_38 : decode cX1_deriveOwnerKey 38 = .ok (.iconst 0, 1) := by decide +kernel
theorem dX1_deriveOwnerKey_39 : decode cX1_deriveOwnerKey 39 = .ok (.istore_n 2, 1) := by decide +kernel
theorem dX1_deriveOwnerKey_40 : decode cX1_deriveOwnerKey 40 = .ok (.iload_n 2, 1) := by decide +kernel
theorem dX1_deriveOwnerKey_41 : decode cX1_deriveOwnerKey 41 = .ok (.bipush 50, 2) := by decide +kernel
theorem dX1_deriveOwnerKey_43 : decode cX1_deriveOwnerKey 43 = .ok (.if_icmp .ge 24, 3) := by decide +kernel
theorem dX1_deriveOwnerKey_46 : decode cX1_deriveOwnerKey 46 = .ok (.aload_n 0, 1) := by decide +kernel
theorem dX1_deriveOwnerKey_47 : decode cX1_deriveOwnerKey 47 = .ok (.getfield 52, 3) := by decide +kernel
theorem dX1_deriveOwnerKey_50 : decode cX1_deriveOwnerKey 50 = .ok (.aload_n 0, 1) := by decide +kernel
theorem dX1_deriveOwnerKey_51 : decode cX1_deriveOwnerKey 51 = .ok (.getfield 73, 3) := by decide +kernel
theorem dX1_deriveOwnerKey_54 : decode cX1_deriveOwnerKey 54 = .ok (.aload_n 0, 1) := by decide +kernel
theorem dX1_deriveOwnerKey_55 : decode cX1_deriveOwnerKey 55 = .ok (.getfield 73, 3) := by decide +kernel
theorem dX1_deriveOwnerKey_58 : decode cX1_deriveOwnerKey 58 = .ok (.invokevirtual 120, 3) := by decide +kernel
theorem dX1_deriveOwnerKey_61 : decode cX1_deriveOwnerKey 61 = .ok (.iinc 2 1, 3) := by decide +kernel
theorem dX1_deriveOwnerKey_64 : decode cX1_deriveOwnerKey 64 = .ok (.goto (-24), 3) := by decide +kernel
theorem dX1_deriveOwnerKey_67 : decode cX1_deriveOwnerKey 67 = .ok (.aload_n 0, 1) := by decide +kernel
theorem dX1_deriveOwnerKey_68 : decode cX1_deriveOwnerKey 68 = .ok (.getfield 73, 3) := by decide +kernel
theorem dX1_deriveOwnerKey_71 : decode cX1_deriveOwnerKey 71 = .ok (.aload_n 0, 1) := by decide +kernel
theorem dX1_deriveOwnerKey_72 : decode cX1_deriveOwnerKey 72 = .ok (.getfield 15, 3) := by decide +kernel
theorem dX1_deriveOwnerKey_75 : decode cX1_deriveOwnerKey 75 = .ok (.invokevirtual 123, 3) := by decide +kernel
theorem dX1_deriveOwnerKey_78 : decode cX1_deriveOwnerKey 78 = .ok (.return_, 1) := by decide +kernel
theorem dX1_streamEntry_0 : decode cX1_streamEntry 0 = .ok (.aload_n 0, 1) := by decide +kernel
theorem dX1_streamEntry_1 : decode cX1_streamEntry 1 = .ok (.getfield 9, 3) := by decide +kernel
theorem dX1_streamEntry_4 : decode cX1_streamEntry 4 = .ok (.iconst 3, 1) := by decide +kernel
theorem dX1_streamEntry_5 : decode cX1_streamEntry 5 = .ok (.if_icmp .lt 8, 3) := by decide +kernel
theorem dX1_streamEntry_8 : decode cX1_streamEntry 8 = .ok (.bipush 20, 2) := by decide +kernel
theorem dX1_streamEntry_10 : decode cX1_streamEntry 10 = .ok (.goto 4, 3) := by decide +kernel
theorem dX1_streamEntry_13 : decode cX1_streamEntry 13 = .ok (.iconst 1, 1) := by decide +kernel
theorem dX1_streamEntry_14 : decode cX1_streamEntry 14 = .ok (.istore_n 2, 1) := by decide +kernel
theorem dX1_streamEntry_15 : decode cX1_streamEntry 15 = .ok (.iconst 0, 1) := by decide +kernel
theorem dX1_streamEntry_16 : decode cX1_streamEntry 16 = .ok (.istore_n 3, 1) := by decide +kernel
theorem dX1_streamEntry_17 : decode cX1_streamEntry 17 = .ok (.iload_n 3, 1) := by decide +kernel
theorem dX1_streamEntry_18 : decode cX1_streamEntry 18 = .ok (.iload_n 2, 1) := by decide +kernel
theorem dX1_streamEntry_19 : decode cX1_streamEntry 19 = .ok (.if_icmp .ge 22, 3) := by decide +kernel
theorem dX1_streamEntry_22 : decode cX1_streamEntry 22 = .ok (.aload_n 0, 1) := by decide +kernel
theorem dX1_streamEntry_23 : decode cX1_streamEntry 23 = .ok (.getfield 59, 3) := by decide +kernel
theorem dX1_streamEntry_26 : decode cX1_streamEntry 26 = .ok (.aload_n 1, 1) := by decide +kernel
theorem dX1_streamEntry_27 : decode cX1_streamEntry 27 = .ok (.aload_n 0, 1) := by decide +kernel
theorem dX1_streamEntry_28 : decode cX1_streamEntry 28 = .ok (.getfield 73, 3) := by decide +kernel
theorem dX1_streamEntry_31 : decode cX1_streamEntry 31 = .ok (.iload_n 3, 1) := by decide +kernel
theorem dX1_streamEntry_32 : decode cX1_streamEntry 32 = .ok (.invokevirtual 148, 3) := by decide +kernel
theorem dX1_streamEntry_35 : decode cX1_streamEntry 35 = .ok (.iinc 3 1, 3) := by decide +kernel
theorem dX1_streamEntry_38 : decode cX1_streamEntry 38 = .ok (.goto (-21), 3) := by decide +kernel
theorem dX1_streamEntry_41 : decode cX1_streamEntry 41 = .ok (.return_, 1) := by decide +kernel
theorem dX1_makeEntryByTried_0 : decode cX1_makeEntryByTried 0 = .ok (.aload_n 0, 1) := by decide +kernel
theorem dX1_makeEntryByTried_1 : decode cX1_makeEntryByTried 1 = .ok (.getfield 9, 3) := by decide +kernel
theorem dX1_makeEntryByTried_4 : decode cX1_makeEntryByTried 4 = .ok (.iconst 3, 1) := by decide +kernel
theorem dX1_makeEntryByTried_5 : decode cX1_makeEntryByTried 5 = .ok (.if_icmp .lt 64, 3) := by decide +kernel
theorem dX1_makeEntryByTried_8 : decode cX1_makeEntryByTried 8 = .ok (.aload_n 0, 1) := by decide +kernel
theorem dX1_makeEntryByTried_9 : decode cX1_makeEntryByTried 9 = .ok (.getfield 70, 3) := by decide +kernel
theorem dX1_makeEntryByTried_12 : decode cX1_makeEntryByTried 12 = .ok (.invokevirtual 89, 3) := by decide +kernel
theorem dX1_makeEntryByTried_15 : decode cX1_makeEntryByTried 15 = .ok (.aload_n 0, 1) := by decide +kernel
theorem dX1_makeEntryByTried_16 : decode cX1_makeEntryByTried 16 = .ok (.getfield 70, 3) := by decide +kernel
theorem dX1_makeEntryByTried_19 : decode cX1_makeEntryByTried 19 = .ok (.invokestatic 152, 3) := by decide +kernel
theorem dX1_makeEntryByTried_22 : decode cX1_makeEntryByTried 22 = .ok (.aload_n 0, 1) := by decide +kernel
theorem dX1_makeEntryByTried_23 : decode cX1_makeEntryByTried 23 = .ok (.getfield 70, 3) := by decide +kernel
theorem dX1_makeEntryByTried_26 : decode cX1_makeEntryByTried 26 = .ok (.aload_n 0, 1) := by decide +kernel
theorem dX1_makeEntryByTried_27 : decode cX1_makeEntryByTried 27 = .ok (.getfield 37, 3) := by decide +kernel
theorem dX1_makeEntryByTried_30 : decode cX1_makeEntryByTried 30 = .ok (.invokevirtual 142, 3) := by decide +kernel
theorem dX1_makeEntryByTried_33 : decode cX1_makeEntryByTried 33 = .ok (.aload_n 0, 1) := by decide +kernel
theorem dX1_makeEntryByTried_34 : decode cX1_makeEntryByTried 34 = .ok (.getfield 52, 3) := by decide +kernel
theorem dX1_makeEntryByTried_37 : decode cX1_makeEntryByTried 37 = .ok (.aload_n 0, 1) := by decide +kernel
theorem dX1_makeEntryByTried_38 : decode cX1_makeEntryByTried 38 = .ok (.getfield 70, 3) := by decide +kernel
theorem dX1_makeEntryByTried_41 : decode cX1_makeEntryByTried 41 = .ok (.aload_n 0, 1) := by decide +kernel
theorem dX1_makeEntryByTried_42 : decode cX1_makeEntryByTried 42 = .ok (.getfield 76, 3) := by decide +kernel
theorem dX1_makeEntryByTried_45 : decode cX1_makeEntryByTried 45 = .ok (.invokevirtual 120, 3) := by decide +kernel
theorem dX1_makeEntryByTried_48 : decode cX1_makeEntryByTried 48 = .ok (.aload_n 0, 1) := by decide +kernel
theorem dX1_makeEntryByTried_49 : decode cX1_makeEntryByTried 49 = .ok (.aload_n 0, 1) := by decide +kernel
theorem dX1_makeEntryByTried_50 : decode cX1_makeEntryByTried 50 = .ok (.getfield 76, 3) := by decide +kernel
theorem dX1_makeEntryByTried_53 : decode cX1_makeEntryByTried 53 = .ok (.invokevirtual 96, 3) := by decide +kernel
theorem dX1_makeEntryByTried_56 : decode cX1_makeEntryByTried 56 = .ok (.aload_n 0, 1) := by decide +kernel
theorem dX1_makeEntryByTried_57 : decode cX1_makeEntryByTried 57 = .ok (.getfield 76, 3) := by decide +kernel
theorem dX1_makeEntryByTried_60 : decode cX1_makeEntryByTried 60 = .ok (.iconst 0, 1) := by decide +kernel
theorem dX1_makeEntryByTried_61 : decode cX1_makeEntryByTried 61 = .ok (.bipush 16, 2) := by decide +kernel
theorem dX1_makeEntryByTried_63 : decode cX1_makeEntryByTried 63 = .ok (.invokevirtual 145, 3) := by decide +kernel
theorem dX1_makeEntryByTried_66 : decode cX1_makeEntryByTried 66 = .ok (.goto 25, 3) := by decide +kernel
theorem dX1_makeEntryByTried_69 : decode cX1_makeEntryByTried 69 = .ok (.aload_n 0, 1) := by decide +kernel
theorem dX1_makeEntryByTried_70 : decode cX1_makeEntryByTried 70 = .ok (.getfield 76, 3) := by decide +kernel
theorem dX1_makeEntryByTried_73 : decode cX1_makeEntryByTried 73 = .ok (.invokevirtual 89, 3) := by decide +kernel
theorem dX1_makeEntryByTried_76 : decode cX1_makeEntryByTried 76 = .ok (.aload_n 0, 1) := by decide +kernel
theorem dX1_makeEntryByTried_77 : decode cX1_makeEntryByTried 77 = .ok (.getfield 76, 3) := by decide +kernel
theorem dX1_makeEntryByTried_80 : decode cX1_makeEntryByTried 80 = .ok (.invokestatic 152, 3) := by decide +kernel
theorem dX1_makeEntryByTried_83 : decode cX1_makeEntryByTried 83 = .ok (.aload_n 0, 1) := by decide +kernel
theorem dX1_makeEntryByTried_84 : decode cX1_makeEntryByTried 84 = .ok (.aload_n 0, 1) := by decide +kernel
theorem dX1_makeEntryByTried_85 : decode cX1_makeEntryByTried 85 = .ok (.getfield 76, 3) := by decide +kernel
theorem dX1_makeEntryByTried_88 : decode cX1_makeEntryByTried 88 = .ok (.invokevirtual 96, 3) := by decide +kernel
theorem dX1_makeEntryByTried_91 : decode cX1_makeEntryByTried 91 = .ok (.return_, 1) := by decide +kernel
theorem dX1_isTriedTheUsers_0 : decode cX1_isTriedTheUsers 0 = .ok (.aload_n 0, 1) := by decide +kernel
theorem dX1_isTriedTheUsers_1 : decode cX1_isTriedTheUsers 1 = .ok (.invokevirtual 102, 3) := by decide +kernel
theorem dX1_isTriedTheUsers_4 : decode cX1_isTriedTheUsers 4 = .ok (.aload_n 0, 1) := by decide +kernel
theorem dX1_isTriedTheUsers_5 : decode cX1_isTriedTheUsers 5 = .ok (.getfield 76, 3) := by decide +kernel
theorem dX1_isTriedTheUsers_8 : decode cX1_isTriedTheUsers 8 = .ok (.aload_n 0, 1) := by decide +kernel
theorem dX1_isTriedTheUsers_9 : decode cX1_isTriedTheUsers 9 = .ok (.getfield 34, 3) := by decide +kernel
theorem dX1_isTriedTheUsers_12 : decode cX1_isTriedTheUsers 12 = .ok (.aload_n 0, 1) := by decide +kernel
theorem dX1_isTriedTheUsers_13 : decode cX1_isTriedTheUsers 13 = .ok (.getfield 9, 3) := by decide +kernel
theorem dX1_isTriedTheUsers_16 : decode cX1_isTriedTheUsers 16 = .ok (.iconst 3, 1) := by decide +kernel
theorem dX1_isTriedTheUsers_17 : decode cX1_isTriedTheUsers 17 = .ok (.if_icmp .lt 8, 3) := by decide +kernel
theorem dX1_isTriedTheUsers_20 : decode cX1_isTriedTheUsers 20 = .ok (.bipush 16, 2) := by decide +kernel
theorem dX1_isTriedTheUsers_22 : decode cX1_isTriedTheUsers 22 = .ok (.goto 5, 3) := by decide +kernel
theorem dX1_isTriedTheUsers_25 : decode cX1_isTriedTheUsers 25 = .ok (.bipush 32, 2) := by decide +kernel
theorem dX1_isTriedTheUsers_27 : decode cX1_isTriedTheUsers 27 = .ok (.invokevirtual 155, 3) := by decide +kernel
theorem dX1_isTriedTheUsers_30 : decode cX1_isTriedTheUsers 30 = .ok (.ireturn, 1) := by decide +kernel
theorem dX2_init_0 : decode cX2_init 0 = .ok (.aload_n 0, 1) := by decide +kernel
theorem dX2_init_1 : decode cX2_init 1 = .ok (.invokespecial 1, 3) := by decide +kernel
theorem dX2_init_4 : decode cX2_init 4 = .ok (.aload_n 0, 1) := by decide +kernel
theorem dX2_init_5 : decode cX2_init 5 = .ok (.bipush 16, 2) := by decide +kernel
theorem dX2_init_7 : decode cX2_init 7 = .ok (.newarray .int, 2) := by decide +kernel
theorem dX2_init_9 : decode cX2_init 9 = .ok (.putfield 7, 3) := by decide +kernel
theorem dX2_init_12 : decode cX2_init 12 = .ok (.return_, 1) := by decide +kernel
theorem dX2_hash_0 : decode cX2_hash 0 = .ok (.aload_n 0, 1) := by decide +kernel
theorem dX2_hash_1 : decode cX2_hash 1 = .ok (.ldc 13, 2) := by decide +kernel
theorem dX2_hash_3 : decode cX2_hash 3 = .ok (.putfield 14, 3) := by decide +kernel
theorem dX2_hash_6 : decode cX2_hash 6 = .ok (.aload_n 0, 1) := by decide +kernel
theorem dX2_hash_7 : decode cX2_hash 7 = .ok (.ldc 18, 2) := by decide +kernel
theorem dX2_hash_9 : decode cX2_hash 9 = .ok (.putfield 19, 3) := by decide +kernel
theorem dX2_hash_12 : decode cX2_hash 12 = .ok (.aload_n 0, 1) := by decide +kernel
theorem dX2_hash_13 : decode cX2_hash 13 = .ok (.ldc 22, 2) := by decide +kernel
theorem dX2_hash_15 : decode cX2_hash 15 = .ok (.putfield 23, 3) := by decide +kernel
theorem dX2_hash_18 : decode cX2_hash 18 = .ok (.aload_n 0, 1) := by decide +kernel
theorem dX2_hash_19 : decode cX2_hash 19 = .ok (.ldc 26, 2) := by decide +kernel
theorem dX2_hash_21 : decode cX2_hash 21 = .ok (.putfield 27, 3) := by decide +kernel
theorem dX2_hash_24 : decode cX2_hash 24 = .ok (.aload_n 1, 1) := by decide +kernel
theorem dX2_hash_25 : decode cX2_hash 25 = .ok (.getfield 30, 3) := by decide +kernel
theorem dX2_hash_28 : decode cX2_hash 28 = .ok (.bipush 8, 2) := by decide +kernel
theorem dX2_hash_30 : decode cX2_hash 30 = .ok (.iadd, 1) := by decide +kernel
theorem dX2_hash_31 : decode cX2_hash 31 = .ok (.bipush 64, 2) := by decide +kernel
theorem dX2_hash_33 : decode cX2_hash 33 = .ok (.idiv, 1) := by decide +kernel
theorem dX2_hash_34 : decode cX2_hash 34 = .ok (.iconst 1, 1) := by decide +kernel
theorem dX2_hash_35 : decode cX2_hash 35 = .ok (.iadd, 1) := by decide +kernel
theorem dX2_hash_36 : decode cX2_hash 36 = .ok (.istore_n 3, 1) := by decide +kernel
theorem dX2_hash_37 : decode cX2_hash 37 = .ok (.iconst 0, 1) := by decide +kernel
theorem dX2_hash_38 : decode cX2_hash 38 = .ok (.istore 4, 2) := by decide +kernel
theorem dX2_hash_40 : decode cX2_hash 40 = .ok (.iload 4, 2) := by decide +kernel
theorem dX2_hash_42 : decode cX2_hash 42 = .ok (.iload_n 3, 1) := by decide +kernel
theorem dX2_hash_43 : decode cX2_hash 43 = .ok (.if_icmp .ge 45, 3) := by decide +kernel
theorem dX2_hash_46 : decode cX2_hash 46 = .ok (.aload_n 0, 1) := by decide +kernel
theorem dX2_hash_47 : decode cX2_hash 47 = .ok (.aload_n 1, 1) := by decide +kernel
theorem dX2_hash_48 : decode cX2_hash 48 = .ok (.iload 4, 2) := by decide +kernel
theorem dX2_hash_50 : decode cX2_hash 50 = .ok (.bipush 64, 2) := by decide +kernel
theorem dX2_hash_52 : decode cX2_hash 52 = .ok (.imul, 1) := by decide +kernel
theorem dX2_hash_53 : decode cX2_hash 53 = .ok (.invokevirtual 35, 3) := by decide +kernel
theorem dX2_hash_56 : decode cX2_hash 56 = .ok (.iload 4, 2) := by decide +kernel
theorem dX2_hash_58 : decode cX2_hash 58 = .ok (.iload_n 3, 1) := by decide +kernel
theorem dX2_hash_59 : decode cX2_hash 59 = .ok (.iconst 1, 1) := by decide +kernel
theorem dX2_hash_60 : decode cX2_hash 60 = .ok (.isub, 1) := by decide +kernel
theorem dX2_hash_61 : decode cX2_hash 61 = .ok (.if_icmp .ne 17, 3) := by decide +kernel
theorem dX2_hash_64 : decode cX2_hash 64 = .ok (.aload_n 0, 1) := by decide +kernel
theorem dX2_hash_65 : decode cX2_hash 65 = .ok (.getfield 7, 3) := by decide +kernel
theorem dX2_hash_68 : decode cX2_hash 68 = .ok (.bipush 14, 2) := by decide +kernel
theorem dX2_hash_70 : decode cX2_hash 70 = .ok (.bipush 8, 2) := by decide +kernel
theorem dX2_hash_72 : decode cX2_hash 72 = .ok (.aload_n 1, 1) := by decide +kernel
theorem dX2_hash_73 : decode cX2_hash 73 = .ok (.getfield 30, 3) := by decide +kernel
theorem dX2_hash_76 : decode cX2_hash 76 = .ok (.imul, 1) := by decide +kernel
theorem dX2_hash_77 : decode cX2_hash 77 = .ok (.iastore, 1) := by decide +kernel
theorem dX2_hash_78 : decode cX2_hash 78 = .ok (.aload_n 0, 1) := by decide +kernel
theorem dX2_hash_79 : decode cX2_hash 79 = .ok (.invokevirtual 39, 3) := by decide +kernel
theorem dX2_hash_82 : decode cX2_hash 82 = .ok (.iinc 4 1, 3) := by decide +kernel
theorem dX2_hash_85 : decode cX2_hash 85 = .ok (.goto (-45), 3) := by decide +kernel
theorem dX2_hash_88 : decode cX2_hash 88 = .ok (.aload_n 2, 1) := by decide +kernel
theorem dX2_hash_89 : decode cX2_hash 89 = .ok (.invokevirtual 42, 3) := by decide +kernel
theorem dX2_hash_92 : decode cX2_hash 92 = .ok (.aload_n 2, 1) := by decide +kernel
theorem dX2_hash_93 : decode cX2_hash 93 = .ok (.aload_n 0, 1) := by decide +kernel
theorem dX2_hash_94 : decode cX2_hash 94 = .ok (.getfield 14, 3) := by decide +kernel
theorem dX2_hash_97 : decode cX2_hash 97 = .ok (.iconst 4, 1) := by decide +kernel
theorem dX2_hash_98 : decode cX2_hash 98 = .ok (.invokevirtual 45, 3) := by decide +kernel
theorem dX2_hash_101 : decode cX2_hash 101 = .ok (.aload_n 2, 1) := by decide +kernel
theorem dX2_hash_102 : decode cX2_hash 102 = .ok (.aload_n 0, 1) := by decide +kernel
theorem dX2_hash_103 : decode cX2_hash 103 = .ok (.getfield 19, 3) := by decide +kernel
theorem dX2_hash_106 : decode cX2_hash 106 = .ok (.iconst 4, 1) := by decide +kernel
theorem dX2_hash_107 : decode cX2_hash 107 = .ok (.invokevirtual 45, 3) := by decide +kernel
theorem dX2_hash_110 : decode cX2_hash 110 = .ok (.aload_n 2, 1) := by decide +kernel
theorem dX2_hash_111 : decode cX2_hash 111 = .ok (.aload_n 0, 1) := by decide +kernel
theorem dX2_hash_112 : decode cX2_hash 112 = .ok (.getfield 23, 3) := by decide +kernel
theorem dX2_hash_115 : decode cX2_hash 115 = .ok (.iconst 4, 1) := by decide +kernel
theorem dX2_hash_116 : decode cX2_hash 116 = .ok (.invokevirtual 45, 3) := by decide +kernel
theorem dX2_hash_119 : decode cX2_hash 119 = .ok (.aload_n 2, 1) := by decide +kernel
theorem dX2_hash_120 : decode cX2_hash 120 = .ok (.aload_n 0, 1) := by decide +kernel
theorem dX2_hash_121 : decode cX2_hash 121 = .ok (.getfield 27, 3) := by decide +kernel
theorem dX2_hash_124 : decode cX2_hash 124 = .ok (.iconst 4, 1) := by decide +kernel
theorem dX2_hash_125 : decode cX2_hash 125 = .ok (.invokevirtual 45, 3) := by decide +kernel
theorem dX2_hash_128 : decode cX2_hash 128 = .ok (.return_, 1) := by decide +kernel
theorem dX2_loadWords_0 : decode cX2_loadWords 0 = .ok (.iconst 0, 1) := by decide +kernel
theorem dX2_loadWords_1 : decode cX2_loadWords 1 = .ok (.istore_n 3, 1) := by decide +kernel
theorem dX2_loadWords_2 : decode cX2_loadWords 2 = .ok (.iload_n 3, 1) := by decide +kernel
theorem dX2_loadWords_3 : decode cX2_loadWords 3 = .ok (.bipush 16, 2) := by decide +kernel
theorem dX2_loadWords_5 : decode cX2_loadWords 5 = .ok (.if_icmp .ge 64, 3) := by decide +kernel
theorem dX2_loadWords_8 : decode cX2_loadWords 8 = .ok (.iload_n 2, 1) := by decide +kernel
theorem dX2_loadWords_9 : decode cX2_loadWords 9 = .ok (.iconst 4, 1) := by decide +kernel
theorem dX2_loadWords_10 : decode cX2_loadWords 10 = .ok (.iload_n 3, 1) := by decide +kernel
theorem dX2_loadWords_11 : decode cX2_loadWords 11 = .ok (.imul, 1) := by decide +kernel
theorem dX2_loadWords_12 : decode cX2_loadWords 12 = .ok (.iadd, 1) := by decide +kernel
theorem dX2_loadWords_13 : decode cX2_loadWords 13 = .ok (.istore 4, 2) := by decide +kernel
theorem dX2_loadWords_15 : decode cX2_loadWords 15 = .ok (.aload_n 0, 1) := by decide +kernel
theorem dX2_loadWords_16 : decode cX2_loadWords 16 = .ok (.getfield 7, 3) := by decide +kernel
theorem dX2_loadWords_19 : decode cX2_loadWords 19 = .ok (.iload_n 3, 1) := by decide +kernel
theorem dX2_loadWords_20 : decode cX2_loadWords 20 = .ok (.aload_n 1, 1) := by decide +kernel
theorem dX2_loadWords_21 : decode cX2_loadWords 21 = .ok (.iload 4, 2) := by decide +kernel
theorem dX2_loadWords_23 : decode cX2_loadWords 23 = .ok (.invokestatic 49, 3) := by decide +kernel
theorem dX2_loadWords_26 : decode cX2_loadWords 26 = .ok (.aload_n 1, 1) := by decide +kernel
theorem dX2_loadWords_27 : decode cX2_loadWords 27 = .ok (.iload 4, 2) := by decide +kernel
theorem dX2_loadWords_29 : decode cX2_loadWords 29 = .ok (.iconst 1, 1) := by decide +kernel
theorem dX2_loadWords_30 : decode cX2_loadWords 30 = .ok (.iadd, 1) := by decide +kernel
theorem dX2_loadWords_31 : decode cX2_loadWords 31 = .ok (.invokestatic 49, 3) := by decide +kernel
theorem dX2_loadWords_34 : decode cX2_loadWords 34 = .ok (.bipush 8, 2) := by decide +kernel
theorem dX2_loadWords_36 : decode cX2_loadWords 36 = .ok (.ishl, 1) := by decide +kernel
theorem dX2_loadWords_37 : decode cX2_loadWords 37 = .ok (.ior, 1) := by decide +kernel
theorem dX2_loadWords_38 : decode cX2_loadWords 38 = .ok (.aload_n 1, 1) := by decide +kernel
theorem dX2_loadWords_39 : decode cX2_loadWords 39 = .ok (.iload 4, 2) := by decide +kernel
theorem dX2_loadWords_41 : decode cX2_loadWords 41 = .ok (.iconst 2, 1) := by decide +kernel
theorem dX2_loadWords_42 : decode cX2_loadWords 42 = .ok (.iadd, 1) := by decide +kernel
theorem dX2_loadWords_43 : decode cX2_loadWords 43 = .ok (.invokestatic 49, 3) := by decide +kernel
theorem dX2_loadWords_46 : decode cX2_loadWords 46 = .ok (.bipush 16, 2) := by decide +kernel
theorem dX2_loadWords_48 : decode cX2_loadWords 48 = .ok (.ishl, 1) := by decide +kernel
theorem dX2_loadWords_49 : decode cX2_loadWords 49 = .ok (.ior, 1) := by decide +kernel
theorem dX2_loadWords_50 : decode cX2_loadWords 50 = .ok (.aload_n 1, 1) := by decide +kernel
theorem dX2_loadWords_51 : decode cX2_loadWords 51 = .ok (.iload 4, 2) := by decide +kernel
theorem dX2_loadWords_53 : decode cX2_loadWords 53 = .ok (.iconst 3, 1) := by decide +kernel
theorem dX2_loadWords_54 : decode cX2_loadWords 54 = .ok (.iadd, 1) := by decide +kernel
theorem dX2_loadWords_55 : decode cX2_loadWords 55 = .ok (.invokestatic 49, 3) := by decide +kernel
theorem dX2_loadWords_58 : decode cX2_loadWords 58 = .ok (.bipush 24, 2) := by decide +kernel
theorem dX2_loadWords_60 : decode cX2_loadWords 60 = .ok (.ishl, 1) := by decide +kernel
theorem dX2_loadWords_61 : decode cX2_loadWords 61 = .ok (.ior, 1) := by decide +kernel
theorem dX2_loadWords_62 : decode cX2_loadWords 62 = .ok (.iastore, 1) := by decide +kernel
theorem dX2_loadWords_63 : decode cX2_loadWords 63 = .ok (.iinc 3 1, 3) := by decide +kernel
theorem dX2_loadWords_66 : decode cX2_loadWords 66 = .ok (.goto (-64), 3) := by decide +kernel
theorem dX2_loadWords_69 : decode cX2_loadWords 69 = .ok (.return_, 1) := by decide +kernel
theorem dX2_endedByte_0 : decode cX2_endedByte 0 = .ok (.iload_n 1, 1) := by decide +kernel
theorem dX2_endedByte_1 : decode cX2_endedByte 1 = .ok (.ifCond .lt 18, 3) := by decide +kernel
theorem dX2_endedByte_4 : decode cX2_endedByte 4 = .ok (.iload_n 1, 1) := by decide +kernel
theorem dX2_endedByte_5 : decode cX2_endedByte 5 = .ok (.aload_n 0, 1) := by decide +kernel
theorem dX2_endedByte_6 : decode cX2_endedByte 6 = .ok (.getfield 30, 3) := by decide +kernel
theorem dX2_endedByte_9 : decode cX2_endedByte 9 = .ok (.if_icmp .ge 10, 3) := by decide +kernel
theorem dX2_endedByte_12 : decode cX2_endedByte 12 = .ok (.aload_n 0, 1) := by decide +kernel
theorem dX2_endedByte_13 : decode cX2_endedByte 13 = .ok (.getfield 53, 3) := by decide +kernel
theorem dX2_endedByte_16 : decode cX2_endedByte 16 = .ok (.iload_n 1, 1) := by decide +kernel
theorem dX2_endedByte_17 : decode cX2_endedByte 17 = .ok (.iaload, 1) := by decide +kernel
theorem dX2_endedByte_18 : decode cX2_endedByte 18 = .ok (.ireturn, 1) := by decide +kernel
theorem dX2_endedByte_19 : decode cX2_endedByte 19 = .ok (.iload_n 1, 1) := by decide +kernel
theorem dX2_endedByte_20 : decode cX2_endedByte 20 = .ok (.aload_n 0, 1) := by decide +kernel
theorem dX2_endedByte_21 : decode cX2_endedByte 21 = .ok (.getfield 30, 3) := by decide +kernel
theorem dX2_endedByte_24 : decode cX2_endedByte 24 = .ok (.if_icmp .ne 9, 3) := by decide +kernel
theorem dX2_endedByte_27 : decode cX2_endedByte 27 = .ok (.sipush 128, 3) := by decide +kernel
theorem dX2_endedByte_30 : decode cX2_endedByte 30 = .ok (.goto 4, 3) := by decide +kernel
theorem dX2_endedByte_33 : decode cX2_endedByte 33 = .ok (.iconst 0, 1) := by decide +kernel
theorem dX2_endedByte_34 : decode cX2_endedByte 34 = .ok (.ireturn, 1) := by decide +kernel
theorem dX2_mixWords_0 : decode cX2_mixWords 0 = .ok (.aload_n 0, 1) := by decide +kernel
theorem dX2_mixWords_1 : decode cX2_mixWords 1 = .ok (.getfield 14, 3) := by decide +kernel
theorem dX2_mixWords_4 : decode cX2_mixWords 4 = .ok (.istore_n 1, 1) := by decide +kernel
theorem dX2_mixWords_5 : decode cX2_mixWords 5 = .ok (.aload_n 0, 1) := by decide +kernel
theorem dX2_mixWords_6 : decode cX2_mixWords 6 = .ok (.getfield 19, 3) := by decide +kernel
theorem dX2_mixWords_9 : decode cX2_mixWords 9 = .ok (.istore_n 2, 1) := by decide +kernel
theorem dX2_mixWords_10 : decode cX2_mixWords 10 = .ok (.aload_n 0, 1) := by decide +kernel
theorem dX2_mixWords_11 : decode cX2_mixWords 11 = .ok (.getfield 23, 3) := by decide +kernel
theorem dX2_mixWords_14 : decode cX2_mixWords 14 = .ok (.istore_n 3, 1) := by decide +kernel
theorem dX2_mixWords_15 : decode cX2_mixWords 15 = .ok (.aload_n 0, 1) := by decide +kernel
theorem dX2_mixWords_16 : decode cX2_mixWords 16 = .ok (.getfield 27, 3) := by decide +kernel
theorem dX2_mixWords_19 : decode cX2_mixWords 19 = .ok (.istore 4, 2) := by decide +kernel
theorem dX2_mixWords_21 : decode cX2_mixWords 21 = .ok (.iconst 0, 1) := by decide +kernel
theorem dX2_mixWords_22 : decode cX2_mixWords 22 = .ok (.istore 5, 2) := by decide +kernel
theorem dX2_mixWords_24 : decode cX2_mixWords 24 = .ok (.iload 5, 2) := by decide +kernel
theorem dX2_mixWords_26 : decode cX2_mixWords 26 = .ok (.bipush 64, 2) := by decide +kernel
theorem dX2_mixWords_28 : decode cX2_mixWords 28 = .ok (.if_icmp .ge 175, 3) := by decide +kernel
theorem dX2_mixWords_31 : decode cX2_mixWords 31 = .ok (.iload 5, 2) := by decide +kernel
theorem dX2_mixWords_33 : decode cX2_mixWords 33 = .ok (.bipush 16, 2) := by decide +kernel
theorem dX2_mixWords_35 : decode cX2_mixWords 35 = .ok (.if_icmp .ge 22, 3) := by decide +kernel
theorem dX2_mixWords_38 : decode cX2_mixWords 38 = .ok (.iload_n 2, 1) := by decide +kernel
theorem dX2_mixWords_39 : decode cX2_mixWords 39 = .ok (.iload_n 3, 1) := by decide +kernel
theorem dX2_mixWords_40 : decode cX2_mixWords 40 = .ok (.iand, 1) := by decide +kernel
theorem dX2_mixWords_41 : decode cX2_mixWords 41 = .ok (.iload_n 2, 1) := by decide +kernel
theorem dX2_mixWords_42 : decode cX2_mixWords 42 = .ok (.iconst (-1), 1) := by decide +kernel
theorem dX2_mixWords_43 : decode cX2_mixWords 43 = .ok (.ixor, 1) := by decide +kernel
theorem dX2_mixWords_44 : decode cX2_mixWords 44 = .ok (.iload 4, 2) := by decide +kernel
theorem dX2_mixWords_46 : decode cX2_mixWords 46 = .ok (.iand, 1) := by decide +kernel
theorem dX2_mixWords_47 : decode cX2_mixWords 47 = .ok (.ior, 1) := by decide +kernel
theorem dX2_mixWords_48 : decode cX2_mixWords 48 = .ok (.istore 6, 2) := by decide +kernel
theorem dX2_mixWords_50 : decode cX2_mixWords 50 = .ok (.iload 5, 2) := by decide +kernel
theorem dX2_mixWords_52 : decode cX2_mixWords 52 = .ok (.istore 7, 2) := by decide +kernel
theorem dX2_mixWords_54 : decode cX2_mixWords 54 = .ok (.goto 77, 3) := by decide +kernel
theorem dX2_mixWords_57 : decode cX2_mixWords 57 = .ok (.iload 5, 2) := by decide +kernel
theorem dX2_mixWords_59 : decode cX2_mixWords 59 = .ok (.bipush 32, 2) := by decide +kernel
theorem dX2_mixWords_61 : decode cX2_mixWords 61 = .ok (.if_icmp .ge 27, 3) := by decide +kernel
theorem dX2_mixWords_64 : decode cX2_mixWords 64 = .ok (.iload 4, 2) := by decide +kernel
theorem dX2_mixWords_66 : decode cX2_mixWords 66 = .ok (.iload_n 2, 1) := by decide +kernel
theorem dX2_mixWords_67 : decode cX2_mixWords 67 = .ok (.iand, 1) := by decide +kernel
theorem dX2_mixWords_68 : decode cX2_mixWords 68 = .ok (.iload 4, 2) := by decide +kernel
theorem dX2_mixWords_70 : decode cX2_mixWords 70 = .ok (.iconst (-1), 1) := by decide +kernel
theorem dX2_mixWords_71 : decode cX2_mixWords 71 = .ok (.ixor, 1) := by decide +kernel
theorem dX2_mixWords_72 : decode cX2_mixWords 72 = .ok (.iload_n 3, 1) := by decide +kernel
theorem dX2_mixWords_73 : decode cX2_mixWords 73 = .ok (.iand, 1) := by decide +kernel
theorem dX2_mixWords_74 : decode cX2_mixWords 74 = .ok (.ior, 1) := by decide +kernel
theorem dX2_mixWords_75 : decode cX2_mixWords 75 = .ok (.istore 6, 2) := by decide +kernel
theorem dX2_mixWords_77 : decode cX2_mixWords 77 = .ok (.iconst 5, 1) := by decide +kernel
theorem dX2_mixWords_78 : decode cX2_mixWords 78 = .ok (.iload 5, 2) := by decide +kernel
theorem dX2_mixWords_80 : decode cX2_mixWords 80 = .ok (.imul, 1) := by decide +kernel
theorem dX2_mixWords_81 : decode cX2_mixWords 81 = .ok (.iconst 1, 1) := by decide +kernel
theorem dX2_mixWords_82 : decode cX2_mixWords 82 = .ok (.iadd, 1) := by decide +kernel
theorem dX2_mixWords_83 : decode cX2_mixWords 83 = .ok (.istore 7, 2) := by decide +kernel
theorem dX2_mixWords_85 : decode cX2_mixWords 85 = .ok (.goto 46, 3) := by decide +kernel
theorem dX2_mixWords_88 : decode cX2_mixWords 88 = .ok (.iload 5, 2) := by decide +kernel
theorem dX2_mixWords_90 : decode cX2_mixWords 90 = .ok (.bipush 48, 2) := by decide +kernel
theorem dX2_mixWords_92 : decode cX2_mixWords 92 = .ok (.if_icmp .ge 22, 3) := by decide +kernel
theorem dX2_mixWords_95 : decode cX2_mixWords 95 = .ok (.iload_n 2, 1) := by decide +kernel
theorem dX2_mixWords_96 : decode cX2_mixWords 96 = .ok (.iload_n 3, 1) := by decide +kernel
theorem dX2_mixWords_97 : decode cX2_mixWords 97 = .ok (.ixor, 1) := by decide +kernel
theorem dX2_mixWords_98 : decode cX2_mixWords 98 = .ok (.iload 4, 2) := by decide +kernel
theorem dX2_mixWords_100 : decode cX2_mixWords 100 = .ok (.ixor, 1) := by decide +kernel
theorem dX2_mixWords_101 : decode cX2_mixWords 101 = .ok (.istore 6, 2) := by decide +kernel
theorem dX2_mixWords_103 : decode cX2_mixWords 103 = .ok (.iconst 3, 1) := by decide +kernel
theorem dX2_mixWords_104 : decode cX2_mixWords 104 = .ok (.iload 5, 2) := by decide +kernel
theorem dX2_mixWords_106 : decode cX2_mixWords 106 = .ok (.imul, 1) := by decide +kernel
theorem dX2_mixWords_107 : decode cX2_mixWords 107 = .ok (.iconst 5, 1) := by decide +kernel
theorem dX2_mixWords_108 : decode cX2_mixWords 108 = .ok (.iadd, 1) := by decide +kernel
theorem dX2_mixWords_109 : decode cX2_mixWords 109 = .ok (.istore 7, 2) := by decide +kernel
theorem dX2_mixWords_111 : decode cX2_mixWords 111 = .ok (.goto 20, 3) := by decide +kernel
theorem dX2_mixWords_114 : decode cX2_mixWords 114 = .ok (.iload_n 3, 1) := by decide +kernel
theorem dX2_mixWords_115 : decode cX2_mixWords 115 = .ok (.iload_n 2, 1) := by decide +kernel
theorem dX2_mixWords_116 : decode cX2_mixWords 116 = .ok (.iload 4, 2) := by decide +kernel
theorem dX2_mixWords_118 : decode cX2_mixWords 118 = .ok (.iconst (-1), 1) := by decide +kernel
theorem dX2_mixWords_119 : decode cX2_mixWords 119 = .ok (.ixor, 1) := by decide +kernel
theorem dX2_mixWords_120 : decode cX2_mixWords 120 = .ok (.ior, 1) := by decide +kernel
theorem dX2_mixWords_121 : decode cX2_mixWords 121 = .ok (.ixor, 1) := by decide +kernel
theorem dX2_mixWords_122 : decode cX2_mixWords 122 = .ok (.istore 6, 2) := by decide +kernel
theorem dX2_mixWords_124 : decode cX2_mixWords 124 = .ok (.bipush 7, 2) := by decide +kernel
theorem dX2_mixWords_126 : decode cX2_mixWords 126 = .ok (.iload 5, 2) := by decide +kernel
theorem dX2_mixWords_128 : decode cX2_mixWords 128 = .ok (.imul, 1) := by decide +kernel
theorem dX2_mixWords_129 : decode cX2_mixWords 129 = .ok (.istore 7, 2) := by decide +kernel
theorem dX2_mixWords_131 : decode cX2_mixWords 131 = .ok (.iload 6, 2) := by decide +kernel
theorem dX2_mixWords_133 : decode cX2_mixWords 133 = .ok (.iload_n 1, 1) := by decide +kernel
theorem dX2_mixWords_134 : decode cX2_mixWords 134 = .ok (.getstatic 56, 3) := by decide +kernel
theorem dX2_mixWords_137 : decode cX2_mixWords 137 = .ok (.iload 5, 2) := by decide +kernel
theorem dX2_mixWords_139 : decode cX2_mixWords 139 = .ok (.iaload, 1) := by decide +kernel
theorem dX2_mixWords_140 : decode cX2_mixWords 140 = .ok (.iadd, 1) := by decide +kernel
theorem dX2_mixWords_141 : decode cX2_mixWords 141 = .ok (.aload_n 0, 1) := by decide +kernel
theorem dX2_mixWords_142 : decode cX2_mixWords 142 = .ok (.getfield 7, 3) := by decide +kernel
theorem dX2_mixWords_145 : decode cX2_mixWords 145 = .ok (.iload 7, 2) := by decide +kernel
theorem dX2_mixWords_147 : decode cX2_mixWords 147 = .ok (.bipush 15, 2) := by decide +kernel
theorem dX2_mixWords_149 : decode cX2_mixWords 149 = .ok (.iand, 1) := by decide +kernel
theorem dX2_mixWords_150 : decode cX2_mixWords 150 = .ok (.iaload, 1) := by decide +kernel
theorem dX2_mixWords_151 : decode cX2_mixWords 151 = .ok (.iadd, 1) := by decide +kernel
theorem dX2_mixWords_152 : decode cX2_mixWords 152 = .ok (.iadd, 1) := by decide +kernel
theorem dX2_mixWords_153 : decode cX2_mixWords 153 = .ok (.istore 6, 2) := by decide +kernel
theorem dX2_mixWords_155 : decode cX2_mixWords 155 = .ok (.getstatic 59, 3) := by decide +kernel
theorem dX2_mixWords_158 : decode cX2_mixWords 158 = .ok (.iload 5, 2) := by decide +kernel
theorem dX2_mixWords_160 : decode cX2_mixWords 160 = .ok (.iconst 4, 1) := by decide +kernel
theorem dX2_mixWords_161 : decode cX2_mixWords 161 = .ok (.ishr, 1) := by decide +kernel
theorem dX2_mixWords_162 : decode cX2_mixWords 162 = .ok (.iconst 4, 1) := by decide +kernel
theorem dX2_mixWords_163 : decode cX2_mixWords 163 = .ok (.imul, 1) := by decide +kernel
theorem dX2_mixWords_164 : decode cX2_mixWords 164 = .ok (.iload 5, 2) := by decide +kernel
theorem dX2_mixWords_166 : decode cX2_mixWords 166 = .ok (.iconst 3, 1) := by decide +kernel
theorem dX2_mixWords_167 : decode cX2_mixWords 167 = .ok (.iand, 1) := by decide +kernel
theorem dX2_mixWords_168 : decode cX2_mixWords 168 = .ok (.iadd, 1) := by decide +kernel
theorem dX2_mixWords_169 : decode cX2_mixWords 169 = .ok (.iaload, 1) := by decide +kernel
theorem dX2_mixWords_170 : decode cX2_mixWords 170 = .ok (.istore 8, 2) := by decide +kernel
theorem dX2_mixWords_172 : decode cX2_mixWords 172 = .ok (.iload 4, 2) := by decide +kernel
theorem dX2_mixWords_174 : decode cX2_mixWords 174 = .ok (.istore_n 1, 1) := by decide +kernel
theorem dX2_mixWords_175 : decode cX2_mixWords 175 = .ok (.iload_n 3, 1) := by decide +kernel
theorem dX2_mixWords_176 : decode cX2_mixWords 176 = .ok (.istore 4, 2) := by decide +kernel
theorem dX2_mixWords_178 : decode cX2_mixWords 178 = .ok (.iload_n 2, 1) := by decide +kernel
theorem dX2_mixWords_179 : decode cX2_mixWords 179 = .ok (.istore_n 3, 1) := by decide +kernel
theorem dX2_mixWords_180 : decode cX2_mixWords 180 = .ok (.iload_n 2, 1) := by decide +kernel
theorem dX2_mixWords_181 : decode cX2_mixWords 181 = .ok (.iload 6, 2) := by decide +kernel
theorem dX2_mixWords_183 : decode cX2_mixWords 183 = .ok (.iload 8, 2) := by decide +kernel
theorem dX2_mixWords_185 : decode cX2_mixWords 185 = .ok (.ishl, 1) := by decide +kernel
theorem dX2_mixWords_186 : decode cX2_mixWords 186 = .ok (.iload 6, 2) := by decide +kernel
theorem dX2_mixWords_188 : decode cX2_mixWords 188 = .ok (.bipush 32, 2) := by decide +kernel
theorem dX2_mixWords_190 : decode cX2_mixWords 190 = .ok (.iload 8, 2) := by decide +kernel
theorem dX2_mixWords_192 : decode cX2_mixWords 192 = .ok (.isub, 1) := by decide +kernel
theorem dX2_mixWords_193 : decode cX2_mixWords 193 = .ok (.iushr, 1) := by decide +kernel
theorem dX2_mixWords_194 : decode cX2_mixWords 194 = .ok (.ior, 1) := by decide +kernel
theorem dX2_mixWords_195 : decode cX2_mixWords 195 = .ok (.iadd, 1) := by decide +kernel
theorem dX2_mixWords_196 : decode cX2_mixWords 196 = .ok (.istore_n 2, 1) := by decide +kernel
theorem dX2_mixWords_197 : decode cX2_mixWords 197 = .ok (.iinc 5 1, 3) := by decide +kernel
theorem dX2_mixWords_200 : decode cX2_mixWords 200 = .ok (.goto (-176), 3) := by decide +kernel
theorem dX2_mixWords_203 : decode cX2_mixWords 203 = .ok (.aload_n 0, 1) := by decide +kernel
theorem dX2_mixWords_204 : decode cX2_mixWords 204 = .ok (.dup, 1) := by decide +kernel
theorem dX2_mixWords_205 : decode cX2_mixWords 205 = .ok (.getfield 14, 3) := by decide +kernel
theorem dX2_mixWords_208 : decode cX2_mixWords 208 = .ok (.iload_n 1, 1) := by decide +kernel
theorem dX2_mixWords_209 : decode cX2_mixWords 209 = .ok (.iadd, 1) := by decide +kernel
theorem dX2_mixWords_210 : decode cX2_mixWords 210 = .ok (.putfield 14, 3) := by decide +kernel
theorem dX2_mixWords_213 : decode cX2_mixWords 213 = .ok (.aload_n 0, 1) := by decide +kernel
theorem dX2_mixWords_214 : decode cX2_mixWords 214 = .ok (.dup, 1) := by decide +kernel
theorem dX2_mixWords_215 : decode cX2_mixWords 215 = .ok (.getfield 19, 3) := by decide +kernel
theorem dX2_mixWords_218 : decode cX2_mixWords 218 = .ok (.iload_n 2, 1) := by decide +kernel
theorem dX2_mixWords_219 : decode cX2_mixWords 219 = .ok (.iadd, 1) := by decide +kernel
theorem dX2_mixWords_220 : decode cX2_mixWords 220 = .ok (.putfield 19, 3) := by decide +kernel
theorem dX2_mixWords_223 : decode cX2_mixWords 223 = .ok (.aload_n 0, 1) := by decide +kernel
theorem dX2_mixWords_224 : decode cX2_mixWords 224 = .ok (.dup, 1) := by decide +kernel
theorem dX2_mixWords_225 : decode cX2_mixWords 225 = .ok (.getfield 23, 3) := by decide +kernel
theorem dX2_mixWords_228 : decode cX2_mixWords 228 = .ok (.iload_n 3, 1) := by decide +kernel
theorem dX2_mixWords_229 : decode cX2_mixWords 229 = .ok (.iadd, 1) := by decide +kernel
theorem dX2_mixWords_230 : decode cX2_mixWords 230 = .ok (.putfield 23, 3) := by decide +kernel
theorem dX2_mixWords_233 : decode cX2_mixWords 233 = .ok (.aload_n 0, 1) := by decide +kernel
theorem dX2_mixWords_234 : decode cX2_mixWords 234 = .ok (.dup, 1) := by decide +kernel
theorem dX2_mixWords_235 : decode cX2_mixWords 235 = .ok (.getfield 27, 3) := by decide +kernel
theorem dX2_mixWords_238 : decode cX2_mixWords 238 = .ok (.iload 4, 2) := by decide +kernel
theorem dX2_mixWords_240 : decode cX2_mixWords 240 = .ok (.iadd, 1) := by decide +kernel
theorem dX2_mixWords_241 : decode cX2_mixWords 241 = .ok (.putfield 27, 3) := by decide +kernel
theorem dX2_mixWords_244 : decode cX2_mixWords 244 = .ok (.return_, 1) := by decide +kernel
theorem dX3_init_0 : decode cX3_init 0 = .ok (.aload_n 0, 1) := by decide +kernel
theorem dX3_init_1 : decode cX3_init 1 = .ok (.invokespecial 3, 3) := by decide +kernel
theorem dX3_init_4 : decode cX3_init 4 = .ok (.aload_n 0, 1) := by decide +kernel
theorem dX3_init_5 : decode cX3_init 5 = .ok (.iload_n 1, 1) := by decide +kernel
theorem dX3_init_6 : decode cX3_init 6 = .ok (.ifCond .ge 7, 3) := by decide +kernel
theorem dX3_init_9 : decode cX3_init 9 = .ok (.iconst 0, 1) := by decide +kernel
theorem dX3_init_10 : decode cX3_init 10 = .ok (.goto 4, 3) := by decide +kernel
theorem dX3_init_13 : decode cX3_init 13 = .ok (.iload_n 1, 1) := by decide +kernel
theorem dX3_init_14 : decode cX3_init 14 = .ok (.newarray .int, 2) := by decide +kernel
theorem dX3_init_16 : decode cX3_init 16 = .ok (.putfield 9, 3) := by decide +kernel
theorem dX3_init_19 : decode cX3_init 19 = .ok (.return_, 1) := by decide +kernel
theorem dX3_byteAt_0 : decode cX3_byteAt 0 = .ok (.iload_n 1, 1) := by decide +kernel
theorem dX3_byteAt_1 : decode cX3_byteAt 1 = .ok (.ifCond .lt 11, 3) := by decide +kernel
theorem dX3_byteAt_4 : decode cX3_byteAt 4 = .ok (.iload_n 1, 1) := by decide +kernel
theorem dX3_byteAt_5 : decode cX3_byteAt 5 = .ok (.aload_n 0, 1) := by decide +kernel
theorem dX3_byteAt_6 : decode cX3_byteAt 6 = .ok (.getfield 15, 3) := by decide +kernel
theorem dX3_byteAt_9 : decode cX3_byteAt 9 = .ok (.if_icmp .lt 7, 3) := by decide +kernel
theorem dX3_byteAt_12 : decode cX3_byteAt 12 = .ok (.iconst (-1), 1) := by decide +kernel
theorem dX3_byteAt_13 : decode cX3_byteAt 13 = .ok (.goto 9, 3) := by decide +kernel
theorem dX3_byteAt_16 : decode cX3_byteAt 16 = .ok (.aload_n 0, 1) := by decide +kernel
theorem dX3_byteAt_17 : decode cX3_byteAt 17 = .ok (.getfield 9, 3) := by decide +kernel
theorem dX3_byteAt_20 : decode cX3_byteAt 20 = .ok (.iload_n 1, 1) := by decide +kernel
theorem dX3_byteAt_21 : decode cX3_byteAt 21 = .ok (.iaload, 1) := by decide +kernel
theorem dX3_byteAt_22 : decode cX3_byteAt 22 = .ok (.ireturn, 1) := by decide +kernel
theorem dX3_clear_0 : decode cX3_clear 0 = .ok (.aload_n 0, 1) := by decide +kernel
theorem dX3_clear_1 : decode cX3_clear 1 = .ok (.iconst 0, 1) := by decide +kernel
theorem dX3_clear_2 : decode cX3_clear 2 = .ok (.putfield 15, 3) := by decide +kernel
theorem dX3_clear_5 : decode cX3_clear 5 = .ok (.return_, 1) := by decide +kernel
theorem dX3_shorten_0 : decode cX3_shorten 0 = .ok (.iload_n 1, 1) := by decide +kernel
theorem dX3_shorten_1 : decode cX3_shorten 1 = .ok (.ifCond .lt 16, 3) := by decide +kernel
theorem dX3_shorten_4 : decode cX3_shorten 4 = .ok (.iload_n 1, 1) := by decide +kernel
theorem dX3_shorten_5 : decode cX3_shorten 5 = .ok (.aload_n 0, 1) := by decide +kernel
theorem dX3_shorten_6 : decode cX3_shorten 6 = .ok (.getfield 15, 3) := by decide +kernel
theorem dX3_shorten_9 : decode cX3_shorten 9 = .ok (.if_icmp .ge 8, 3) := by decide +kernel
theorem dX3_shorten_12 : decode cX3_shorten 12 = .ok (.aload_n 0, 1) := by decide +kernel
theorem dX3_shorten_13 : decode cX3_shorten 13 = .ok (.iload_n 1, 1) := by decide +kernel
theorem dX3_shorten_14 : decode cX3_shorten 14 = .ok (.putfield 15, 3) := by decide +kernel
theorem dX3_shorten_17 : decode cX3_shorten 17 = .ok (.return_, 1) := by decide +kernel
theorem dX3_add_0 : decode cX3_add 0 = .ok (.aload_n 0, 1) := by decide +kernel
theorem dX3_add_1 : decode cX3_add 1 = .ok (.getfield 15, 3) := by decide +kernel
theorem dX3_add_4 : decode cX3_add 4 = .ok (.aload_n 0, 1) := by decide +kernel
theorem dX3_add_5 : decode cX3_add 5 = .ok (.getfield 9, 3) := by decide +kernel
theorem dX3_add_8 : decode cX3_add 8 = .ok (.arraylength, 1) := by decide +kernel
theorem dX3_add_9 : decode cX3_add 9 = .ok (.if_icmp .ge 27, 3) := by decide +kernel
theorem dX3_add_12 : decode cX3_add 12 = .ok (.aload_n 0, 1) := by decide +kernel
theorem dX3_add_13 : decode cX3_add 13 = .ok (.getfield 9, 3) := by decide +kernel
theorem dX3_add_16 : decode cX3_add 16 = .ok (.aload_n 0, 1) := by decide +kernel
theorem dX3_add_17 : decode cX3_add 17 = .ok (.getfield 15, 3) := by decide +kernel
theorem dX3_add_20 : decode cX3_add 20 = .ok (.iload_n 1, 1) := by decide +kernel
theorem dX3_add_21 : decode cX3_add 21 = .ok (.sipush 255, 3) := by decide +kernel
theorem dX3_add_24 : decode cX3_add 24 = .ok (.iand, 1) := by decide +kernel
theorem dX3_add_25 : decode cX3_add 25 = .ok (.iastore, 1) := by decide +kernel
theorem dX3_add_26 : decode cX3_add 26 = .ok (.aload_n 0, 1) := by decide +kernel
theorem dX3_add_27 : decode cX3_add 27 = .ok (.dup, 1) := by decide +kernel
theorem dX3_add_28 : decode cX3_add 28 = .ok (.getfield 15, 3) := by decide +kernel
theorem dX3_add_31 : decode cX3_add 31 = .ok (.iconst 1, 1) := by decide +kernel
theorem dX3_add_32 : decode cX3_add 32 = .ok (.iadd, 1) := by decide +kernel
theorem dX3_add_33 : decode cX3_add 33 = .ok (.putfield 15, 3) := by decide +kernel
theorem dX3_add_36 : decode cX3_add 36 = .ok (.return_, 1) := by decide +kernel
theorem dX3_addTimes_0 : decode cX3_addTimes 0 = .ok (.iconst 0, 1) := by decide +kernel
theorem dX3_addTimes_1 : decode cX3_addTimes 1 = .ok (.istore_n 3, 1) := by decide +kernel
theorem dX3_addTimes_2 : decode cX3_addTimes 2 = .ok (.iload_n 3, 1) := by decide +kernel
theorem dX3_addTimes_3 : decode cX3_addTimes 3 = .ok (.iload_n 2, 1) := by decide +kernel
theorem dX3_addTimes_4 : decode cX3_addTimes 4 = .ok (.if_icmp .ge 14, 3) := by decide +kernel
theorem dX3_addTimes_7 : decode cX3_addTimes 7 = .ok (.aload_n 0, 1) := by decide +kernel
theorem dX3_addTimes_8 : decode cX3_addTimes 8 = .ok (.iload_n 1, 1) := by decide +kernel
theorem dX3_addTimes_9 : decode cX3_addTimes 9 = .ok (.invokevirtual 19, 3) := by decide +kernel
theorem dX3_addTimes_12 : decode cX3_addTimes 12 = .ok (.iinc 3 1, 3) := by decide +kernel
theorem dX3_addTimes_15 : decode cX3_addTimes 15 = .ok (.goto (-13), 3) := by decide +kernel
theorem dX3_addTimes_18 : decode cX3_addTimes 18 = .ok (.return_, 1) := by decide +kernel
theorem dX3_addHighestFirst_0 : decode cX3_addHighestFirst 0 = .ok (.aload_n 0, 1) := by decide +kernel
theorem dX3_addHighestFirst_1 : decode cX3_addHighestFirst 1 = .ok (.iload_n 1, 1) := by decide +kernel
theorem dX3_addHighestFirst_2 : decode cX3_addHighestFirst 2 = .ok (.bipush 24, 2) := by decide +kernel
theorem dX3_addHighestFirst_4 : decode cX3_addHighestFirst 4 = .ok (.iushr, 1) := by decide +kernel
theorem dX3_addHighestFirst_5 : decode cX3_addHighestFirst 5 = .ok (.invokevirtual 19, 3) := by decide +kernel
theorem dX3_addHighestFirst_8 : decode cX3_addHighestFirst 8 = .ok (.aload_n 0, 1) := by decide +kernel
theorem dX3_addHighestFirst_9 : decode cX3_addHighestFirst 9 = .ok (.iload_n 1, 1) := by decide +kernel
theorem dX3_addHighestFirst_10 : decode cX3_addHighestFirst 10 = .ok (.bipush 16, 2) := by decide +kernel
theorem dX3_addHighestFirst_12 : decode cX3_addHighestFirst 12 = .ok (.iushr, 1) := by decide +kernel
theorem dX3_addHighestFirst_13 : decode cX3_addHighestFirst 13 = .ok (.invokevirtual 19, 3) := by decide +kernel
theorem dX3_addHighestFirst_16 : decode cX3_addHighestFirst 16 = .ok (.aload_n 0, 1) := by decide +kernel
theorem dX3_addHighestFirst_17 : decode cX3_addHighestFirst 17 = .ok (.iload_n 1, 1) := by decide +kernel
theorem dX3_addHighestFirst_18 : decode cX3_addHighestFirst 18 = .ok (.bipush 8, 2) := by decide +kernel
theorem dX3_addHighestFirst_20 : decode cX3_addHighestFirst 20 = .ok (.iushr, 1) := by decide +kernel
theorem dX3_addHighestFirst_21 : decode cX3_addHighestFirst 21 = .ok (.invokevirtual 19, 3) := by decide +kernel
theorem dX3_addHighestFirst_24 : decode cX3_addHighestFirst 24 = .ok (.aload_n 0, 1) := by decide +kernel
theorem dX3_addHighestFirst_25 : decode cX3_addHighestFirst 25 = .ok (.iload_n 1, 1) := by decide +kernel
theorem dX3_addHighestFirst_26 : decode cX3_addHighestFirst 26 = .ok (.invokevirtual 19, 3) := by decide +kernel
theorem dX3_addHighestFirst_29 : decode cX3_addHighestFirst 29 = .ok (.return_, 1) := by decide +kernel
theorem dX3_addLowestFirst_0 : decode cX3_addLowestFirst 0 = .ok (.iconst 0, 1) := by decide +kernel
theorem dX3_addLowestFirst_1 : decode cX3_addLowestFirst 1 = .ok (.istore_n 3, 1) := by decide +kernel
theorem dX3_addLowestFirst_2 : decode cX3_addLowestFirst 2 = .ok (.iload_n 3, 1) := by decide +kernel
theorem dX3_addLowestFirst_3 : decode cX3_addLowestFirst 3 = .ok (.iload_n 2, 1) := by decide +kernel
theorem dX3_addLowestFirst_4 : decode cX3_addLowestFirst 4 = .ok (.if_icmp .ge 19, 3) := by decide +kernel
theorem dX3_addLowestFirst_7 : decode cX3_addLowestFirst 7 = .ok (.aload_n 0, 1) := by decide +kernel
theorem dX3_addLowestFirst_8 : decode cX3_addLowestFirst 8 = .ok (.iload_n 1, 1) := by decide +kernel
theorem dX3_addLowestFirst_9 : decode cX3_addLowestFirst 9 = .ok (.bipush 8, 2) := by decide +kernel
theorem dX3_addLowestFirst_11 : decode cX3_addLowestFirst 11 = .ok (.iload_n 3, 1) := by decide +kernel
theorem dX3_addLowestFirst_12 : decode cX3_addLowestFirst 12 = .ok (.imul, 1) := by decide +kernel
theorem dX3_addLowestFirst_13 : decode cX3_addLowestFirst 13 = .ok (.iushr, 1) := by decide +kernel
theorem dX3_addLowestFirst_14 : decode cX3_addLowestFirst 14 = .ok (.invokevirtual 19, 3) := by decide +kernel
theorem dX3_addLowestFirst_17 : decode cX3_addLowestFirst 17 = .ok (.iinc 3 1, 3) := by decide +kernel
theorem dX3_addLowestFirst_20 : decode cX3_addLowestFirst 20 = .ok (.goto (-18), 3) := by decide +kernel
theorem dX3_addLowestFirst_23 : decode cX3_addLowestFirst 23 = .ok (.return_, 1) := by decide +kernel
theorem dX3_addRow_0 : decode cX3_addRow 0 = .ok (.aload_n 1, 1) := by decide +kernel
theorem dX3_addRow_1 : decode cX3_addRow 1 = .ok (.getfield 15, 3) := by decide +kernel
theorem dX3_addRow_4 : decode cX3_addRow 4 = .ok (.aload_n 0, 1) := by decide +kernel
theorem dX3_addRow_5 : decode cX3_addRow 5 = .ok (.getfield 9, 3) := by decide +kernel
theorem dX3_addRow_8 : decode cX3_addRow 8 = .ok (.arraylength, 1) := by decide +kernel
theorem dX3_addRow_9 : decode cX3_addRow 9 = .ok (.aload_n 0, 1) := by decide +kernel
theorem dX3_addRow_10 : decode cX3_addRow 10 = .ok (.getfield 15, 3) := by decide +kernel
theorem dX3_addRow_13 : decode cX3_addRow 13 = .ok (.isub, 1) := by decide +kernel
theorem dX3_addRow_14 : decode cX3_addRow 14 = .ok (.invokestatic 23, 3) := by decide +kernel
theorem dX3_addRow_17 : decode cX3_addRow 17 = .ok (.istore_n 2, 1) := by decide +kernel
theorem dX3_addRow_18 : decode cX3_addRow 18 = .ok (.aload_n 1, 1) := by decide +kernel
theorem dX3_addRow_19 : decode cX3_addRow 19 = .ok (.getfield 9, 3) := by decide +kernel
theorem dX3_addRow_22 : decode cX3_addRow 22 = .ok (.iconst 0, 1) := by decide +kernel
theorem dX3_addRow_23 : decode cX3_addRow 23 = .ok (.aload_n 0, 1) := by decide +kernel
theorem dX3_addRow_24 : decode cX3_addRow 24 = .ok (.getfield 9, 3) := by decide +kernel
theorem dX3_addRow_27 : decode cX3_addRow 27 = .ok (.aload_n 0, 1) := by decide +kernel
theorem dX3_addRow_28 : decode cX3_addRow 28 = .ok (.getfield 15, 3) := by decide +kernel
theorem dX3_addRow_31 : decode cX3_addRow 31 = .ok (.iload_n 2, 1) := by decide +kernel
theorem dX3_addRow_32 : decode cX3_addRow 32 = .ok (.invokestatic 29, 3) := by decide +kernel
theorem dX3_addRow_35 : decode cX3_addRow 35 = .ok (.aload_n 0, 1) := by decide +kernel
theorem dX3_addRow_36 : decode cX3_addRow 36 = .ok (.dup, 1) := by decide +kernel
theorem dX3_addRow_37 : decode cX3_addRow 37 = .ok (.getfield 15, 3) := by decide +kernel
theorem dX3_addRow_40 : decode cX3_addRow 40 = .ok (.iload_n 2, 1) := by decide +kernel
theorem dX3_addRow_41 : decode cX3_addRow 41 = .ok (.iadd, 1) := by decide +kernel
theorem dX3_addRow_42 : decode cX3_addRow 42 = .ok (.putfield 15, 3) := by decide +kernel
theorem dX3_addRow_45 : decode cX3_addRow 45 = .ok (.return_, 1) := by decide +kernel
theorem dX3_become_0 : decode cX3_become 0 = .ok (.aload_n 0, 1) := by decide +kernel
theorem dX3_become_1 : decode cX3_become 1 = .ok (.iconst 0, 1) := by decide +kernel
theorem dX3_become_2 : decode cX3_become 2 = .ok (.putfield 15, 3) := by decide +kernel
theorem dX3_become_5 : decode cX3_become 5 = .ok (.aload_n 0, 1) := by decide +kernel
theorem dX3_become_6 : decode cX3_become 6 = .ok (.aload_n 1, 1) := by decide +kernel
theorem dX3_become_7 : decode cX3_become 7 = .ok (.invokevirtual 35, 3) := by decide +kernel
theorem dX3_become_10 : decode cX3_become 10 = .ok (.return_, 1) := by decide +kernel
theorem dX3_beginsAs_0 : decode cX3_beginsAs 0 = .ok (.aload_n 0, 1) := by decide +kernel
theorem dX3_beginsAs_1 : decode cX3_beginsAs 1 = .ok (.getfield 15, 3) := by decide +kernel
theorem dX3_beginsAs_4 : decode cX3_beginsAs 4 = .ok (.iload_n 2, 1) := by decide +kernel
theorem dX3_beginsAs_5 : decode cX3_beginsAs 5 = .ok (.if_icmp .lt 11, 3) := by decide +kernel
theorem dX3_beginsAs_8 : decode cX3_beginsAs 8 = .ok (.aload_n 1, 1) := by decide +kernel
theorem dX3_beginsAs_9 : decode cX3_beginsAs 9 = .ok (.getfield 15, 3) := by decide +kernel
theorem dX3_beginsAs_12 : decode cX3_beginsAs 12 = .ok (.iload_n 2, 1) := by decide +kernel
theorem dX3_beginsAs_13 : decode cX3_beginsAs 13 = .ok (.if_icmp .ge 5, 3) := by decide +kernel
theorem dX3_beginsAs_16 : decode cX3_beginsAs 16 = .ok (.iconst 0, 1) := by decide +kernel
theorem dX3_beginsAs_17 : decode cX3_beginsAs 17 = .ok (.ireturn, 1) := by decide +kernel
theorem dX3_beginsAs_18 : decode cX3_beginsAs 18 = .ok (.iconst 0, 1) := by decide +kernel
theorem dX3_beginsAs_19 : decode cX3_beginsAs 19 = .ok (.istore_n 3, 1) := by decide +kernel
theorem dX3_beginsAs_20 : decode cX3_beginsAs 20 = .ok (.iload_n 3, 1) := by decide +kernel
theorem dX3_beginsAs_21 : decode cX3_beginsAs 21 = .ok (.iload_n 2, 1) := by decide +kernel
theorem dX3_beginsAs_22 : decode cX3_beginsAs 22 = .ok (.if_icmp .ge 26, 3) := by decide +kernel
theorem dX3_beginsAs_25 : decode cX3_beginsAs 25 = .ok (.aload_n 0, 1) := by decide +kernel
theorem dX3_beginsAs_26 : decode cX3_beginsAs 26 = .ok (.getfield 9, 3) := by decide +kernel
theorem dX3_beginsAs_29 : decode cX3_beginsAs 29 = .ok (.iload_n 3, 1) := by decide +kernel
theorem dX3_beginsAs_30 : decode cX3_beginsAs 30 = .ok (.iaload, 1) := by decide +kernel
theorem dX3_beginsAs_31 : decode cX3_beginsAs 31 = .ok (.aload_n 1, 1) := by decide +kernel
theorem dX3_beginsAs_32 : decode cX3_beginsAs 32 = .ok (.getfield 9, 3) := by decide +kernel
theorem dX3_beginsAs_35 : decode cX3_beginsAs 35 = .ok (.iload_n 3, 1) := by decide +kernel
theorem dX3_beginsAs_36 : decode cX3_beginsAs 36 = .ok (.iaload, 1) := by decide +kernel
theorem dX3_beginsAs_37 : decode cX3_beginsAs 37 = .ok (.if_icmp .eq 5, 3) := by decide +kernel
theorem dX3_beginsAs_40 : decode cX3_beginsAs 40 = .ok (.iconst 0, 1) := by decide +kernel
theorem dX3_beginsAs_41 : decode cX3_beginsAs 41 = .ok (.ireturn, 1) := by decide +kernel
theorem dX3_beginsAs_42 : decode cX3_beginsAs 42 = .ok (.iinc 3 1, 3) := by decide +kernel
theorem dX3_beginsAs_45 : decode cX3_beginsAs 45 = .ok (.goto (-25), 3) := by decide +kernel
theorem dX3_beginsAs_48 : decode cX3_beginsAs 48 = .ok (.iconst 1, 1) := by decide +kernel
theorem dX3_beginsAs_49 : decode cX3_beginsAs 49 = .ok (.ireturn, 1) := by decide +kernel
theorem dX4_init_0 : decode cX4_init 0 = .ok (.aload_n 0, 1) := by decide +kernel
theorem dX4_init_1 : decode cX4_init 1 = .ok (.invokespecial 1, 3) := by decide +kernel
theorem dX4_init_4 : decode cX4_init 4 = .ok (.aload_n 0, 1) := by decide +kernel
theorem dX4_init_5 : decode cX4_init 5 = .ok (.sipush 256, 3) := by decide +kernel
theorem dX4_init_8 : decode cX4_init 8 = .ok (.newarray .int, 2) := by decide +kernel
theorem dX4_init_10 : decode cX4_init 10 = .ok (.putfield 7, 3) := by decide +kernel
theorem dX4_init_13 : decode cX4_init 13 = .ok (.return_, 1) := by decide +kernel
theorem dX4_stream_0 : decode cX4_stream 0 = .ok (.aload_n 2, 1) := by decide +kernel
theorem dX4_stream_1 : decode cX4_stream 1 = .ok (.getfield 13, 3) := by decide +kernel
theorem dX4_stream_4 : decode cX4_stream 4 = .ok (.ifCond .ne 4, 3) := by decide +kernel
theorem dX4_stream_7 : decode cX4_stream 7 = .ok (.return_, 1) := by decide +kernel
theorem dX4_stream_8 : decode cX4_stream 8 = .ok (.aload_n 0, 1) := by decide +kernel
theorem dX4_stream_9 : decode cX4_stream 9 = .ok (.aload_n 2, 1) := by decide +kernel
theorem dX4_stream_10 : decode cX4_stream 10 = .ok (.iload_n 3, 1) := by decide +kernel
theorem dX4_stream_11 : decode cX4_stream 11 = .ok (.invokevirtual 19, 3) := by decide +kernel
theorem dX4_stream_14 : decode cX4_stream 14 = .ok (.iconst 0, 1) := by decide +kernel
theorem dX4_stream_15 : decode cX4_stream 15 = .ok (.istore 4, 2) := by decide +kernel
theorem dX4_stream_17 : decode cX4_stream 17 = .ok (.iconst 0, 1) := by decide +kernel
theorem dX4_stream_18 : decode cX4_stream 18 = .ok (.istore 5, 2) := by decide +kernel
theorem dX4_stream_20 : decode cX4_stream 20 = .ok (.iconst 0, 1) := by decide +kernel
theorem dX4_stream_21 : decode cX4_stream 21 = .ok (.istore 6, 2) := by decide +kernel
theorem dX4_stream_23 : decode cX4_stream 23 = .ok (.iload 6, 2) := by decide +kernel
theorem dX4_stream_25 : decode cX4_stream 25 = .ok (.aload_n 1, 1) := by decide +kernel
theorem dX4_stream_26 : decode cX4_stream 26 = .ok (.getfield 13, 3) := by decide +kernel
theorem dX4_stream_29 : decode cX4_stream 29 = .ok (.if_icmp .ge 90, 3) := by decide +kernel
theorem dX4_stream_32 : decode cX4_stream 32 = .ok (.iload 4, 2) := by decide +kernel
theorem dX4_stream_34 : decode cX4_stream 34 = .ok (.iconst 1, 1) := by decide +kernel
theorem dX4_stream_35 : decode cX4_stream 35 = .ok (.iadd, 1) := by decide +kernel
theorem dX4_stream_36 : decode cX4_stream 36 = .ok (.sipush 255, 3) := by decide +kernel
theorem dX4_stream_39 : decode cX4_stream 39 = .ok (.iand, 1) := by decide +kernel
theorem dX4_stream_40 : decode cX4_stream 40 = .ok (.istore 4, 2) := by decide +kernel
theorem dX4_stream_42 : decode cX4_stream 42 = .ok (.aload_n 0, 1) := by decide +kernel
theorem dX4_stream_43 : decode cX4_stream 43 = .ok (.getfield 7, 3) := by decide +kernel
theorem dX4_stream_46 : decode cX4_stream 46 = .ok (.iload 4, 2) := by decide +kernel
theorem dX4_stream_48 : decode cX4_stream 48 = .ok (.iaload, 1) := by decide +kernel
theorem dX4_stream_49 : decode cX4_stream 49 = .ok (.istore 7, 2) := by decide +kernel
theorem dX4_stream_51 : decode cX4_stream 51 = .ok (.iload 5, 2) := by decide +kernel
theorem dX4_stream_53 : decode cX4_stream 53 = .ok (.iload 7, 2) := by decide +kernel
theorem dX4_stream_55 : decode cX4_stream 55 = .ok (.iadd, 1) := by decide +kernel
theorem dX4_stream_56 : decode cX4_stream 56 = .ok (.sipush 255, 3) := by decide +kernel
theorem dX4_stream_59 : decode cX4_stream 59 = .ok (.iand, 1) := by decide +kernel
theorem dX4_stream_60 : decode cX4_stream 60 = .ok (.istore 5, 2) := by decide +kernel
theorem dX4_stream_62 : decode cX4_stream 62 = .ok (.aload_n 0, 1) := by decide +kernel
theorem dX4_stream_63 : decode cX4_stream 63 = .ok (.getfield 7, 3) := by decide +kernel
theorem dX4_stream_66 : decode cX4_stream 66 = .ok (.iload 5, 2) := by decide +kernel
theorem dX4_stream_68 : decode cX4_stream 68 = .ok (.iaload, 1) := by decide +kernel
theorem dX4_stream_69 : decode cX4_stream 69 = .ok (.istore 8, 2) := by decide +kernel
theorem dX4_stream_71 : decode cX4_stream 71 = .ok (.aload_n 0, 1) := by decide +kernel
theorem dX4_stream_72 : decode cX4_stream 72 = .ok (.getfield 7, 3) := by decide +kernel
theorem dX4_stream_75 : decode cX4_stream 75 = .ok (.iload 4, 2) := by decide +kernel
theorem dX4_stream_77 : decode cX4_stream 77 = .ok (.iload 8, 2) := by decide +kernel
theorem dX4_stream_79 : decode cX4_stream 79 = .ok (.iastore, 1) := by decide +kernel
theorem dX4_stream_80 : decode cX4_stream 80 = .ok (.aload_n 0, 1) := by decide +kernel
theorem dX4_stream_81 : decode cX4_stream 81 = .ok (.getfield 7, 3) := by decide +kernel
theorem dX4_stream_84 : decode cX4_stream 84 = .ok (.iload 5, 2) := by decide +kernel
theorem dX4_stream_86 : decode cX4_stream 86 = .ok (.iload 7, 2) := by decide +kernel
theorem dX4_stream_88 : decode cX4_stream 88 = .ok (.iastore, 1) := by decide +kernel
theorem dX4_stream_89 : decode cX4_stream 89 = .ok (.aload_n 1, 1) := by decide +kernel
theorem dX4_stream_90 : decode cX4_stream 90 = .ok (.getfield 23, 3) := by decide +kernel
theorem dX4_stream_93 : decode cX4_stream 93 = .ok (.iload 6, 2) := by decide +kernel
theorem dX4_stream_95 : decode cX4_stream 95 = .ok (.dup2, 1) := by decide +kernel
theorem dX4_stream_96 : decode cX4_stream 96 = .ok (.iaload, 1) := by decide +kernel
theorem dX4_stream_97 : decode cX4_stream 97 = .ok (.aload_n 0, 1) := by decide +kernel
theorem dX4_stream_98 : decode cX4_stream 98 = .ok (.getfield 7, 3) := by decide +kernel
theorem dX4_stream_101 : decode cX4_stream 101 = .ok (.iload 7, 2) := by decide +kernel
theorem dX4_stream_103 : decode cX4_stream 103 = .ok (.iload 8, 2) := by decide +kernel
theorem dX4_stream_105 : decode cX4_stream 105 = .ok (.iadd, 1) := by decide +kernel
theorem dX4_stream_106 : decode cX4_stream 106 = .ok (.sipush 255, 3) := by decide +kernel
theorem dX4_stream_109 : decode cX4_stream 109 = .ok (.iand, 1) := by decide +kernel
theorem dX4_stream_110 : decode cX4_stream 110 = .ok (.iaload, 1) := by decide +kernel
theorem dX4_stream_111 : decode cX4_stream 111 = .ok (.ixor, 1) := by decide +kernel
theorem dX4_stream_112 : decode cX4_stream 112 = .ok (.iastore, 1) := by decide +kernel
theorem dX4_stream_113 : decode cX4_stream 113 = .ok (.iinc 6 1, 3) := by decide +kernel
theorem dX4_stream_116 : decode cX4_stream 116 = .ok (.goto (-93), 3) := by decide +kernel
theorem dX4_stream_119 : decode cX4_stream 119 = .ok (.return_, 1) := by decide +kernel
theorem dX4_mixTable_0 : decode cX4_mixTable 0 = .ok (.iconst 0, 1) := by decide +kernel
theorem dX4_mixTable_1 : decode cX4_mixTable 1 = .ok (.istore_n 3, 1) := by decide +kernel
theorem dX4_mixTable_2 : decode cX4_mixTable 2 = .ok (.iload_n 3, 1) := by decide +kernel
theorem dX4_mixTable_3 : decode cX4_mixTable 3 = .ok (.sipush 256, 3) := by decide +kernel
theorem dX4_mixTable_6 : decode cX4_mixTable 6 = .ok (.if_icmp .ge 16, 3) := by decide +kernel
theorem dX4_mixTable_9 : decode cX4_mixTable 9 = .ok (.aload_n 0, 1) := by decide +kernel
theorem dX4_mixTable_10 : decode cX4_mixTable 10 = .ok (.getfield 7, 3) := by decide +kernel
theorem dX4_mixTable_13 : decode cX4_mixTable 13 = .ok (.iload_n 3, 1) := by decide +kernel
theorem dX4_mixTable_14 : decode cX4_mixTable 14 = .ok (.iload_n 3, 1) := by decide +kernel
theorem dX4_mixTable_15 : decode cX4_mixTable 15 = .ok (.iastore, 1) := by decide +kernel
theorem dX4_mixTable_16 : decode cX4_mixTable 16 = .ok (.iinc 3 1, 3) := by decide +kernel
theorem dX4_mixTable_19 : decode cX4_mixTable 19 = .ok (.goto (-17), 3) := by decide +kernel
theorem dX4_mixTable_22 : decode cX4_mixTable 22 = .ok (.iconst 0, 1) := by decide +kernel
theorem dX4_mixTable_23 : decode cX4_mixTable 23 = .ok (.istore_n 3, 1) := by decide +kernel
theorem dX4_mixTable_24 : decode cX4_mixTable 24 = .ok (.iconst 0, 1) := by decide +kernel
theorem dX4_mixTable_25 : decode cX4_mixTable 25 = .ok (.istore 4, 2) := by decide +kernel
theorem dX4_mixTable_27 : decode cX4_mixTable 27 = .ok (.iconst 0, 1) := by decide +kernel
theorem dX4_mixTable_28 : decode cX4_mixTable 28 = .ok (.istore 5, 2) := by decide +kernel
theorem dX4_mixTable_30 : decode cX4_mixTable 30 = .ok (.iload 5, 2) := by decide +kernel
theorem dX4_mixTable_32 : decode cX4_mixTable 32 = .ok (.sipush 256, 3) := by decide +kernel
theorem dX4_mixTable_35 : decode cX4_mixTable 35 = .ok (.if_icmp .ge 73, 3) := by decide +kernel
theorem dX4_mixTable_38 : decode cX4_mixTable 38 = .ok (.aload_n 0, 1) := by decide +kernel
theorem dX4_mixTable_39 : decode cX4_mixTable 39 = .ok (.getfield 7, 3) := by decide +kernel
theorem dX4_mixTable_42 : decode cX4_mixTable 42 = .ok (.iload 5, 2) := by decide +kernel
theorem dX4_mixTable_44 : decode cX4_mixTable 44 = .ok (.iaload, 1) := by decide +kernel
theorem dX4_mixTable_45 : decode cX4_mixTable 45 = .ok (.istore 6, 2) := by decide +kernel
theorem dX4_mixTable_47 : decode cX4_mixTable 47 = .ok (.iload_n 3, 1) := by decide +kernel
theorem dX4_mixTable_48 : decode cX4_mixTable 48 = .ok (.iload 6, 2) := by decide +kernel
theorem dX4_mixTable_50 : decode cX4_mixTable 50 = .ok (.iadd, 1) := by decide +kernel
theorem dX4_mixTable_51 : decode cX4_mixTable 51 = .ok (.aload_n 1, 1) := by decide +kernel
theorem dX4_mixTable_52 : decode cX4_mixTable 52 = .ok (.getfield 23, 3) := by decide +kernel
theorem dX4_mixTable_55 : decode cX4_mixTable 55 = .ok (.iload 4, 2) := by decide +kernel
theorem dX4_mixTable_57 : decode cX4_mixTable 57 = .ok (.iaload, 1) := by decide +kernel
theorem dX4_mixTable_58 : decode cX4_mixTable 58 = .ok (.iload_n 2, 1) := by decide +kernel
theorem dX4_mixTable_59 : decode cX4_mixTable 59 = .ok (.ixor, 1) := by decide +kernel
theorem dX4_mixTable_60 : decode cX4_mixTable 60 = .ok (.iadd, 1) := by decide +kernel
theorem dX4_mixTable_61 : decode cX4_mixTable 61 = .ok (.sipush 255, 3) := by decide +kernel
theorem dX4_mixTable_64 : decode cX4_mixTable 64 = .ok (.iand, 1) := by decide +kernel
theorem dX4_mixTable_65 : decode cX4_mixTable 65 = .ok (.istore_n 3, 1) := by decide +kernel
theorem dX4_mixTable_66 : decode cX4_mixTable 66 = .ok (.aload_n 0, 1) := by decide +kernel
theorem dX4_mixTable_67 : decode cX4_mixTable 67 = .ok (.getfield 7, 3) := by decide +kernel
theorem dX4_mixTable_70 : decode cX4_mixTable 70 = .ok (.iload 5, 2) := by decide +kernel
theorem dX4_mixTable_72 : decode cX4_mixTable 72 = .ok (.aload_n 0, 1) := by decide +kernel
theorem dX4_mixTable_73 : decode cX4_mixTable 73 = .ok (.getfield 7, 3) := by decide +kernel
theorem dX4_mixTable_76 : decode cX4_mixTable 76 = .ok (.iload_n 3, 1) := by decide +kernel
theorem dX4_mixTable_77 : decode cX4_mixTable 77 = .ok (.iaload, 1) := by decide +kernel
theorem dX4_mixTable_78 : decode cX4_mixTable 78 = .ok (.iastore, 1) := by decide +kernel
theorem dX4_mixTable_79 : decode cX4_mixTable 79 = .ok (.aload_n 0, 1) := by decide +kernel
theorem dX4_mixTable_80 : decode cX4_mixTable 80 = .ok (.getfield 7, 3) := by decide +kernel
theorem dX4_mixTable_83 : decode cX4_mixTable 83 = .ok (.iload_n 3, 1) := by decide +kernel
theorem dX4_mixTable_84 : decode cX4_mixTable 84 = .ok (.iload 6, 2) := by decide +kernel
theorem dX4_mixTable_86 : decode cX4_mixTable 86 = .ok (.iastore, 1) := by decide +kernel
theorem dX4_mixTable_87 : decode cX4_mixTable 87 = .ok (.iinc 4 1, 3) := by decide +kernel
theorem dX4_mixTable_90 : decode cX4_mixTable 90 = .ok (.iload 4, 2) := by decide +kernel
theorem dX4_mixTable_92 : decode cX4_mixTable 92 = .ok (.aload_n 1, 1) := by decide +kernel
theorem dX4_mixTable_93 : decode cX4_mixTable 93 = .ok (.getfield 13, 3) := by decide +kernel
theorem dX4_mixTable_96 : decode cX4_mixTable 96 = .ok (.if_icmp .lt 6, 3) := by decide +kernel
theorem dX4_mixTable_99 : decode cX4_mixTable 99 = .ok (.iconst 0, 1) := by decide +kernel
theorem dX4_mixTable_100 : decode cX4_mixTable 100 = .ok (.istore 4, 2) := by decide +kernel
theorem dX4_mixTable_102 : decode cX4_mixTable 102 = .ok (.iinc 5 1, 3) := by decide +kernel
theorem dX4_mixTable_105 : decode cX4_mixTable 105 = .ok (.goto (-75), 3) := by decide +kernel
theorem dX4_mixTable_108 : decode cX4_mixTable 108 = .ok (.return_, 1) := by decide +kernel
theorem dX5_init_0 : decode cX5_init 0 = .ok (.aload_n 0, 1) := by decide +kernel
theorem dX5_init_1 : decode cX5_init 1 = .ok (.invokespecial 1, 3) := by decide +kernel
theorem dX5_init_4 : decode cX5_init 4 = .ok (.aload_n 0, 1) := by decide +kernel
theorem dX5_init_5 : decode cX5_init 5 = .ok (.new 7, 3) := by decide +kernel
theorem dX5_init_8 : decode cX5_init 8 = .ok (.dup, 1) := by decide +kernel
theorem dX5_init_9 : decode cX5_init 9 = .ok (.sipush 16384, 3) := by decide +kernel
theorem dX5_init_12 : decode cX5_init 12 = .ok (.invokespecial 11, 3) := by decide +kernel
theorem dX5_init_15 : decode cX5_init 15 = .ok (.putfield 14, 3) := by decide +kernel
theorem dX5_init_18 : decode cX5_init 18 = .ok (.aload_n 0, 1) := by decide +kernel
theorem dX5_init_19 : decode cX5_init 19 = .ok (.new 7, 3) := by decide +kernel
theorem dX5_init_22 : decode cX5_init 22 = .ok (.dup, 1) := by decide +kernel
theorem dX5_init_23 : decode cX5_init 23 = .ok (.sipush 16384, 3) := by decide +kernel
theorem dX5_init_26 : decode cX5_init 26 = .ok (.invokespecial 11, 3) := by decide +kernel
theorem dX5_init_29 : decode cX5_init 29 = .ok (.putfield 18, 3) := by decide +kernel
theorem dX5_init_32 : decode cX5_init 32 = .ok (.aload_n 0, 1) := by decide +kernel
theorem dX5_init_33 : decode cX5_init 33 = .ok (.new 21, 3) := by decide +kernel
theorem dX5_init_36 : decode cX5_init 36 = .ok (.dup, 1) := by decide +kernel
theorem dX5_init_37 : decode cX5_init 37 = .ok (.invokespecial 23, 3) := by decide +kernel
theorem dX5_init_40 : decode cX5_init 40 = .ok (.putfield 24, 3) := by decide +kernel
theorem dX5_init_43 : decode cX5_init 43 = .ok (.return_, 1) := by decide +kernel
theorem dX5_feed_0 : decode cX5_feed 0 = .ok (.aload_n 0, 1) := by decide +kernel
theorem dX5_feed_1 : decode cX5_feed 1 = .ok (.getfield 14, 3) := by decide +kernel
theorem dX5_feed_4 : decode cX5_feed 4 = .ok (.getfield 28, 3) := by decide +kernel
theorem dX5_feed_7 : decode cX5_feed 7 = .ok (.sipush 16364, 3) := by decide +kernel
theorem dX5_feed_10 : decode cX5_feed 10 = .ok (.if_icmp .le 5, 3) := by decide +kernel
theorem dX5_feed_13 : decode cX5_feed 13 = .ok (.iconst (-1), 1) := by decide +kernel
theorem dX5_feed_14 : decode cX5_feed 14 = .ok (.ireturn, 1) := by decide +kernel
theorem dX5_feed_15 : decode cX5_feed 15 = .ok (.aload_n 0, 1) := by decide +kernel
theorem dX5_feed_16 : decode cX5_feed 16 = .ok (.getfield 14, 3) := by decide +kernel
theorem dX5_feed_19 : decode cX5_feed 19 = .ok (.iload_n 1, 1) := by decide +kernel
theorem dX5_feed_20 : decode cX5_feed 20 = .ok (.invokevirtual 32, 3) := by decide +kernel
theorem dX5_feed_23 : decode cX5_feed 23 = .ok (.aload_n 0, 1) := by decide +kernel
theorem dX5_feed_24 : decode cX5_feed 24 = .ok (.getfield 14, 3) := by decide +kernel
theorem dX5_feed_27 : decode cX5_feed 27 = .ok (.iload_n 2, 1) := by decide +kernel
theorem dX5_feed_28 : decode cX5_feed 28 = .ok (.invokevirtual 32, 3) := by decide +kernel
theorem dX5_feed_31 : decode cX5_feed 31 = .ok (.aload_n 0, 1) := by decide +kernel
theorem dX5_feed_32 : decode cX5_feed 32 = .ok (.getfield 14, 3) := by decide +kernel
theorem dX5_feed_35 : decode cX5_feed 35 = .ok (.iload_n 3, 1) := by decide +kernel
theorem dX5_feed_36 : decode cX5_feed 36 = .ok (.invokevirtual 32, 3) := by decide +kernel
theorem dX5_feed_39 : decode cX5_feed 39 = .ok (.aload_n 0, 1) := by decide +kernel
theorem dX5_feed_40 : decode cX5_feed 40 = .ok (.getfield 14, 3) := by decide +kernel
theorem dX5_feed_43 : decode cX5_feed 43 = .ok (.iload 4, 2) := by decide +kernel
theorem dX5_feed_45 : decode cX5_feed 45 = .ok (.invokevirtual 32, 3) := by decide +kernel
theorem dX5_feed_48 : decode cX5_feed 48 = .ok (.aload_n 0, 1) := by decide +kernel
theorem dX5_feed_49 : decode cX5_feed 49 = .ok (.getfield 14, 3) := by decide +kernel
theorem dX5_feed_52 : decode cX5_feed 52 = .ok (.iload 5, 2) := by decide +kernel
theorem dX5_feed_54 : decode cX5_feed 54 = .ok (.invokevirtual 32, 3) := by decide +kernel
theorem dX5_feed_57 : decode cX5_feed 57 = .ok (.aload_n 0, 1) := by decide +kernel
theorem dX5_feed_58 : decode cX5_feed 58 = .ok (.getfield 14, 3) := by decide +kernel
theorem dX5_feed_61 : decode cX5_feed 61 = .ok (.getfield 28, 3) := by decide +kernel
theorem dX5_feed_64 : decode cX5_feed 64 = .ok (.ireturn, 1) := by decide +kernel
theorem dX5_put_0 : decode cX5_put 0 = .ok (.iload_n 1, 1) := by decide +kernel
theorem dX5_put_1 : decode cX5_put 1 = .ok (.ifCond .lt 14, 3) := by decide +kernel
theorem dX5_put_4 : decode cX5_put 4 = .ok (.iload_n 1, 1) := by decide +kernel
theorem dX5_put_5 : decode cX5_put 5 = .ok (.aload_n 0, 1) := by decide +kernel
theorem dX5_put_6 : decode cX5_put 6 = .ok (.getfield 14, 3) := by decide +kernel
theorem dX5_put_9 : decode cX5_put 9 = .ok (.getfield 28, 3) := by decide +kernel
theorem dX5_put_12 : decode cX5_put 12 = .ok (.if_icmp .lt 13, 3) := by decide +kernel
theorem dX5_put_15 : decode cX5_put 15 = .ok (.new 35, 3) := by decide +kernel
theorem dX5_put_18 : decode cX5_put 18 = .ok (.dup, 1) := by decide +kernel
theorem dX5_put_19 : decode cX5_put 19 = .ok (.ldc 37, 2) := by decide +kernel
theorem dX5_put_21 : decode cX5_put 21 = .ok (.invokespecial 39, 3) := by decide +kernel
theorem dX5_put_24 : decode cX5_put 24 = .ok (.athrow, 1) := by decide +kernel
theorem dX5_put_25 : decode cX5_put 25 = .ok (.iload_n 2, 1) := by decide +kernel
theorem dX5_put_26 : decode cX5_put 26 = .ok (.ifCond .lt 10, 3) := by decide +kernel
theorem dX5_put_29 : decode cX5_put 29 = .ok (.iload_n 2, 1) := by decide +kernel
theorem dX5_put_30 : decode cX5_put 30 = .ok (.sipush 255, 3) := by decide +kernel
theorem dX5_put_33 : decode cX5_put 33 = .ok (.if_icmp .le 13, 3) := by decide +kernel
theorem dX5_put_36 : decode cX5_put 36 = .ok (.new 42, 3) := by decide +kernel
theorem dX5_put_39 : decode cX5_put 39 = .ok (.dup, 1) := by decide +kernel
theorem dX5_put_40 : decode cX5_put 40 = .ok (.ldc 44, 2) := by decide +kernel
theorem dX5_put_42 : decode cX5_put 42 = .ok (.invokespecial 46, 3) := by decide +kernel
theorem dX5_put_45 : decode cX5_put 45 = .ok (.athrow, 1) := by decide +kernel
theorem dX5_put_46 : decode cX5_put 46 = .ok (.aload_n 0, 1) := by decide +kernel
theorem dX5_put_47 : decode cX5_put 47 = .ok (.getfield 14, 3) := by decide +kernel
theorem dX5_put_50 : decode cX5_put 50 = .ok (.getfield 47, 3) := by decide +kernel
theorem dX5_put_53 : decode cX5_put 53 = .ok (.iload_n 1, 1) := by decide +kernel
theorem dX5_put_54 : decode cX5_put 54 = .ok (.iaload, 1) := by decide +kernel
theorem dX5_put_55 : decode cX5_put 55 = .ok (.istore_n 3, 1) := by decide +kernel
theorem dX5_put_56 : decode cX5_put 56 = .ok (.aload_n 0, 1) := by decide +kernel
theorem dX5_put_57 : decode cX5_put 57 = .ok (.getfield 14, 3) := by decide +kernel
theorem dX5_put_60 : decode cX5_put 60 = .ok (.getfield 47, 3) := by decide +kernel
theorem dX5_put_63 : decode cX5_put 63 = .ok (.iload_n 1, 1) := by decide +kernel
theorem dX5_put_64 : decode cX5_put 64 = .ok (.iload_n 2, 1) := by decide +kernel
theorem dX5_put_65 : decode cX5_put 65 = .ok (.iastore, 1) := by decide +kernel
theorem dX5_put_66 : decode cX5_put 66 = .ok (.iload_n 3, 1) := by decide +kernel
theorem dX5_put_67 : decode cX5_put 67 = .ok (.ireturn, 1) := by decide +kernel
theorem dX5_cut_0 : decode cX5_cut 0 = .ok (.iload_n 1, 1) := by decide +kernel
theorem dX5_cut_1 : decode cX5_cut 1 = .ok (.ifCond .ge 13, 3) := by decide +kernel
theorem dX5_cut_4 : decode cX5_cut 4 = .ok (.new 42, 3) := by decide +kernel
theorem dX5_cut_7 : decode cX5_cut 7 = .ok (.dup, 1) := by decide +kernel
theorem dX5_cut_8 : decode cX5_cut 8 = .ok (.ldc 51, 2) := by decide +kernel
theorem dX5_cut_10 : decode cX5_cut 10 = .ok (.invokespecial 46, 3) := by decide +kernel
theorem dX5_cut_13 : decode cX5_cut 13 = .ok (.athrow, 1) := by decide +kernel
theorem dX5_cut_14 : decode cX5_cut 14 = .ok (.aload_n 0, 1) := by decide +kernel
theorem dX5_cut_15 : decode cX5_cut 15 = .ok (.getfield 14, 3) := by decide +kernel
theorem dX5_cut_18 : decode cX5_cut 18 = .ok (.getfield 28, 3) := by decide +kernel
theorem dX5_cut_21 : decode cX5_cut 21 = .ok (.istore_n 2, 1) := by decide +kernel
theorem dX5_cut_22 : decode cX5_cut 22 = .ok (.aload_n 0, 1) := by decide +kernel
theorem dX5_cut_23 : decode cX5_cut 23 = .ok (.getfield 14, 3) := by decide +kernel
theorem dX5_cut_26 : decode cX5_cut 26 = .ok (.iload_n 1, 1) := by decide +kernel
theorem dX5_cut_27 : decode cX5_cut 27 = .ok (.invokevirtual 53, 3) := by decide +kernel
theorem dX5_cut_30 : decode cX5_cut 30 = .ok (.iload_n 2, 1) := by decide +kernel
theorem dX5_cut_31 : decode cX5_cut 31 = .ok (.aload_n 0, 1) := by decide +kernel
theorem dX5_cut_32 : decode cX5_cut 32 = .ok (.getfield 14, 3) := by decide +kernel
theorem dX5_cut_35 : decode cX5_cut 35 = .ok (.getfield 28, 3) := by decide +kernel
theorem dX5_cut_38 : decode cX5_cut 38 = .ok (.isub, 1) := by decide +kernel
theorem dX5_cut_39 : decode cX5_cut 39 = .ok (.ireturn, 1) := by decide +kernel
theorem dX5_handler_0 : decode cX5_handler 0 = .ok (.iload_n 1, 1) := by decide +kernel
theorem dX5_handler_1 : decode cX5_handler 1 = .ok (.iconst 2, 1) := by decide +kernel
theorem dX5_handler_2 : decode cX5_handler 2 = .ok (.if_icmp .lt 8, 3) := by decide +kernel
theorem dX5_handler_5 : decode cX5_handler 5 = .ok (.iload_n 1, 1) := by decide +kernel
theorem dX5_handler_6 : decode cX5_handler 6 = .ok (.iconst 4, 1) := by decide +kernel
theorem dX5_handler_7 : decode cX5_handler 7 = .ok (.if_icmp .le 13, 3) := by decide +kernel
theorem dX5_handler_10 : decode cX5_handler 10 = .ok (.new 42, 3) := by decide +kernel
theorem dX5_handler_13 : decode cX5_handler 13 = .ok (.dup, 1) := by decide +kernel
theorem dX5_handler_14 : decode cX5_handler 14 = .ok (.ldc 56, 2) := by decide +kernel
theorem dX5_handler_16 : decode cX5_handler 16 = .ok (.invokespecial 46, 3) := by decide +kernel
theorem dX5_handler_19 : decode cX5_handler 19 = .ok (.athrow, 1) := by decide +kernel
theorem dX5_handler_20 : decode cX5_handler 20 = .ok (.iload_n 2, 1) := by decide +kernel
theorem dX5_handler_21 : decode cX5_handler 21 = .ok (.iconst 5, 1) := by decide +kernel
theorem dX5_handler_22 : decode cX5_handler 22 = .ok (.if_icmp .lt 18, 3) := by decide +kernel
theorem dX5_handler_25 : decode cX5_handler 25 = .ok (.iload_n 2, 1) := by decide +kernel
theorem dX5_handler_26 : decode cX5_handler 26 = .ok (.iload_n 1, 1) := by decide +kernel
theorem dX5_handler_27 : decode cX5_handler 27 = .ok (.iconst 2, 1) := by decide +kernel
theorem dX5_handler_28 : decode cX5_handler 28 = .ok (.if_icmp .ne 7, 3) := by decide +kernel
theorem dX5_handler_31 : decode cX5_handler 31 = .ok (.iconst 5, 1) := by decide +kernel
theorem dX5_handler_32 : decode cX5_handler 32 = .ok (.goto 5, 3) := by decide +kernel
theorem dX5_handler_35 : decode cX5_handler 35 = .ok (.bipush 16, 2) := by decide +kernel
theorem dX5_handler_37 : decode cX5_handler 37 = .ok (.if_icmp .le 13, 3) := by decide +kernel
theorem dX5_handler_40 : decode cX5_handler 40 = .ok (.new 42, 3) := by decide +kernel
theorem dX5_handler_43 : decode cX5_handler 43 = .ok (.dup, 1) := by decide +kernel
theorem dX5_handler_44 : decode cX5_handler 44 = .ok (.ldc 58, 2) := by decide +kernel
theorem dX5_handler_46 : decode cX5_handler 46 = .ok (.invokespecial 46, 3) := by decide +kernel
theorem dX5_handler_49 : decode cX5_handler 49 = .ok (.athrow, 1) := by decide +kernel
theorem dX5_handler_50 : decode cX5_handler 50 = .ok (.aload_n 0, 1) := by decide +kernel
theorem dX5_handler_51 : decode cX5_handler 51 = .ok (.getfield 24, 3) := by decide +kernel
theorem dX5_handler_54 : decode cX5_handler 54 = .ok (.iload_n 1, 1) := by decide +kernel
theorem dX5_handler_55 : decode cX5_handler 55 = .ok (.putfield 60, 3) := by decide +kernel
theorem dX5_handler_58 : decode cX5_handler 58 = .ok (.aload_n 0, 1) := by decide +kernel
theorem dX5_handler_59 : decode cX5_handler 59 = .ok (.getfield 24, 3) := by decide +kernel
theorem dX5_handler_62 : decode cX5_handler 62 = .ok (.iload_n 2, 1) := by decide +kernel
theorem dX5_handler_63 : decode cX5_handler 63 = .ok (.putfield 63, 3) := by decide +kernel
theorem dX5_handler_66 : decode cX5_handler 66 = .ok (.aload_n 0, 1) := by decide +kernel
theorem dX5_handler_67 : decode cX5_handler 67 = .ok (.getfield 24, 3) := by decide +kernel
theorem dX5_handler_70 : decode cX5_handler 70 = .ok (.iload_n 3, 1) := by decide +kernel
theorem dX5_handler_71 : decode cX5_handler 71 = .ok (.putfield 66, 3) := by decide +kernel
theorem dX5_handler_74 : decode cX5_handler 74 = .ok (.aload_n 0, 1) := by decide +kernel
theorem dX5_handler_75 : decode cX5_handler 75 = .ok (.getfield 24, 3) := by decide +kernel
theorem dX5_handler_78 : decode cX5_handler 78 = .ok (.iload 4, 2) := by decide +kernel
theorem dX5_handler_80 : decode cX5_handler 80 = .ok (.putfield 69, 3) := by decide +kernel
theorem dX5_handler_83 : decode cX5_handler 83 = .ok (.aload_n 0, 1) := by decide +kernel
theorem dX5_handler_84 : decode cX5_handler 84 = .ok (.getfield 24, 3) := by decide +kernel
theorem dX5_handler_87 : decode cX5_handler 87 = .ok (.getfield 73, 3) := by decide +kernel
theorem dX5_handler_90 : decode cX5_handler 90 = .ok (.invokevirtual 76, 3) := by decide +kernel
theorem dX5_handler_93 : decode cX5_handler 93 = .ok (.return_, 1) := by decide +kernel
theorem dX5_take_0 : decode cX5_take 0 = .ok (.aload_n 0, 1) := by decide +kernel
theorem dX5_take_1 : decode cX5_take 1 = .ok (.getfield 24, 3) := by decide +kernel
theorem dX5_take_4 : decode cX5_take 4 = .ok (.iload_n 1, 1) := by decide +kernel
theorem dX5_take_5 : decode cX5_take 5 = .ok (.invokevirtual 79, 3) := by decide +kernel
theorem dX5_take_8 : decode cX5_take 8 = .ok (.astore_n 2, 1) := by decide +kernel
theorem dX5_take_9 : decode cX5_take 9 = .ok (.aload_n 2, 1) := by decide +kernel
theorem dX5_take_10 : decode cX5_take 10 = .ok (.ifnonnull 13, 3) := by decide +kernel
theorem dX5_take_13 : decode cX5_take 13 = .ok (.new 42, 3) := by decide +kernel
theorem dX5_take_16 : decode cX5_take 16 = .ok (.dup, 1) := by decide +kernel
theorem dX5_take_17 : decode cX5_take 17 = .ok (.ldc 83, 2) := by decide +kernel
theorem dX5_take_19 : decode cX5_take 19 = .ok (.invokespecial 46, 3) := by decide +kernel
theorem dX5_take_22 : decode cX5_take 22 = .ok (.athrow, 1) := by decide +kernel
theorem dX5_take_23 : decode cX5_take 23 = .ok (.iload_n 1, 1) := by decide +kernel
theorem dX5_take_24 : decode cX5_take 24 = .ok (.iconst 1, 1) := by decide +kernel
theorem dX5_take_25 : decode cX5_take 25 = .ok (.if_icmp .gt 7, 3) := by decide +kernel
theorem dX5_take_28 : decode cX5_take 28 = .ok (.iconst 1, 1) := by decide +kernel
theorem dX5_take_29 : decode cX5_take 29 = .ok (.goto 4, 3) := by decide +kernel
theorem dX5_take_32 : decode cX5_take 32 = .ok (.iconst 0, 1) := by decide +kernel
theorem dX5_take_33 : decode cX5_take 33 = .ok (.istore_n 3, 1) := by decide +kernel
theorem dX5_take_34 : decode cX5_take 34 = .ok (.iload_n 3, 1) := by decide +kernel
theorem dX5_take_35 : decode cX5_take 35 = .ok (.ifCond .eq 18, 3) := by decide +kernel
theorem dX5_take_38 : decode cX5_take 38 = .ok (.aload_n 0, 1) := by decide +kernel
theorem dX5_take_39 : decode cX5_take 39 = .ok (.getfield 14, 3) := by decide +kernel
theorem dX5_take_42 : decode cX5_take 42 = .ok (.getfield 28, 3) := by decide +kernel
theorem dX5_take_45 : decode cX5_take 45 = .ok (.bipush 32, 2) := by decide +kernel
theorem dX5_take_47 : decode cX5_take 47 = .ok (.if_icmp .eq 28, 3) := by decide +kernel
theorem dX5_take_50 : decode cX5_take 50 = .ok (.goto 15, 3) := by decide +kernel
theorem dX5_take_53 : decode cX5_take 53 = .ok (.aload_n 0, 1) := by decide +kernel
theorem dX5_take_54 : decode cX5_take 54 = .ok (.getfield 14, 3) := by decide +kernel
theorem dX5_take_57 : decode cX5_take 57 = .ok (.getfield 28, 3) := by decide +kernel
theorem dX5_take_60 : decode cX5_take 60 = .ok (.bipush 64, 2) := by decide +kernel
theorem dX5_take_62 : decode cX5_take 62 = .ok (.if_icmp .le 13, 3) := by decide +kernel
theorem dX5_take_65 : decode cX5_take 65 = .ok (.new 85, 3) := by decide +kernel
theorem dX5_take_68 : decode cX5_take 68 = .ok (.dup, 1) := by decide +kernel
theorem dX5_take_69 : decode cX5_take 69 = .ok (.ldc 87, 2) := by decide +kernel
theorem dX5_take_71 : decode cX5_take 71 = .ok (.invokespecial 89, 3) := by decide +kernel
theorem dX5_take_74 : decode cX5_take 74 = .ok (.athrow, 1) := by decide +kernel
theorem dX5_take_75 : decode cX5_take 75 = .ok (.aload_n 2, 1) := by decide +kernel
theorem dX5_take_76 : decode cX5_take 76 = .ok (.aload_n 0, 1) := by decide +kernel
theorem dX5_take_77 : decode cX5_take 77 = .ok (.getfield 14, 3) := by decide +kernel
theorem dX5_take_80 : decode cX5_take 80 = .ok (.invokevirtual 90, 3) := by decide +kernel
theorem dX5_take_83 : decode cX5_take 83 = .ok (.iload_n 1, 1) := by decide +kernel
theorem dX5_take_84 : decode cX5_take 84 = .ok (.iconst 2, 1) := by decide +kernel
theorem dX5_take_85 : decode cX5_take 85 = .ok (.if_icmp .gt 13, 3) := by decide +kernel
theorem dX5_take_88 : decode cX5_take 88 = .ok (.aload_n 0, 1) := by decide +kernel
theorem dX5_take_89 : decode cX5_take 89 = .ok (.getfield 24, 3) := by decide +kernel
theorem dX5_take_92 : decode cX5_take 92 = .ok (.getfield 73, 3) := by decide +kernel
theorem dX5_take_95 : decode cX5_take 95 = .ok (.invokevirtual 76, 3) := by decide +kernel
theorem dX5_take_98 : decode cX5_take 98 = .ok (.aload_n 0, 1) := by decide +kernel
theorem dX5_take_99 : decode cX5_take 99 = .ok (.getfield 14, 3) := by decide +kernel
theorem dX5_take_102 : decode cX5_take 102 = .ok (.getfield 28, 3) := by decide +kernel
theorem dX5_take_105 : decode cX5_take 105 = .ok (.ireturn, 1) := by decide +kernel
theorem dX5_enter_0 : decode cX5_enter 0 = .ok (.iload_n 1, 1) := by decide +kernel
theorem dX5_enter_1 : decode cX5_enter 1 = .ok (.ifCond .eq 18, 3) := by decide +kernel
theorem dX5_enter_4 : decode cX5_enter 4 = .ok (.iload_n 1, 1) := by decide +kernel
theorem dX5_enter_5 : decode cX5_enter 5 = .ok (.iconst 1, 1) := by decide +kernel
theorem dX5_enter_6 : decode cX5_enter 6 = .ok (.if_icmp .eq 13, 3) := by decide +kernel
theorem dX5_enter_9 : decode cX5_enter 9 = .ok (.new 42, 3) := by decide +kernel
theorem dX5_enter_12 : decode cX5_enter 12 = .ok (.dup, 1) := by decide +kernel
theorem dX5_enter_13 : decode cX5_enter 13 = .ok (.ldc 94, 2) := by decide +kernel
theorem dX5_enter_15 : decode cX5_enter 15 = .ok (.invokespecial 46, 3) := by decide +kernel
theorem dX5_enter_18 : decode cX5_enter 18 = .ok (.athrow, 1) := by decide +kernel
theorem dX5_enter_19 : decode cX5_enter 19 = .ok (.iload_n 1, 1) := by decide +kernel
theorem dX5_enter_20 : decode cX5_enter 20 = .ok (.ifCond .ne 13, 3) := by decide +kernel
theorem dX5_enter_23 : decode cX5_enter 23 = .ok (.aload_n 0, 1) := by decide +kernel
theorem dX5_enter_24 : decode cX5_enter 24 = .ok (.getfield 24, 3) := by decide +kernel
theorem dX5_enter_27 : decode cX5_enter 27 = .ok (.invokevirtual 96, 3) := by decide +kernel
theorem dX5_enter_30 : decode cX5_enter 30 = .ok (.goto 10, 3) := by decide +kernel
theorem dX5_enter_33 : decode cX5_enter 33 = .ok (.aload_n 0, 1) := by decide +kernel
theorem dX5_enter_34 : decode cX5_enter 34 = .ok (.getfield 24, 3) := by decide +kernel
theorem dX5_enter_37 : decode cX5_enter 37 = .ok (.invokevirtual 99, 3) := by decide +kernel
theorem dX5_enter_40 : decode cX5_enter 40 = .ok (.aload_n 0, 1) := by decide +kernel
theorem dX5_enter_41 : decode cX5_enter 41 = .ok (.getfield 24, 3) := by decide +kernel
theorem dX5_enter_44 : decode cX5_enter 44 = .ok (.getfield 73, 3) := by decide +kernel
theorem dX5_enter_47 : decode cX5_enter 47 = .ok (.invokevirtual 76, 3) := by decide +kernel
theorem dX5_enter_50 : decode cX5_enter 50 = .ok (.return_, 1) := by decide +kernel
theorem dX5_open_0 : decode cX5_open 0 = .ok (.aload_n 0, 1) := by decide +kernel
theorem dX5_open_1 : decode cX5_open 1 = .ok (.getfield 24, 3) := by decide +kernel
theorem dX5_open_4 : decode cX5_open 4 = .ok (.aload_n 0, 1) := by decide +kernel
theorem dX5_open_5 : decode cX5_open 5 = .ok (.getfield 14, 3) := by decide +kernel
theorem dX5_open_8 : decode cX5_open 8 = .ok (.invokevirtual 102, 3) := by decide +kernel
theorem dX5_open_11 : decode cX5_open 11 = .ok (.ireturn, 1) := by decide +kernel
theorem dX5_key_0 : decode cX5_key 0 = .ok (.aload_n 0, 1) := by decide +kernel
theorem dX5_key_1 : decode cX5_key 1 = .ok (.getfield 24, 3) := by decide +kernel
theorem dX5_key_4 : decode cX5_key 4 = .ok (.getfield 73, 3) := by decide +kernel
theorem dX5_key_7 : decode cX5_key 7 = .ok (.iload_n 1, 1) := by decide +kernel
theorem dX5_key_8 : decode cX5_key 8 = .ok (.invokevirtual 106, 3) := by decide +kernel
theorem dX5_key_11 : decode cX5_key 11 = .ok (.ireturn, 1) := by decide +kernel
theorem dX5_digest_0 : decode cX5_digest 0 = .ok (.aload_n 0, 1) := by decide +kernel
theorem dX5_digest_1 : decode cX5_digest 1 = .ok (.getfield 24, 3) := by decide +kernel
theorem dX5_digest_4 : decode cX5_digest 4 = .ok (.getfield 110, 3) := by decide +kernel
theorem dX5_digest_7 : decode cX5_digest 7 = .ok (.aload_n 0, 1) := by decide +kernel
theorem dX5_digest_8 : decode cX5_digest 8 = .ok (.getfield 14, 3) := by decide +kernel
theorem dX5_digest_11 : decode cX5_digest 11 = .ok (.aload_n 0, 1) := by decide +kernel
theorem dX5_digest_12 : decode cX5_digest 12 = .ok (.getfield 18, 3) := by decide +kernel
theorem dX5_digest_15 : decode cX5_digest 15 = .ok (.invokevirtual 114, 3) := by decide +kernel
theorem dX5_digest_18 : decode cX5_digest 18 = .ok (.return_, 1) := by decide +kernel
theorem dX5_undo_0 : decode cX5_undo 0 = .ok (.iload_n 1, 1) := by decide +kernel
theorem dX5_undo_1 : decode cX5_undo 1 = .ok (.iload_n 2, 1) := by decide +kernel
theorem dX5_undo_2 : decode cX5_undo 2 = .ok (.iload_n 3, 1) := by decide +kernel
theorem dX5_undo_3 : decode cX5_undo 3 = .ok (.invokestatic 120, 3) := by decide +kernel
theorem dX5_undo_6 : decode cX5_undo 6 = .ok (.ifCond .ne 13, 3) := by decide +kernel
theorem dX5_undo_9 : decode cX5_undo 9 = .ok (.new 42, 3) := by decide +kernel
theorem dX5_undo_12 : decode cX5_undo 12 = .ok (.dup, 1) := by decide +kernel
theorem dX5_undo_13 : decode cX5_undo 13 = .ok (.ldc 124, 2) := by decide +kernel
theorem dX5_undo_15 : decode cX5_undo 15 = .ok (.invokespecial 46, 3) := by decide +kernel
theorem dX5_undo_18 : decode cX5_undo 18 = .ok (.athrow, 1) := by decide +kernel
theorem dX5_undo_19 : decode cX5_undo 19 = .ok (.aload_n 0, 1) := by decide +kernel
theorem dX5_undo_20 : decode cX5_undo 20 = .ok (.getfield 24, 3) := by decide +kernel
theorem dX5_undo_23 : decode cX5_undo 23 = .ok (.getfield 73, 3) := by decide +kernel
theorem dX5_undo_26 : decode cX5_undo 26 = .ok (.getfield 28, 3) := by decide +kernel
theorem dX5_undo_29 : decode cX5_undo 29 = .ok (.ifCond .ne 13, 3) := by decide +kernel
theorem dX5_undo_32 : decode cX5_undo 32 = .ok (.new 85, 3) := by decide +kernel
theorem dX5_undo_35 : decode cX5_undo 35 = .ok (.dup, 1) := by decide +kernel
theorem dX5_undo_36 : decode cX5_undo 36 = .ok (.ldc 126, 2) := by decide +kernel
theorem dX5_undo_38 : decode cX5_undo 38 = .ok (.invokespecial 89, 3) := by decide +kernel
theorem dX5_undo_41 : decode cX5_undo 41 = .ok (.athrow, 1) := by decide +kernel
theorem dX5_undo_42 : decode cX5_undo 42 = .ok (.iload_n 3, 1) := by decide +kernel
theorem dX5_undo_43 : decode cX5_undo 43 = .ok (.iconst 2, 1) := by decide +kernel
theorem dX5_undo_44 : decode cX5_undo 44 = .ok (.if_icmp .ne 10, 3) := by decide +kernel
theorem dX5_undo_47 : decode cX5_undo 47 = .ok (.aload_n 0, 1) := by decide +kernel
theorem dX5_undo_48 : decode cX5_undo 48 = .ok (.iload_n 1, 1) := by decide +kernel
theorem dX5_undo_49 : decode cX5_undo 49 = .ok (.iload_n 2, 1) := by decide +kernel
theorem dX5_undo_50 : decode cX5_undo 50 = .ok (.invokevirtual 128, 3) := by decide +kernel
theorem dX5_undo_53 : decode cX5_undo 53 = .ok (.ireturn, 1) := by decide +kernel
theorem dX5_undo_54 : decode cX5_undo 54 = .ok (.aload_n 0, 1) := by decide +kernel
theorem dX5_undo_55 : decode cX5_undo 55 = .ok (.iload_n 1, 1) := by decide +kernel
theorem dX5_undo_56 : decode cX5_undo 56 = .ok (.iload_n 2, 1) := by decide +kernel
theorem dX5_undo_57 : decode cX5_undo 57 = .ok (.iload_n 3, 1) := by decide +kernel
theorem dX5_undo_58 : decode cX5_undo 58 = .ok (.invokevirtual 132, 3) := by decide +kernel
theorem dX5_undo_61 : decode cX5_undo 61 = .ok (.ireturn, 1) := by decide +kernel
theorem dX5_seal_0 : decode cX5_seal 0 = .ok (.iload_n 1, 1) := by decide +kernel
theorem dX5_seal_1 : decode cX5_seal 1 = .ok (.iload_n 2, 1) := by decide +kernel
theorem dX5_seal_2 : decode cX5_seal 2 = .ok (.iload_n 3, 1) := by decide +kernel
theorem dX5_seal_3 : decode cX5_seal 3 = .ok (.invokestatic 120, 3) := by decide +kernel
theorem dX5_seal_6 : decode cX5_seal 6 = .ok (.ifCond .ne 13, 3) := by decide +kernel
theorem dX5_seal_9 : decode cX5_seal 9 = .ok (.new 42, 3) := by decide +kernel
theorem dX5_seal_12 : decode cX5_seal 12 = .ok (.dup, 1) := by decide +kernel
theorem dX5_seal_13 : decode cX5_seal 13 = .ok (.ldc 124, 2) := by decide +kernel
theorem dX5_seal_15 : decode cX5_seal 15 = .ok (.invokespecial 46, 3) := by decide +kernel
theorem dX5_seal_18 : decode cX5_seal 18 = .ok (.athrow, 1) := by decide +kernel
theorem dX5_seal_19 : decode cX5_seal 19 = .ok (.aload_n 0, 1) := by decide +kernel
theorem dX5_seal_20 : decode cX5_seal 20 = .ok (.getfield 24, 3) := by decide +kernel
theorem dX5_seal_23 : decode cX5_seal 23 = .ok (.getfield 73, 3) := by decide +kernel
theorem dX5_seal_26 : decode cX5_seal 26 = .ok (.getfield 28, 3) := by decide +kernel
theorem dX5_seal_29 : decode cX5_seal 29 = .ok (.ifCond .ne 13, 3) := by decide +kernel
theorem dX5_seal_32 : decode cX5_seal 32 = .ok (.new 85, 3) := by decide +kernel
theorem dX5_seal_35 : decode cX5_seal 35 = .ok (.dup, 1) := by decide +kernel
theorem dX5_seal_36 : decode cX5_seal 36 = .ok (.ldc 126, 2) := by decide +kernel
theorem dX5_seal_38 : decode cX5_seal 38 = .ok (.invokespecial 89, 3) := by decide +kernel
theorem dX5_seal_41 : decode cX5_seal 41 = .ok (.athrow, 1) := by decide +kernel
theorem dX5_seal_42 : decode cX5_seal 42 = .ok (.iload_n 3, 1) := by decide +kernel
theorem dX5_seal_43 : decode cX5_seal 43 = .ok (.iconst 2, 1) := by decide +kernel
theorem dX5_seal_44 : decode cX5_seal 44 = .ok (.if_icmp .eq 11, 3) := by decide +kernel
theorem dX5_seal_47 : decode cX5_seal 47 = .ok (.aload_n 0, 1) := by decide +kernel
theorem dX5_seal_48 : decode cX5_seal 48 = .ok (.iload_n 1, 1) := by decide +kernel
theorem dX5_seal_49 : decode cX5_seal 49 = .ok (.iload_n 2, 1) := by decide +kernel
theorem dX5_seal_50 : decode cX5_seal 50 = .ok (.iload_n 3, 1) := by decide +kernel
theorem dX5_seal_51 : decode cX5_seal 51 = .ok (.invokevirtual 132, 3) := by decide +kernel
theorem dX5_seal_54 : decode cX5_seal 54 = .ok (.ireturn, 1) := by decide +kernel
theorem dX5_seal_55 : decode cX5_seal 55 = .ok (.bipush 16, 2) := by decide +kernel
theorem dX5_seal_57 : decode cX5_seal 57 = .ok (.aload_n 0, 1) := by decide +kernel
theorem dX5_seal_58 : decode cX5_seal 58 = .ok (.getfield 14, 3) := by decide +kernel
theorem dX5_seal_61 : decode cX5_seal 61 = .ok (.getfield 28, 3) := by decide +kernel
theorem dX5_seal_64 : decode cX5_seal 64 = .ok (.iadd, 1) := by decide +kernel
theorem dX5_seal_65 : decode cX5_seal 65 = .ok (.aload_n 0, 1) := by decide +kernel
theorem dX5_seal_66 : decode cX5_seal 66 = .ok (.invokevirtual 136, 3) := by decide +kernel
theorem dX5_seal_69 : decode cX5_seal 69 = .ok (.iadd, 1) := by decide +kernel
theorem dX5_seal_70 : decode cX5_seal 70 = .ok (.sipush 16384, 3) := by decide +kernel
theorem dX5_seal_73 : decode cX5_seal 73 = .ok (.if_icmp .le 13, 3) := by decide +kernel
theorem dX5_seal_76 : decode cX5_seal 76 = .ok (.new 85, 3) := by decide +kernel
theorem dX5_seal_79 : decode cX5_seal 79 = .ok (.dup, 1) := by decide +kernel
theorem dX5_seal_80 : decode cX5_seal 80 = .ok (.ldc 140, 2) := by decide +kernel
theorem dX5_seal_82 : decode cX5_seal 82 = .ok (.invokespecial 89, 3) := by decide +kernel
theorem dX5_seal_85 : decode cX5_seal 85 = .ok (.athrow, 1) := by decide +kernel
theorem dX5_seal_86 : decode cX5_seal 86 = .ok (.aload_n 0, 1) := by decide +kernel
theorem dX5_seal_87 : decode cX5_seal 87 = .ok (.iload_n 1, 1) := by decide +kernel
theorem dX5_seal_88 : decode cX5_seal 88 = .ok (.iload_n 2, 1) := by decide +kernel
theorem dX5_seal_89 : decode cX5_seal 89 = .ok (.iload 4, 2) := by decide +kernel
theorem dX5_seal_91 : decode cX5_seal 91 = .ok (.iload 5, 2) := by decide +kernel
theorem dX5_seal_93 : decode cX5_seal 93 = .ok (.invokevirtual 142, 3) := by decide +kernel
theorem dX5_seal_96 : decode cX5_seal 96 = .ok (.ireturn, 1) := by decide +kernel
theorem dX5_count_0 : decode cX5_count 0 = .ok (.iload_n 1, 1) := by decide +kernel
theorem dX5_count_1 : decode cX5_count 1 = .ok (.ifCond .ne 11, 3) := by decide +kernel
theorem dX5_count_4 : decode cX5_count 4 = .ok (.aload_n 0, 1) := by decide +kernel
theorem dX5_count_5 : decode cX5_count 5 = .ok (.getfield 18, 3) := by decide +kernel
theorem dX5_count_8 : decode cX5_count 8 = .ok (.getfield 28, 3) := by decide +kernel
theorem dX5_count_11 : decode cX5_count 11 = .ok (.ireturn, 1) := by decide +kernel
theorem dX5_count_12 : decode cX5_count 12 = .ok (.iload_n 1, 1) := by decide +kernel
theorem dX5_count_13 : decode cX5_count 13 = .ok (.iconst 1, 1) := by decide +kernel
theorem dX5_count_14 : decode cX5_count 14 = .ok (.if_icmp .ne 13, 3) := by decide +kernel
theorem dX5_count_17 : decode cX5_count 17 = .ok (.aload_n 0, 1) := by decide +kernel
theorem dX5_count_18 : decode cX5_count 18 = .ok (.getfield 14, 3) := by decide +kernel
theorem dX5_count_21 : decode cX5_count 21 = .ok (.getfield 28, 3) := by decide +kernel
theorem dX5_count_24 : decode cX5_count 24 = .ok (.goto 4, 3) := by decide +kernel
theorem dX5_count_27 : decode cX5_count 27 = .ok (.iconst (-1), 1) := by decide +kernel
theorem dX5_count_28 : decode cX5_count 28 = .ok (.ireturn, 1) := by decide +kernel
theorem dX5_at_0 : decode cX5_at 0 = .ok (.aload_n 0, 1) := by decide +kernel
theorem dX5_at_1 : decode cX5_at 1 = .ok (.getfield 18, 3) := by decide +kernel
theorem dX5_at_4 : decode cX5_at 4 = .ok (.iload_n 1, 1) := by decide +kernel
theorem dX5_at_5 : decode cX5_at 5 = .ok (.invokevirtual 106, 3) := by decide +kernel
theorem dX5_at_8 : decode cX5_at 8 = .ok (.ireturn, 1) := by decide +kernel
theorem dX5_entry_0 : decode cX5_entry 0 = .ok (.iload_n 1, 1) := by decide +kernel
theorem dX5_entry_1 : decode cX5_entry 1 = .ok (.ifCond .ne 15, 3) := by decide +kernel
theorem dX5_entry_4 : decode cX5_entry 4 = .ok (.aload_n 0, 1) := by decide +kernel
theorem dX5_entry_5 : decode cX5_entry 5 = .ok (.getfield 24, 3) := by decide +kernel
theorem dX5_entry_8 : decode cX5_entry 8 = .ok (.getfield 146, 3) := by decide +kernel
theorem dX5_entry_11 : decode cX5_entry 11 = .ok (.iload_n 2, 1) := by decide +kernel
theorem dX5_entry_12 : decode cX5_entry 12 = .ok (.invokevirtual 106, 3) := by decide +kernel
theorem dX5_entry_15 : decode cX5_entry 15 = .ok (.ireturn, 1) := by decide +kernel
theorem dX5_entry_16 : decode cX5_entry 16 = .ok (.iload_n 1, 1) := by decide +kernel
theorem dX5_entry_17 : decode cX5_entry 17 = .ok (.iconst 1, 1) := by decide +kernel
theorem dX5_entry_18 : decode cX5_entry 18 = .ok (.if_icmp .ne 17, 3) := by decide +kernel
theorem dX5_entry_21 : decode cX5_entry 21 = .ok (.aload_n 0, 1) := by decide +kernel
theorem dX5_entry_22 : decode cX5_entry 22 = .ok (.getfield 24, 3) := by decide +kernel
theorem dX5_entry_25 : decode cX5_entry 25 = .ok (.getfield 149, 3) := by decide +kernel
theorem dX5_entry_28 : decode cX5_entry 28 = .ok (.iload_n 2, 1) := by decide +kernel
theorem dX5_entry_29 : decode cX5_entry 29 = .ok (.invokevirtual 106, 3) := by decide +kernel
theorem dX5_entry_32 : decode cX5_entry 32 = .ok (.goto 4, 3) := by decide +kernel
theorem dX5_entry_35 : decode cX5_entry 35 = .ok (.iconst (-1), 1) := by decide +kernel
theorem dX5_entry_36 : decode cX5_entry 36 = .ok (.ireturn, 1) := by decide +kernel
theorem dX5_keep_0 : decode cX5_keep 0 = .ok (.aload_n 0, 1) := by decide +kernel
theorem dX5_keep_1 : decode cX5_keep 1 = .ok (.getfield 14, 3) := by decide +kernel
theorem dX5_keep_4 : decode cX5_keep 4 = .ok (.aload_n 0, 1) := by decide +kernel
theorem dX5_keep_5 : decode cX5_keep 5 = .ok (.getfield 18, 3) := by decide +kernel
theorem dX5_keep_8 : decode cX5_keep 8 = .ok (.invokevirtual 90, 3) := by decide +kernel
theorem dX5_keep_11 : decode cX5_keep 11 = .ok (.aload_n 0, 1) := by decide +kernel
theorem dX5_keep_12 : decode cX5_keep 12 = .ok (.getfield 14, 3) := by decide +kernel
theorem dX5_keep_15 : decode cX5_keep 15 = .ok (.getfield 28, 3) := by decide +kernel
theorem dX5_keep_18 : decode cX5_keep 18 = .ok (.ireturn, 1) := by decide +kernel
theorem dX5_isObject_0 : decode cX5_isObject 0 = .ok (.iload_n 0, 1) := by decide +kernel
theorem dX5_isObject_1 : decode cX5_isObject 1 = .ok (.ifCond .lt 32, 3) := by decide +kernel
theorem dX5_isObject_4 : decode cX5_isObject 4 = .ok (.iload_n 0, 1) := by decide +kernel
theorem dX5_isObject_5 : decode cX5_isObject 5 = .ok (.ldc 152, 2) := by decide +kernel
theorem dX5_isObject_7 : decode cX5_isObject 7 = .ok (.if_icmp .gt 26, 3) := by decide +kernel
theorem dX5_isObject_10 : decode cX5_isObject 10 = .ok (.iload_n 1, 1) := by decide +kernel
theorem dX5_isObject_11 : decode cX5_isObject 11 = .ok (.ifCond .lt 22, 3) := by decide +kernel
theorem dX5_isObject_14 : decode cX5_isObject 14 = .ok (.iload_n 1, 1) := by decide +kernel
theorem dX5_isObject_15 : decode cX5_isObject 15 = .ok (.ldc 153, 2) := by decide +kernel
theorem dX5_isObject_17 : decode cX5_isObject 17 = .ok (.if_icmp .gt 16, 3) := by decide +kernel
theorem dX5_isObject_20 : decode cX5_isObject 20 = .ok (.iload_n 2, 1) := by decide +kernel
theorem dX5_isObject_21 : decode cX5_isObject 21 = .ok (.ifCond .lt 12, 3) := by decide +kernel
theorem dX5_isObject_24 : decode cX5_isObject 24 = .ok (.iload_n 2, 1) := by decide +kernel
theorem dX5_isObject_25 : decode cX5_isObject 25 = .ok (.iconst 2, 1) := by decide +kernel
theorem dX5_isObject_26 : decode cX5_isObject 26 = .ok (.if_icmp .gt 7, 3) := by decide +kernel
theorem dX5_isObject_29 : decode cX5_isObject 29 = .ok (.iconst 1, 1) := by decide +kernel
theorem dX5_isObject_30 : decode cX5_isObject 30 = .ok (.goto 4, 3) := by decide +kernel
theorem dX5_isObject_33 : decode cX5_isObject 33 = .ok (.iconst 0, 1) := by decide +kernel
theorem dX5_isObject_34 : decode cX5_isObject 34 = .ok (.ireturn, 1) := by decide +kernel
theorem dX5_streamOrCopy_0 : decode cX5_streamOrCopy 0 = .ok (.aload_n 0, 1) := by decide +kernel
theorem dX5_streamOrCopy_1 : decode cX5_streamOrCopy 1 = .ok (.getfield 18, 3) := by decide +kernel
theorem dX5_streamOrCopy_4 : decode cX5_streamOrCopy 4 = .ok (.aload_n 0, 1) := by decide +kernel
theorem dX5_streamOrCopy_5 : decode cX5_streamOrCopy 5 = .ok (.getfield 14, 3) := by decide +kernel
theorem dX5_streamOrCopy_8 : decode cX5_streamOrCopy 8 = .ok (.invokevirtual 90, 3) := by decide +kernel
theorem dX5_streamOrCopy_11 : decode cX5_streamOrCopy 11 = .ok (.iload_n 3, 1) := by decide +kernel
theorem dX5_streamOrCopy_12 : decode cX5_streamOrCopy 12 = .ok (.iconst 1, 1) := by decide +kernel
theorem dX5_streamOrCopy_13 : decode cX5_streamOrCopy 13 = .ok (.if_icmp .ne 28, 3) := by decide +kernel
theorem dX5_streamOrCopy_16 : decode cX5_streamOrCopy 16 = .ok (.aload_n 0, 1) := by decide +kernel
theorem dX5_streamOrCopy_17 : decode cX5_streamOrCopy 17 = .ok (.getfield 24, 3) := by decide +kernel
theorem dX5_streamOrCopy_20 : decode cX5_streamOrCopy 20 = .ok (.getfield 154, 3) := by decide +kernel
theorem dX5_streamOrCopy_23 : decode cX5_streamOrCopy 23 = .ok (.aload_n 0, 1) := by decide +kernel
theorem dX5_streamOrCopy_24 : decode cX5_streamOrCopy 24 = .ok (.getfield 18, 3) := by decide +kernel
theorem dX5_streamOrCopy_27 : decode cX5_streamOrCopy 27 = .ok (.aload_n 0, 1) := by decide +kernel
theorem dX5_streamOrCopy_28 : decode cX5_streamOrCopy 28 = .ok (.getfield 24, 3) := by decide +kernel
theorem dX5_streamOrCopy_31 : decode cX5_streamOrCopy 31 = .ok (.iload_n 1, 1) := by decide +kernel
theorem dX5_streamOrCopy_32 : decode cX5_streamOrCopy 32 = .ok (.iload_n 2, 1) := by decide +kernel
theorem dX5_streamOrCopy_33 : decode cX5_streamOrCopy 33 = .ok (.iload_n 3, 1) := by decide +kernel
theorem dX5_streamOrCopy_34 : decode cX5_streamOrCopy 34 = .ok (.invokevirtual 158, 3) := by decide +kernel
theorem dX5_streamOrCopy_37 : decode cX5_streamOrCopy 37 = .ok (.iconst 0, 1) := by decide +kernel
theorem dX5_streamOrCopy_38 : decode cX5_streamOrCopy 38 = .ok (.invokevirtual 162, 3) := by decide +kernel
theorem dX5_streamOrCopy_41 : decode cX5_streamOrCopy 41 = .ok (.aload_n 0, 1) := by decide +kernel
theorem dX5_streamOrCopy_42 : decode cX5_streamOrCopy 42 = .ok (.getfield 18, 3) := by decide +kernel
theorem dX5_streamOrCopy_45 : decode cX5_streamOrCopy 45 = .ok (.getfield 28, 3) := by decide +kernel
theorem dX5_streamOrCopy_48 : decode cX5_streamOrCopy 48 = .ok (.ireturn, 1) := by decide +kernel
theorem dX5_undoBlocks_0 : decode cX5_undoBlocks 0 = .ok (.aload_n 0, 1) := by decide +kernel
theorem dX5_undoBlocks_1 : decode cX5_undoBlocks 1 = .ok (.getfield 14, 3) := by decide +kernel
theorem dX5_undoBlocks_4 : decode cX5_undoBlocks 4 = .ok (.getfield 28, 3) := by decide +kernel
theorem dX5_undoBlocks_7 : decode cX5_undoBlocks 7 = .ok (.istore_n 3, 1) := by decide +kernel
theorem dX5_undoBlocks_8 : decode cX5_undoBlocks 8 = .ok (.iload_n 3, 1) := by decide +kernel
theorem dX5_undoBlocks_9 : decode cX5_undoBlocks 9 = .ok (.bipush 16, 2) := by decide +kernel
theorem dX5_undoBlocks_11 : decode cX5_undoBlocks 11 = .ok (.irem, 1) := by decide +kernel
theorem dX5_undoBlocks_12 : decode cX5_undoBlocks 12 = .ok (.ifCond .ne 9, 3) := by decide +kernel
theorem dX5_undoBlocks_15 : decode cX5_undoBlocks 15 = .ok (.iload_n 3, 1) := by decide +kernel
theorem dX5_undoBlocks_16 : decode cX5_undoBlocks 16 = .ok (.bipush 32, 2) := by decide +kernel
theorem dX5_undoBlocks_18 : decode cX5_undoBlocks 18 = .ok (.if_icmp .ge 6, 3) := by decide +kernel
theorem dX5_undoBlocks_21 : decode cX5_undoBlocks 21 = .ok (.bipush (-2), 2) := by decide +kernel
theorem dX5_undoBlocks_23 : decode cX5_undoBlocks 23 = .ok (.ireturn, 1) := by decide +kernel
theorem dX5_undoBlocks_24 : decode cX5_undoBlocks 24 = .ok (.aload_n 0, 1) := by decide +kernel
theorem dX5_undoBlocks_25 : decode cX5_undoBlocks 25 = .ok (.getfield 24, 3) := by decide +kernel
theorem dX5_undoBlocks_28 : decode cX5_undoBlocks 28 = .ok (.getfield 168, 3) := by decide +kernel
theorem dX5_undoBlocks_31 : decode cX5_undoBlocks 31 = .ok (.astore 4, 2) := by decide +kernel
theorem dX5_undoBlocks_33 : decode cX5_undoBlocks 33 = .ok (.aload 4, 2) := by decide +kernel
theorem dX5_undoBlocks_35 : decode cX5_undoBlocks 35 = .ok (.aload_n 0, 1) := by decide +kernel
theorem dX5_undoBlocks_36 : decode cX5_undoBlocks 36 = .ok (.getfield 24, 3) := by decide +kernel
theorem dX5_undoBlocks_39 : decode cX5_undoBlocks 39 = .ok (.iload_n 1, 1) := by decide +kernel
theorem dX5_undoBlocks_40 : decode cX5_undoBlocks 40 = .ok (.iload_n 2, 1) := by decide +kernel
theorem dX5_undoBlocks_41 : decode cX5_undoBlocks 41 = .ok (.iconst 2, 1) := by decide +kernel
theorem dX5_undoBlocks_42 : decode cX5_undoBlocks 42 = .ok (.invokevirtual 158, 3) := by decide +kernel
theorem dX5_undoBlocks_45 : decode cX5_undoBlocks 45 = .ok (.invokevirtual 172, 3) := by decide +kernel
theorem dX5_undoBlocks_48 : decode cX5_undoBlocks 48 = .ok (.aload_n 0, 1) := by decide +kernel
theorem dX5_undoBlocks_49 : decode cX5_undoBlocks 49 = .ok (.aload 4, 2) := by decide +kernel
theorem dX5_undoBlocks_51 : decode cX5_undoBlocks 51 = .ok (.iload_n 3, 1) := by decide +kernel
theorem dX5_undoBlocks_52 : decode cX5_undoBlocks 52 = .ok (.bipush 16, 2) := by decide +kernel
theorem dX5_undoBlocks_54 : decode cX5_undoBlocks 54 = .ok (.isub, 1) := by decide +kernel
theorem dX5_undoBlocks_55 : decode cX5_undoBlocks 55 = .ok (.invokevirtual 177, 3) := by decide +kernel
theorem dX5_undoBlocks_58 : decode cX5_undoBlocks 58 = .ok (.aload 4, 2) := by decide +kernel
theorem dX5_undoBlocks_60 : decode cX5_undoBlocks 60 = .ok (.invokevirtual 181, 3) := by decide +kernel
theorem dX5_undoBlocks_63 : decode cX5_undoBlocks 63 = .ok (.istore 5, 2) := by decide +kernel
theorem dX5_undoBlocks_65 : decode cX5_undoBlocks 65 = .ok (.iload 5, 2) := by decide +kernel
theorem dX5_undoBlocks_67 : decode cX5_undoBlocks 67 = .ok (.ifCond .ne 6, 3) := by decide +kernel
theorem dX5_undoBlocks_70 : decode cX5_undoBlocks 70 = .ok (.bipush (-3), 2) := by decide +kernel
theorem dX5_undoBlocks_72 : decode cX5_undoBlocks 72 = .ok (.ireturn, 1) := by decide +kernel
theorem dX5_undoBlocks_73 : decode cX5_undoBlocks 73 = .ok (.bipush 16, 2) := by decide +kernel
theorem dX5_undoBlocks_75 : decode cX5_undoBlocks 75 = .ok (.istore 6, 2) := by decide +kernel
theorem dX5_undoBlocks_77 : decode cX5_undoBlocks 77 = .ok (.iload 6, 2) := by decide +kernel
theorem dX5_undoBlocks_79 : decode cX5_undoBlocks 79 = .ok (.iload_n 3, 1) := by decide +kernel
theorem dX5_undoBlocks_80 : decode cX5_undoBlocks 80 = .ok (.if_icmp .ge 31, 3) := by decide +kernel
theorem dX5_undoBlocks_83 : decode cX5_undoBlocks 83 = .ok (.aload_n 0, 1) := by decide +kernel
theorem dX5_undoBlocks_84 : decode cX5_undoBlocks 84 = .ok (.aload 4, 2) := by decide +kernel
theorem dX5_undoBlocks_86 : decode cX5_undoBlocks 86 = .ok (.iload 6, 2) := by decide +kernel
theorem dX5_undoBlocks_88 : decode cX5_undoBlocks 88 = .ok (.invokevirtual 177, 3) := by decide +kernel
theorem dX5_undoBlocks_91 : decode cX5_undoBlocks 91 = .ok (.aload 4, 2) := by decide +kernel
theorem dX5_undoBlocks_93 : decode cX5_undoBlocks 93 = .ok (.aload_n 0, 1) := by decide +kernel
theorem dX5_undoBlocks_94 : decode cX5_undoBlocks 94 = .ok (.getfield 18, 3) := by decide +kernel
theorem dX5_undoBlocks_97 : decode cX5_undoBlocks 97 = .ok (.iload 6, 2) := by decide +kernel
theorem dX5_undoBlocks_99 : decode cX5_undoBlocks 99 = .ok (.bipush 16, 2) := by decide +kernel
theorem dX5_undoBlocks_101 : decode cX5_undoBlocks 101 = .ok (.isub, 1) := by decide +kernel
theorem dX5_undoBlocks_102 : decode cX5_undoBlocks 102 = .ok (.invokevirtual 184, 3) := by decide +kernel
theorem dX5_undoBlocks_105 : decode cX5_undoBlocks 105 = .ok (.iinc 6 16, 3) := by decide +kernel
theorem dX5_undoBlocks_108 : decode cX5_undoBlocks 108 = .ok (.goto (-31), 3) := by decide +kernel
theorem dX5_undoBlocks_111 : decode cX5_undoBlocks 111 = .ok (.aload_n 0, 1) := by decide +kernel
theorem dX5_undoBlocks_112 : decode cX5_undoBlocks 112 = .ok (.getfield 18, 3) := by decide +kernel
theorem dX5_undoBlocks_115 : decode cX5_undoBlocks 115 = .ok (.iload_n 3, 1) := by decide +kernel
theorem dX5_undoBlocks_116 : decode cX5_undoBlocks 116 = .ok (.bipush 16, 2) := by decide +kernel
theorem dX5_undoBlocks_118 : decode cX5_undoBlocks 118 = .ok (.isub, 1) := by decide +kernel
theorem dX5_undoBlocks_119 : decode cX5_undoBlocks 119 = .ok (.iload 5, 2) := by decide +kernel
theorem dX5_undoBlocks_121 : decode cX5_undoBlocks 121 = .ok (.isub, 1) := by decide +kernel
theorem dX5_undoBlocks_122 : decode cX5_undoBlocks 122 = .ok (.putfield 28, 3) := by decide +kernel
theorem dX5_undoBlocks_125 : decode cX5_undoBlocks 125 = .ok (.aload_n 0, 1) := by decide +kernel
theorem dX5_undoBlocks_126 : decode cX5_undoBlocks 126 = .ok (.getfield 18, 3) := by decide +kernel
theorem dX5_undoBlocks_129 : decode cX5_undoBlocks 129 = .ok (.getfield 28, 3) := by decide +kernel
theorem dX5_undoBlocks_132 : decode cX5_undoBlocks 132 = .ok (.ireturn, 1) := by decide +kernel
theorem dX5_unchain_0 : decode cX5_unchain 0 = .ok (.aload_n 1, 1) := by decide +kernel
theorem dX5_unchain_1 : decode cX5_unchain 1 = .ok (.aload_n 0, 1) := by decide +kernel
theorem dX5_unchain_2 : decode cX5_unchain 2 = .ok (.getfield 14, 3) := by decide +kernel
theorem dX5_unchain_5 : decode cX5_unchain 5 = .ok (.iload_n 2, 1) := by decide +kernel
theorem dX5_unchain_6 : decode cX5_unchain 6 = .ok (.invokevirtual 188, 3) := by decide +kernel
theorem dX5_unchain_9 : decode cX5_unchain 9 = .ok (.aload_n 1, 1) := by decide +kernel
theorem dX5_unchain_10 : decode cX5_unchain 10 = .ok (.invokevirtual 191, 3) := by decide +kernel
theorem dX5_unchain_13 : decode cX5_unchain 13 = .ok (.aload_n 1, 1) := by decide +kernel
theorem dX5_unchain_14 : decode cX5_unchain 14 = .ok (.aload_n 0, 1) := by decide +kernel
theorem dX5_unchain_15 : decode cX5_unchain 15 = .ok (.getfield 14, 3) := by decide +kernel
theorem dX5_unchain_18 : decode cX5_unchain 18 = .ok (.iload_n 2, 1) := by decide +kernel
theorem dX5_unchain_19 : decode cX5_unchain 19 = .ok (.bipush 16, 2) := by decide +kernel
theorem dX5_unchain_21 : decode cX5_unchain 21 = .ok (.isub, 1) := by decide +kernel
theorem dX5_unchain_22 : decode cX5_unchain 22 = .ok (.invokevirtual 194, 3) := by decide +kernel
theorem dX5_unchain_25 : decode cX5_unchain 25 = .ok (.return_, 1) := by decide +kernel
theorem dX5_fillingBytes_0 : decode cX5_fillingBytes 0 = .ok (.bipush 16, 2) := by decide +kernel
theorem dX5_fillingBytes_2 : decode cX5_fillingBytes 2 = .ok (.aload_n 0, 1) := by decide +kernel
theorem dX5_fillingBytes_3 : decode cX5_fillingBytes 3 = .ok (.getfield 14, 3) := by decide +kernel
theorem dX5_fillingBytes_6 : decode cX5_fillingBytes 6 = .ok (.getfield 28, 3) := by decide +kernel
theorem dX5_fillingBytes_9 : decode cX5_fillingBytes 9 = .ok (.bipush 16, 2) := by decide +kernel
theorem dX5_fillingBytes_11 : decode cX5_fillingBytes 11 = .ok (.irem, 1) := by decide +kernel
theorem dX5_fillingBytes_12 : decode cX5_fillingBytes 12 = .ok (.isub, 1) := by decide +kernel
theorem dX5_fillingBytes_13 : decode cX5_fillingBytes 13 = .ok (.ireturn, 1) := by decide +kernel
theorem dX5_sealBlocks_0 : decode cX5_sealBlocks 0 = .ok (.aload_n 0, 1) := by decide +kernel
theorem dX5_sealBlocks_1 : decode cX5_sealBlocks 1 = .ok (.getfield 24, 3) := by decide +kernel
theorem dX5_sealBlocks_4 : decode cX5_sealBlocks 4 = .ok (.getfield 168, 3) := by decide +kernel
theorem dX5_sealBlocks_7 : decode cX5_sealBlocks 7 = .ok (.astore 5, 2) := by decide +kernel
theorem dX5_sealBlocks_9 : decode cX5_sealBlocks 9 = .ok (.aload 5, 2) := by decide +kernel
theorem dX5_sealBlocks_11 : decode cX5_sealBlocks 11 = .ok (.aload_n 0, 1) := by decide +kernel
theorem dX5_sealBlocks_12 : decode cX5_sealBlocks 12 = .ok (.getfield 24, 3) := by decide +kernel
theorem dX5_sealBlocks_15 : decode cX5_sealBlocks 15 = .ok (.iload_n 1, 1) := by decide +kernel
theorem dX5_sealBlocks_16 : decode cX5_sealBlocks 16 = .ok (.iload_n 2, 1) := by decide +kernel
theorem dX5_sealBlocks_17 : decode cX5_sealBlocks 17 = .ok (.iconst 2, 1) := by decide +kernel
theorem dX5_sealBlocks_18 : decode cX5_sealBlocks 18 = .ok (.invokevirtual 158, 3) := by decide +kernel
theorem dX5_sealBlocks_21 : decode cX5_sealBlocks 21 = .ok (.invokevirtual 172, 3) := by decide +kernel
theorem dX5_sealBlocks_24 : decode cX5_sealBlocks 24 = .ok (.aload_n 0, 1) := by decide +kernel
theorem dX5_sealBlocks_25 : decode cX5_sealBlocks 25 = .ok (.getfield 18, 3) := by decide +kernel
theorem dX5_sealBlocks_28 : decode cX5_sealBlocks 28 = .ok (.invokevirtual 76, 3) := by decide +kernel
theorem dX5_sealBlocks_31 : decode cX5_sealBlocks 31 = .ok (.aload_n 0, 1) := by decide +kernel
theorem dX5_sealBlocks_32 : decode cX5_sealBlocks 32 = .ok (.getfield 18, 3) := by decide +kernel
theorem dX5_sealBlocks_35 : decode cX5_sealBlocks 35 = .ok (.iload_n 3, 1) := by decide +kernel
theorem dX5_sealBlocks_36 : decode cX5_sealBlocks 36 = .ok (.invokevirtual 32, 3) := by decide +kernel
theorem dX5_sealBlocks_39 : decode cX5_sealBlocks 39 = .ok (.aload_n 0, 1) := by decide +kernel
theorem dX5_sealBlocks_40 : decode cX5_sealBlocks 40 = .ok (.getfield 18, 3) := by decide +kernel
theorem dX5_sealBlocks_43 : decode cX5_sealBlocks 43 = .ok (.iload 4, 2) := by decide +kernel
theorem dX5_sealBlocks_45 : decode cX5_sealBlocks 45 = .ok (.invokevirtual 32, 3) := by decide +kernel
theorem dX5_sealBlocks_48 : decode cX5_sealBlocks 48 = .ok (.aload_n 0, 1) := by decide +kernel
theorem dX5_sealBlocks_49 : decode cX5_sealBlocks 49 = .ok (.getfield 18, 3) := by decide +kernel
theorem dX5_sealBlocks_52 : decode cX5_sealBlocks 52 = .ok (.iload_n 3, 1) := by decide +kernel
theorem dX5_sealBlocks_53 : decode cX5_sealBlocks 53 = .ok (.iconst (-1), 1) := by decide +kernel
theorem dX5_sealBlocks_54 : decode cX5_sealBlocks 54 = .ok (.ixor, 1) := by decide +kernel
theorem dX5_sealBlocks_55 : decode cX5_sealBlocks 55 = .ok (.invokevirtual 32, 3) := by decide +kernel
theorem dX5_sealBlocks_58 : decode cX5_sealBlocks 58 = .ok (.aload_n 0, 1) := by decide +kernel
theorem dX5_sealBlocks_59 : decode cX5_sealBlocks 59 = .ok (.getfield 18, 3) := by decide +kernel
theorem dX5_sealBlocks_62 : decode cX5_sealBlocks 62 = .ok (.iload 4, 2) := by decide +kernel
theorem dX5_sealBlocks_64 : decode cX5_sealBlocks 64 = .ok (.iconst (-1), 1) := by decide +kernel
theorem dX5_sealBlocks_65 : decode cX5_sealBlocks 65 = .ok (.ixor, 1) := by decide +kernel
theorem dX5_sealBlocks_66 : decode cX5_sealBlocks 66 = .ok (.invokevirtual 32, 3) := by decide +kernel
theorem dX5_sealBlocks_69 : decode cX5_sealBlocks 69 = .ok (.aload_n 0, 1) := by decide +kernel
theorem dX5_sealBlocks_70 : decode cX5_sealBlocks 70 = .ok (.getfield 18, 3) := by decide +kernel
theorem dX5_sealBlocks_73 : decode cX5_sealBlocks 73 = .ok (.aload_n 0, 1) := by decide +kernel
theorem dX5_sealBlocks_74 : decode cX5_sealBlocks 74 = .ok (.getfield 14, 3) := by decide +kernel
theorem dX5_sealBlocks_77 : decode cX5_sealBlocks 77 = .ok (.invokevirtual 197, 3) := by decide +kernel
theorem dX5_sealBlocks_80 : decode cX5_sealBlocks 80 = .ok (.aload_n 0, 1) := by decide +kernel
theorem dX5_sealBlocks_81 : decode cX5_sealBlocks 81 = .ok (.invokevirtual 136, 3) := by decide +kernel
theorem dX5_sealBlocks_84 : decode cX5_sealBlocks 84 = .ok (.istore 6, 2) := by decide +kernel
theorem dX5_sealBlocks_86 : decode cX5_sealBlocks 86 = .ok (.aload_n 0, 1) := by decide +kernel
theorem dX5_sealBlocks_87 : decode cX5_sealBlocks 87 = .ok (.getfield 18, 3) := by decide +kernel
theorem dX5_sealBlocks_90 : decode cX5_sealBlocks 90 = .ok (.iload 6, 2) := by decide +kernel
theorem dX5_sealBlocks_92 : decode cX5_sealBlocks 92 = .ok (.iload 6, 2) := by decide +kernel
theorem dX5_sealBlocks_94 : decode cX5_sealBlocks 94 = .ok (.invokevirtual 200, 3) := by decide +kernel
theorem dX5_sealBlocks_97 : decode cX5_sealBlocks 97 = .ok (.bipush 16, 2) := by decide +kernel
theorem dX5_sealBlocks_99 : decode cX5_sealBlocks 99 = .ok (.istore 7, 2) := by decide +kernel
theorem dX5_sealBlocks_101 : decode cX5_sealBlocks 101 = .ok (.iload 7, 2) := by decide +kernel
theorem dX5_sealBlocks_103 : decode cX5_sealBlocks 103 = .ok (.aload_n 0, 1) := by decide +kernel
theorem dX5_sealBlocks_104 : decode cX5_sealBlocks 104 = .ok (.getfield 18, 3) := by decide +kernel
theorem dX5_sealBlocks_107 : decode cX5_sealBlocks 107 = .ok (.getfield 28, 3) := by decide +kernel
theorem dX5_sealBlocks_110 : decode cX5_sealBlocks 110 = .ok (.if_icmp .ge 50, 3) := by decide +kernel
theorem dX5_sealBlocks_113 : decode cX5_sealBlocks 113 = .ok (.aload 5, 2) := by decide +kernel
theorem dX5_sealBlocks_115 : decode cX5_sealBlocks 115 = .ok (.aload_n 0, 1) := by decide +kernel
theorem dX5_sealBlocks_116 : decode cX5_sealBlocks 116 = .ok (.getfield 18, 3) := by decide +kernel
theorem dX5_sealBlocks_119 : decode cX5_sealBlocks 119 = .ok (.iload 7, 2) := by decide +kernel
theorem dX5_sealBlocks_121 : decode cX5_sealBlocks 121 = .ok (.invokevirtual 188, 3) := by decide +kernel
theorem dX5_sealBlocks_124 : decode cX5_sealBlocks 124 = .ok (.aload 5, 2) := by decide +kernel
theorem dX5_sealBlocks_126 : decode cX5_sealBlocks 126 = .ok (.aload_n 0, 1) := by decide +kernel
theorem dX5_sealBlocks_127 : decode cX5_sealBlocks 127 = .ok (.getfield 18, 3) := by decide +kernel
theorem dX5_sealBlocks_130 : decode cX5_sealBlocks 130 = .ok (.iload 7, 2) := by decide +kernel
theorem dX5_sealBlocks_132 : decode cX5_sealBlocks 132 = .ok (.bipush 16, 2) := by decide +kernel
theorem dX5_sealBlocks_134 : decode cX5_sealBlocks 134 = .ok (.isub, 1) := by decide +kernel
theorem dX5_sealBlocks_135 : decode cX5_sealBlocks 135 = .ok (.invokevirtual 194, 3) := by decide +kernel
theorem dX5_sealBlocks_138 : decode cX5_sealBlocks 138 = .ok (.aload 5, 2) := by decide +kernel
theorem dX5_sealBlocks_140 : decode cX5_sealBlocks 140 = .ok (.invokevirtual 204, 3) := by decide +kernel
theorem dX5_sealBlocks_143 : decode cX5_sealBlocks 143 = .ok (.aload 5, 2) := by decide +kernel
theorem dX5_sealBlocks_145 : decode cX5_sealBlocks 145 = .ok (.aload_n 0, 1) := by decide +kernel
theorem dX5_sealBlocks_146 : decode cX5_sealBlocks 146 = .ok (.getfield 18, 3) := by decide +kernel
theorem dX5_sealBlocks_149 : decode cX5_sealBlocks 149 = .ok (.iload 7, 2) := by decide +kernel
theorem dX5_sealBlocks_151 : decode cX5_sealBlocks 151 = .ok (.invokevirtual 184, 3) := by decide +kernel
theorem dX5_sealBlocks_154 : decode cX5_sealBlocks 154 = .ok (.iinc 7 16, 3) := by decide +kernel
theorem dX5_sealBlocks_157 : decode cX5_sealBlocks 157 = .ok (.goto (-56), 3) := by decide +kernel
theorem dX5_sealBlocks_160 : decode cX5_sealBlocks 160 = .ok (.aload_n 0, 1) := by decide +kernel
theorem dX5_sealBlocks_161 : decode cX5_sealBlocks 161 = .ok (.getfield 18, 3) := by decide +kernel
theorem dX5_sealBlocks_164 : decode cX5_sealBlocks 164 = .ok (.getfield 28, 3) := by decide +kernel
theorem dX5_sealBlocks_167 : decode cX5_sealBlocks 167 = .ok (.ireturn, 1) := by decide +kernel
end
section
theorem dX6_init_0 : decode cX6_init 0 = .ok (.aload_n 0, 1) := by decide +kernel
theorem dX6_init_1 : decode cX6_init 1 = .ok (.invokespecial 1, 3) := by decide +kernel
theorem dX6_init_4 : decode cX6_init 4 = .ok (.aload_n 0, 1) := by decide +kernel
theorem dX6_init_5 : decode cX6_init 5 = .ok (.sipush 16384, 3) := by decide +kernel
theorem dX6_init_8 : decode cX6_init 8 = .ok (.newarray .int, 2) := by decide +kernel
theorem dX6_init_10 : decode cX6_init 10 = .ok (.putfield 7, 3) := by decide +kernel
theorem dX6_init_13 : decode cX6_init 13 = .ok (.aload_n 0, 1) := by decide +kernel
theorem dX6_init_14 : decode cX6_init 14 = .ok (.sipush 16384, 3) := by decide +kernel
theorem dX6_init_17 : decode cX6_init 17 = .ok (.newarray .int, 2) := by decide +kernel
theorem dX6_init_19 : decode cX6_init 19 = .ok (.putfield 13, 3) := by decide +kernel
theorem dX6_init_22 : decode cX6_init 22 = .ok (.aload_n 0, 1) := by decide +kernel
theorem dX6_init_23 : decode cX6_init 23 = .ok (.iconst 3, 1) := by decide +kernel
theorem dX6_init_24 : decode cX6_init 24 = .ok (.putfield 16, 3) := by decide +kernel
theorem dX6_init_27 : decode cX6_init 27 = .ok (.aload_n 0, 1) := by decide +kernel
theorem dX6_init_28 : decode cX6_init 28 = .ok (.bipush 16, 2) := by decide +kernel
theorem dX6_init_30 : decode cX6_init 30 = .ok (.putfield 20, 3) := by decide +kernel
theorem dX6_init_33 : decode cX6_init 33 = .ok (.aload_n 0, 1) := by decide +kernel
theorem dX6_init_34 : decode cX6_init 34 = .ok (.bipush (-4), 2) := by decide +kernel
theorem dX6_init_36 : decode cX6_init 36 = .ok (.putfield 23, 3) := by decide +kernel
theorem dX6_init_39 : decode cX6_init 39 = .ok (.aload_n 0, 1) := by decide +kernel
theorem dX6_init_40 : decode cX6_init 40 = .ok (.bipush 32, 2) := by decide +kernel
theorem dX6_init_42 : decode cX6_init 42 = .ok (.newarray .int, 2) := by decide +kernel
theorem dX6_init_44 : decode cX6_init 44 = .ok (.putfield 26, 3) := by decide +kernel
theorem dX6_init_47 : decode cX6_init 47 = .ok (.aload_n 0, 1) := by decide +kernel
theorem dX6_init_48 : decode cX6_init 48 = .ok (.bipush 32, 2) := by decide +kernel
theorem dX6_init_50 : decode cX6_init 50 = .ok (.newarray .int, 2) := by decide +kernel
theorem dX6_init_52 : decode cX6_init 52 = .ok (.putfield 29, 3) := by decide +kernel
theorem dX6_init_55 : decode cX6_init 55 = .ok (.aload_n 0, 1) := by decide +kernel
theorem dX6_init_56 : decode cX6_init 56 = .ok (.bipush 64, 2) := by decide +kernel
theorem dX6_init_58 : decode cX6_init 58 = .ok (.newarray .int, 2) := by decide +kernel
theorem dX6_init_60 : decode cX6_init 60 = .ok (.putfield 32, 3) := by decide +kernel
theorem dX6_init_63 : decode cX6_init 63 = .ok (.aload_n 0, 1) := by decide +kernel
theorem dX6_init_64 : decode cX6_init 64 = .ok (.bipush 64, 2) := by decide +kernel
theorem dX6_init_66 : decode cX6_init 66 = .ok (.newarray .int, 2) := by decide +kernel
theorem dX6_init_68 : decode cX6_init 68 = .ok (.putfield 35, 3) := by decide +kernel
theorem dX6_init_71 : decode cX6_init 71 = .ok (.aload_n 0, 1) := by decide +kernel
theorem dX6_init_72 : decode cX6_init 72 = .ok (.bipush 64, 2) := by decide +kernel
theorem dX6_init_74 : decode cX6_init 74 = .ok (.newarray .int, 2) := by decide +kernel
theorem dX6_init_76 : decode cX6_init 76 = .ok (.putfield 38, 3) := by decide +kernel
theorem dX6_init_79 : decode cX6_init 79 = .ok (.aload_n 0, 1) := by decide +kernel
theorem dX6_init_80 : decode cX6_init 80 = .ok (.bipush 16, 2) := by decide +kernel
theorem dX6_init_82 : decode cX6_init 82 = .ok (.newarray .int, 2) := by decide +kernel
theorem dX6_init_84 : decode cX6_init 84 = .ok (.putfield 41, 3) := by decide +kernel
theorem dX6_init_87 : decode cX6_init 87 = .ok (.aload_n 0, 1) := by decide +kernel
theorem dX6_init_88 : decode cX6_init 88 = .ok (.sipush 16512, 3) := by decide +kernel
theorem dX6_init_91 : decode cX6_init 91 = .ok (.newarray .int, 2) := by decide +kernel
theorem dX6_init_93 : decode cX6_init 93 = .ok (.putfield 44, 3) := by decide +kernel
theorem dX6_init_96 : decode cX6_init 96 = .ok (.aload_n 0, 1) := by decide +kernel
theorem dX6_init_97 : decode cX6_init 97 = .ok (.bipush 16, 2) := by decide +kernel
theorem dX6_init_99 : decode cX6_init 99 = .ok (.newarray .int, 2) := by decide +kernel
theorem dX6_init_101 : decode cX6_init 101 = .ok (.putfield 47, 3) := by decide +kernel
theorem dX6_init_104 : decode cX6_init 104 = .ok (.aload_n 0, 1) := by decide +kernel
theorem dX6_init_105 : decode cX6_init 105 = .ok (.iconst 4, 1) := by decide +kernel
theorem dX6_init_106 : decode cX6_init 106 = .ok (.newarray .int, 2) := by decide +kernel
theorem dX6_init_108 : decode cX6_init 108 = .ok (.putfield 50, 3) := by decide +kernel
theorem dX6_init_111 : decode cX6_init 111 = .ok (.aload_n 0, 1) := by decide +kernel
theorem dX6_init_112 : decode cX6_init 112 = .ok (.bipush 64, 2) := by decide +kernel
theorem dX6_init_114 : decode cX6_init 114 = .ok (.newarray .int, 2) := by decide +kernel
theorem dX6_init_116 : decode cX6_init 116 = .ok (.dup, 1) := by decide +kernel
theorem dX6_init_117 : decode cX6_init 117 = .ok (.iconst 0, 1) := by decide +kernel
theorem dX6_init_118 : decode cX6_init 118 = .ok (.ldc 53, 2) := by decide +kernel
theorem dX6_init_120 : decode cX6_init 120 = .ok (.iastore, 1) := by decide +kernel
theorem dX6_init_121 : decode cX6_init 121 = .ok (.dup, 1) := by decide +kernel
theorem dX6_init_122 : decode cX6_init 122 = .ok (.iconst 1, 1) := by decide +kernel
theorem dX6_init_123 : decode cX6_init 123 = .ok (.ldc 54, 2) := by decide +kernel
theorem dX6_init_125 : decode cX6_init 125 = .ok (.iastore, 1) := by decide +kernel
theorem dX6_init_126 : decode cX6_init 126 = .ok (.dup, 1) := by decide +kernel
theorem dX6_init_127 : decode cX6_init 127 = .ok (.iconst 2, 1) := by decide +kernel
theorem dX6_init_128 : decode cX6_init 128 = .ok (.ldc 55, 2) := by decide +kernel
theorem dX6_init_130 : decode cX6_init 130 = .ok (.iastore, 1) := by decide +kernel
theorem dX6_init_131 : decode cX6_init 131 = .ok (.dup, 1) := by decide +kernel
theorem dX6_init_132 : decode cX6_init 132 = .ok (.iconst 3, 1) := by decide +kernel
theorem dX6_init_133 : decode cX6_init 133 = .ok (.ldc 56, 2) := by decide +kernel
theorem dX6_init_135 : decode cX6_init 135 = .ok (.iastore, 1) := by decide +kernel
theorem dX6_init_136 : decode cX6_init 136 = .ok (.dup, 1) := by decide +kernel
theorem dX6_init_137 : decode cX6_init 137 = .ok (.iconst 4, 1) := by decide +kernel
theorem dX6_init_138 : decode cX6_init 138 = .ok (.ldc 57, 2) := by decide +kernel
theorem dX6_init_140 : decode cX6_init 140 = .ok (.iastore, 1) := by decide +kernel
theorem dX6_init_141 : decode cX6_init 141 = .ok (.dup, 1) := by decide +kernel
theorem dX6_init_142 : decode cX6_init 142 = .ok (.iconst 5, 1) := by decide +kernel
theorem dX6_init_143 : decode cX6_init 143 = .ok (.ldc 58, 2) := by decide +kernel
theorem dX6_init_145 : decode cX6_init 145 = .ok (.iastore, 1) := by decide +kernel
theorem dX6_init_146 : decode cX6_init 146 = .ok (.dup, 1) := by decide +kernel
theorem dX6_init_147 : decode cX6_init 147 = .ok (.bipush 6, 2) := by decide +kernel
theorem dX6_init_149 : decode cX6_init 149 = .ok (.ldc 59, 2) := by decide +kernel
theorem dX6_init_151 : decode cX6_init 151 = .ok (.iastore, 1) := by decide +kernel
theorem dX6_init_152 : decode cX6_init 152 = .ok (.dup, 1) := by decide +kernel
theorem dX6_init_153 : decode cX6_init 153 = .ok (.bipush 7, 2) := by decide +kernel
theorem dX6_init_155 : decode cX6_init 155 = .ok (.ldc 60, 2) := by decide +kernel
theorem dX6_init_157 : decode cX6_init 157 = .ok (.iastore, 1) := by decide +kernel
theorem dX6_init_158 : decode cX6_init 158 = .ok (.dup, 1) := by decide +kernel
theorem dX6_init_159 : decode cX6_init 159 = .ok (.bipush 8, 2) := by decide +kernel
theorem dX6_init_161 : decode cX6_init 161 = .ok (.ldc 61, 2) := by decide +kernel
theorem dX6_init_163 : decode cX6_init 163 = .ok (.iastore, 1) := by decide +kernel
theorem dX6_init_164 : decode cX6_init 164 = .ok (.dup, 1) := by decide +kernel
theorem dX6_init_165 : decode cX6_init 165 = .ok (.bipush 9, 2) := by decide +kernel
theorem dX6_init_167 : decode cX6_init 167 = .ok (.ldc 62, 2) := by decide +kernel
theorem dX6_init_169 : decode cX6_init 169 = .ok (.iastore, 1) := by decide +kernel
theorem dX6_init_170 : decode cX6_init 170 = .ok (.dup, 1) := by decide +kernel
theorem dX6_init_171 : decode cX6_init 171 = .ok (.bipush 10, 2) := by decide +kernel
theorem dX6_init_173 : decode cX6_init 173 = .ok (.ldc 63, 2) := by decide +kernel
theorem dX6_init_175 : decode cX6_init 175 = .ok (.iastore, 1) := by decide +kernel
theorem dX6_init_176 : decode cX6_init 176 = .ok (.dup, 1) := by decide +kernel
theorem dX6_init_177 : decode cX6_init 177 = .ok (.bipush 11, 2) := by decide +kernel
theorem dX6_init_179 : decode cX6_init 179 = .ok (.ldc 64, 2) := by decide +kernel
theorem dX6_init_181 : decode cX6_init 181 = .ok (.iastore, 1) := by decide +kernel
theorem dX6_init_182 : decode cX6_init 182 = .ok (.dup, 1) := by decide +kernel
theorem dX6_init_183 : decode cX6_init 183 = .ok (.bipush 12, 2) := by decide +kernel
theorem dX6_init_185 : decode cX6_init 185 = .ok (.ldc 65, 2) := by decide +kernel
theorem dX6_init_187 : decode cX6_init 187 = .ok (.iastore, 1) := by decide +kernel
theorem dX6_init_188 : decode cX6_init 188 = .ok (.dup, 1) := by decide +kernel
theorem dX6_init_189 : decode cX6_init 189 = .ok (.bipush 13, 2) := by decide +kernel
theorem dX6_init_191 : decode cX6_init 191 = .ok (.ldc 66, 2) := by decide +kernel
theorem dX6_init_193 : decode cX6_init 193 = .ok (.iastore, 1) := by decide +kernel
theorem dX6_init_194 : decode cX6_init 194 = .ok (.dup, 1) := by decide +kernel
theorem dX6_init_195 : decode cX6_init 195 = .ok (.bipush 14, 2) := by decide +kernel
theorem dX6_init_197 : decode cX6_init 197 = .ok (.ldc 67, 2) := by decide +kernel
theorem dX6_init_199 : decode cX6_init 199 = .ok (.iastore, 1) := by decide +kernel
theorem dX6_init_200 : decode cX6_init 200 = .ok (.dup, 1) := by decide +kernel
theorem dX6_init_201 : decode cX6_init 201 = .ok (.bipush 15, 2) := by decide +kernel
theorem dX6_init_203 : decode cX6_init 203 = .ok (.ldc 68, 2) := by decide +kernel
theorem dX6_init_205 : decode cX6_init 205 = .ok (.iastore, 1) := by decide +kernel
theorem dX6_init_206 : decode cX6_init 206 = .ok (.dup, 1) := by decide +kernel
theorem dX6_init_207 : decode cX6_init 207 = .ok (.bipush 16, 2) := by decide +kernel
theorem dX6_init_209 : decode cX6_init 209 = .ok (.ldc 69, 2) := by decide +kernel
theorem dX6_init_211 : decode cX6_init 211 = .ok (.iastore, 1) := by decide +kernel
theorem dX6_init_212 : decode cX6_init 212 = .ok (.dup, 1) := by decide +kernel
theorem dX6_init_213 : decode cX6_init 213 = .ok (.bipush 17, 2) := by decide +kernel
theorem dX6_init_215 : decode cX6_init 215 = .ok (.ldc 70, 2) := by decide +kernel
theorem dX6_init_217 : decode cX6_init 217 = .ok (.iastore, 1) := by decide +kernel
theorem dX6_init_218 : decode cX6_init 218 = .ok (.dup, 1) := by decide +kernel
theorem dX6_init_219 : decode cX6_init 219 = .ok (.bipush 18, 2) := by decide +kernel
theorem dX6_init_221 : decode cX6_init 221 = .ok (.ldc 71, 2) := by decide +kernel
theorem dX6_init_223 : decode cX6_init 223 = .ok (.iastore, 1) := by decide +kernel
theorem dX6_init_224 : decode cX6_init 224 = .ok (.dup, 1) := by decide +kernel
theorem dX6_init_225 : decode cX6_init 225 = .ok (.bipush 19, 2) := by decide +kernel
theorem dX6_init_227 : decode cX6_init 227 = .ok (.ldc 72, 2) := by decide +kernel
theorem dX6_init_229 : decode cX6_init 229 = .ok (.iastore, 1) := by decide +kernel
theorem dX6_init_230 : decode cX6_init 230 = .ok (.dup, 1) := by decide +kernel
theorem dX6_init_231 : decode cX6_init 231 = .ok (.bipush 20, 2) := by decide +kernel
theorem dX6_init_233 : decode cX6_init 233 = .ok (.ldc 73, 2) := by decide +kernel
theorem dX6_init_235 : decode cX6_init 235 = .ok (.iastore, 1) := by decide +kernel
theorem dX6_init_236 : decode cX6_init 236 = .ok (.dup, 1) := by decide +kernel
theorem dX6_init_237 : decode cX6_init 237 = .ok (.bipush 21, 2) := by decide +kernel
theorem dX6_init_239 : decode cX6_init 239 = .ok (.ldc 74, 2) := by decide +kernel
theorem dX6_init_241 : decode cX6_init 241 = .ok (.iastore, 1) := by decide +kernel
theorem dX6_init_242 : decode cX6_init 242 = .ok (.dup, 1) := by decide +kernel
theorem dX6_init_243 : decode cX6_init 243 = .ok (.bipush 22, 2) := by decide +kernel
theorem dX6_init_245 : decode cX6_init 245 = .ok (.ldc 75, 2) := by decide +kernel
theorem dX6_init_247 : decode cX6_init 247 = .ok (.iastore, 1) := by decide +kernel
theorem dX6_init_248 : decode cX6_init 248 = .ok (.dup, 1) := by decide +kernel
theorem dX6_init_249 : decode cX6_init 249 = .ok (.bipush 23, 2) := by decide +kernel
theorem dX6_init_251 : decode cX6_init 251 = .ok (.ldc 76, 2) := by decide +kernel
theorem dX6_init_253 : decode cX6_init 253 = .ok (.iastore, 1) := by decide +kernel
theorem dX6_init_254 : decode cX6_init 254 = .ok (.dup, 1) := by decide +kernel
theorem dX6_init_255 : decode cX6_init 255 = .ok (.bipush 24, 2) := by decide +kernel
theorem dX6_init_257 : decode cX6_init 257 = .ok (.ldc 77, 2) := by decide +kernel
theorem dX6_init_259 : decode cX6_init 259 = .ok (.iastore, 1) := by decide +kernel
theorem dX6_init_260 : decode cX6_init 260 = .ok (.dup, 1) := by decide +kernel
theorem dX6_init_261 : decode cX6_init 261 = .ok (.bipush 25, 2) := by decide +kernel
theorem dX6_init_263 : decode cX6_init 263 = .ok (.ldc 78, 2) := by decide +kernel
theorem dX6_init_265 : decode cX6_init 265 = .ok (.iastore, 1) := by decide +kernel
theorem dX6_init_266 : decode cX6_init 266 = .ok (.dup, 1) := by decide +kernel
theorem dX6_init_267 : decode cX6_init 267 = .ok (.bipush 26, 2) := by decide +kernel
theorem dX6_init_269 : decode cX6_init 269 = .ok (.ldc 79, 2) := by decide +kernel
theorem dX6_init_271 : decode cX6_init 271 = .ok (.iastore, 1) := by decide +kernel
theorem dX6_init_272 : decode cX6_init 272 = .ok (.dup, 1) := by decide +kernel
theorem dX6_init_273 : decode cX6_init 273 = .ok (.bipush 27, 2) := by decide +kernel
theorem dX6_init_275 : decode cX6_init 275 = .ok (.ldc 80, 2) := by decide +kernel
theorem dX6_init_277 : decode cX6_init 277 = .ok (.iastore, 1) := by decide +kernel
theorem dX6_init_278 : decode cX6_init 278 = .ok (.dup, 1) := by decide +kernel
theorem dX6_init_279 : decode cX6_init 279 = .ok (.bipush 28, 2) := by decide +kernel
theorem dX6_init_281 : decode cX6_init 281 = .ok (.ldc 81, 2) := by decide +kernel
theorem dX6_init_283 : decode cX6_init 283 = .ok (.iastore, 1) := by decide +kernel
theorem dX6_init_284 : decode cX6_init 284 = .ok (.dup, 1) := by decide +kernel
theorem dX6_init_285 : decode cX6_init 285 = .ok (.bipush 29, 2) := by decide +kernel
theorem dX6_init_287 : decode cX6_init 287 = .ok (.ldc 82, 2) := by decide +kernel
theorem dX6_init_289 : decode cX6_init 289 = .ok (.iastore, 1) := by decide +kernel
theorem dX6_init_290 : decode cX6_init 290 = .ok (.dup, 1) := by decide +kernel
theorem dX6_init_291 : decode cX6_init 291 = .ok (.bipush 30, 2) := by decide +kernel
theorem dX6_init_293 : decode cX6_init 293 = .ok (.ldc 83, 2) := by decide +kernel
theorem dX6_init_295 : decode cX6_init 295 = .ok (.iastore, 1) := by decide +kernel
theorem dX6_init_296 : decode cX6_init 296 = .ok (.dup, 1) := by decide +kernel
theorem dX6_init_297 : decode cX6_init 297 = .ok (.bipush 31, 2) := by decide +kernel
theorem dX6_init_299 : decode cX6_init 299 = .ok (.ldc 84, 2) := by decide +kernel
theorem dX6_init_301 : decode cX6_init 301 = .ok (.iastore, 1) := by decide +kernel
theorem dX6_init_302 : decode cX6_init 302 = .ok (.dup, 1) := by decide +kernel
theorem dX6_init_303 : decode cX6_init 303 = .ok (.bipush 32, 2) := by decide +kernel
theorem dX6_init_305 : decode cX6_init 305 = .ok (.ldc 85, 2) := by decide +kernel
theorem dX6_init_307 : decode cX6_init 307 = .ok (.iastore, 1) := by decide +kernel
theorem dX6_init_308 : decode cX6_init 308 = .ok (.dup, 1) := by decide +kernel
theorem dX6_init_309 : decode cX6_init 309 = .ok (.bipush 33, 2) := by decide +kernel
theorem dX6_init_311 : decode cX6_init 311 = .ok (.ldc 86, 2) := by decide +kernel
theorem dX6_init_313 : decode cX6_init 313 = .ok (.iastore, 1) := by decide +kernel
theorem dX6_init_314 : decode cX6_init 314 = .ok (.dup, 1) := by decide +kernel
theorem dX6_init_315 : decode cX6_init 315 = .ok (.bipush 34, 2) := by decide +kernel
theorem dX6_init_317 : decode cX6_init 317 = .ok (.ldc 87, 2) := by decide +kernel
theorem dX6_init_319 : decode cX6_init 319 = .ok (.iastore, 1) := by decide +kernel
theorem dX6_init_320 : decode cX6_init 320 = .ok (.dup, 1) := by decide +kernel
theorem dX6_init_321 : decode cX6_init 321 = .ok (.bipush 35, 2) := by decide +kernel
theorem dX6_init_323 : decode cX6_init 323 = .ok (.ldc 88, 2) := by decide +kernel
theorem dX6_init_325 : decode cX6_init 325 = .ok (.iastore, 1) := by decide +kernel
theorem dX6_init_326 : decode cX6_init 326 = .ok (.dup, 1) := by decide +kernel
theorem dX6_init_327 : decode cX6_init 327 = .ok (.bipush 36, 2) := by decide +kernel
theorem dX6_init_329 : decode cX6_init 329 = .ok (.ldc 89, 2) := by decide +kernel
theorem dX6_init_331 : decode cX6_init 331 = .ok (.iastore, 1) := by decide +kernel
theorem dX6_init_332 : decode cX6_init 332 = .ok (.dup, 1) := by decide +kernel
theorem dX6_init_333 : decode cX6_init 333 = .ok (.bipush 37, 2) := by decide +kernel
theorem dX6_init_335 : decode cX6_init 335 = .ok (.ldc 90, 2) := by decide +kernel
theorem dX6_init_337 : decode cX6_init 337 = .ok (.iastore, 1) := by decide +kernel
theorem dX6_init_338 : decode cX6_init 338 = .ok (.dup, 1) := by decide +kernel
theorem dX6_init_339 : decode cX6_init 339 = .ok (.bipush 38, 2) := by decide +kernel
theorem dX6_init_341 : decode cX6_init 341 = .ok (.ldc 91, 2) := by decide +kernel
theorem dX6_init_343 : decode cX6_init 343 = .ok (.iastore, 1) := by decide +kernel
theorem dX6_init_344 : decode cX6_init 344 = .ok (.dup, 1) := by decide +kernel
theorem dX6_init_345 : decode cX6_init 345 = .ok (.bipush 39, 2) := by decide +kernel
theorem dX6_init_347 : decode cX6_init 347 = .ok (.ldc 92, 2) := by decide +kernel
theorem dX6_init_349 : decode cX6_init 349 = .ok (.iastore, 1) := by decide +kernel
theorem dX6_init_350 : decode cX6_init 350 = .ok (.dup, 1) := by decide +kernel
theorem dX6_init_351 : decode cX6_init 351 = .ok (.bipush 40, 2) := by decide +kernel
theorem dX6_init_353 : decode cX6_init 353 = .ok (.ldc 93, 2) := by decide +kernel
theorem dX6_init_355 : decode cX6_init 355 = .ok (.iastore, 1) := by decide +kernel
theorem dX6_init_356 : decode cX6_init 356 = .ok (.dup, 1) := by decide +kernel
theorem dX6_init_357 : decode cX6_init 357 = .ok (.bipush 41, 2) := by decide +kernel
theorem dX6_init_359 : decode cX6_init 359 = .ok (.ldc 94, 2) := by decide +kernel
theorem dX6_init_361 : decode cX6_init 361 = .ok (.iastore, 1) := by decide +kernel
theorem dX6_init_362 : decode cX6_init 362 = .ok (.dup, 1) := by decide +kernel
theorem dX6_init_363 : decode cX6_init 363 = .ok (.bipush 42, 2) := by decide +kernel
theorem dX6_init_365 : decode cX6_init 365 = .ok (.ldc 95, 2) := by decide +kernel
theorem dX6_init_367 : decode cX6_init 367 = .ok (.iastore, 1) := by decide +kernel
theorem dX6_init_368 : decode cX6_init 368 = .ok (.dup, 1) := by decide +kernel
theorem dX6_init_369 : decode cX6_init 369 = .ok (.bipush 43, 2) := by decide +kernel
theorem dX6_init_371 : decode cX6_init 371 = .ok (.ldc 96, 2) := by decide +kernel
theorem dX6_init_373 : decode cX6_init 373 = .ok (.iastore, 1) := by decide +kernel
theorem dX6_init_374 : decode cX6_init 374 = .ok (.dup, 1) := by decide +kernel
theorem dX6_init_375 : decode cX6_init 375 = .ok (.bipush 44, 2) := by decide +kernel
theorem dX6_init_377 : decode cX6_init 377 = .ok (.ldc 97, 2) := by decide +kernel
theorem dX6_init_379 : decode cX6_init 379 = .ok (.iastore, 1) := by decide +kernel
theorem dX6_init_380 : decode cX6_init 380 = .ok (.dup, 1) := by decide +kernel
theorem dX6_init_381 : decode cX6_init 381 = .ok (.bipush 45, 2) := by decide +kernel
theorem dX6_init_383 : decode cX6_init 383 = .ok (.ldc 98, 2) := by decide +kernel
theorem dX6_init_385 : decode cX6_init 385 = .ok (.iastore, 1) := by decide +kernel
theorem dX6_init_386 : decode cX6_init 386 = .ok (.dup, 1) := by decide +kernel
theorem dX6_init_387 : decode cX6_init 387 = .ok (.bipush 46, 2) := by decide +kernel
theorem dX6_init_389 : decode cX6_init 389 = .ok (.ldc 99, 2) := by decide +kernel
theorem dX6_init_391 : decode cX6_init 391 = .ok (.iastore, 1) := by decide +kernel
theorem dX6_init_392 : decode cX6_init 392 = .ok (.dup, 1) := by decide +kernel
theorem dX6_init_393 : decode cX6_init 393 = .ok (.bipush 47, 2) := by decide +kernel
theorem dX6_init_395 : decode cX6_init 395 = .ok (.ldc 100, 2) := by decide +kernel
theorem dX6_init_397 : decode cX6_init 397 = .ok (.iastore, 1) := by decide +kernel
theorem dX6_init_398 : decode cX6_init 398 = .ok (.dup, 1) := by decide +kernel
theorem dX6_init_399 : decode cX6_init 399 = .ok (.bipush 48, 2) := by decide +kernel
theorem dX6_init_401 : decode cX6_init 401 = .ok (.ldc 101, 2) := by decide +kernel
theorem dX6_init_403 : decode cX6_init 403 = .ok (.iastore, 1) := by decide +kernel
theorem dX6_init_404 : decode cX6_init 404 = .ok (.dup, 1) := by decide +kernel
theorem dX6_init_405 : decode cX6_init 405 = .ok (.bipush 49, 2) := by decide +kernel
theorem dX6_init_407 : decode cX6_init 407 = .ok (.ldc 102, 2) := by decide +kernel
theorem dX6_init_409 : decode cX6_init 409 = .ok (.iastore, 1) := by decide +kernel
theorem dX6_init_410 : decode cX6_init 410 = .ok (.dup, 1) := by decide +kernel
theorem dX6_init_411 : decode cX6_init 411 = .ok (.bipush 50, 2) := by decide +kernel
theorem dX6_init_413 : decode cX6_init 413 = .ok (.ldc 103, 2) := by decide +kernel
theorem dX6_init_415 : decode cX6_init 415 = .ok (.iastore, 1) := by decide +kernel
theorem dX6_init_416 : decode cX6_init 416 = .ok (.dup, 1) := by decide +kernel
theorem dX6_init_417 : decode cX6_init 417 = .ok (.bipush 51, 2) := by decide +kernel
theorem dX6_init_419 : decode cX6_init 419 = .ok (.ldc 104, 2) := by decide +kernel
theorem dX6_init_421 : decode cX6_init 421 = .ok (.iastore, 1) := by decide +kernel
theorem dX6_init_422 : decode cX6_init 422 = .ok (.dup, 1) := by decide +kernel
theorem dX6_init_423 : decode cX6_init 423 = .ok (.bipush 52, 2) := by decide +kernel
theorem dX6_init_425 : decode cX6_init 425 = .ok (.ldc 105, 2) := by decide +kernel
theorem dX6_init_427 : decode cX6_init 427 = .ok (.iastore, 1) := by decide +kernel
theorem dX6_init_428 : decode cX6_init 428 = .ok (.dup, 1) := by decide +kernel
theorem dX6_init_429 : decode cX6_init 429 = .ok (.bipush 53, 2) := by decide +kernel
theorem dX6_init_431 : decode cX6_init 431 = .ok (.ldc 106, 2) := by decide +kernel
theorem dX6_init_433 : decode cX6_init 433 = .ok (.iastore, 1) := by decide +kernel
theorem dX6_init_434 : decode cX6_init 434 = .ok (.dup, 1) := by decide +kernel
theorem dX6_init_435 : decode cX6_init 435 = .ok (.bipush 54, 2) := by decide +kernel
theorem dX6_init_437 : decode cX6_init 437 = .ok (.ldc 107, 2) := by decide +kernel
theorem dX6_init_439 : decode cX6_init 439 = .ok (.iastore, 1) := by decide +kernel
theorem dX6_init_440 : decode cX6_init 440 = .ok (.dup, 1) := by decide +kernel
theorem dX6_init_441 : decode cX6_init 441 = .ok (.bipush 55, 2) := by decide +kernel
theorem dX6_init_443 : decode cX6_init 443 = .ok (.ldc 108, 2) := by decide +kernel
theorem dX6_init_445 : decode cX6_init 445 = .ok (.iastore, 1) := by decide +kernel
theorem dX6_init_446 : decode cX6_init 446 = .ok (.dup, 1) := by decide +kernel
theorem dX6_init_447 : decode cX6_init 447 = .ok (.bipush 56, 2) := by decide +kernel
theorem dX6_init_449 : decode cX6_init 449 = .ok (.ldc 109, 2) := by decide +kernel
theorem dX6_init_451 : decode cX6_init 451 = .ok (.iastore, 1) := by decide +kernel
theorem dX6_init_452 : decode cX6_init 452 = .ok (.dup, 1) := by decide +kernel
theorem dX6_init_453 : decode cX6_init 453 = .ok (.bipush 57, 2) := by decide +kernel
theorem dX6_init_455 : decode cX6_init 455 = .ok (.ldc 110, 2) := by decide +kernel
theorem dX6_init_457 : decode cX6_init 457 = .ok (.iastore, 1) := by decide +kernel
theorem dX6_init_458 : decode cX6_init 458 = .ok (.dup, 1) := by decide +kernel
theorem dX6_init_459 : decode cX6_init 459 = .ok (.bipush 58, 2) := by decide +kernel
theorem dX6_init_461 : decode cX6_init 461 = .ok (.ldc 111, 2) := by decide +kernel
theorem dX6_init_463 : decode cX6_init 463 = .ok (.iastore, 1) := by decide +kernel
theorem dX6_init_464 : decode cX6_init 464 = .ok (.dup, 1) := by decide +kernel
theorem dX6_init_465 : decode cX6_init 465 = .ok (.bipush 59, 2) := by decide +kernel
theorem dX6_init_467 : decode cX6_init 467 = .ok (.ldc 112, 2) := by decide +kernel
theorem dX6_init_469 : decode cX6_init 469 = .ok (.iastore, 1) := by decide +kernel
theorem dX6_init_470 : decode cX6_init 470 = .ok (.dup, 1) := by decide +kernel
theorem dX6_init_471 : decode cX6_init 471 = .ok (.bipush 60, 2) := by decide +kernel
theorem dX6_init_473 : decode cX6_init 473 = .ok (.ldc 113, 2) := by decide +kernel
theorem dX6_init_475 : decode cX6_init 475 = .ok (.iastore, 1) := by decide +kernel
theorem dX6_init_476 : decode cX6_init 476 = .ok (.dup, 1) := by decide +kernel
theorem dX6_init_477 : decode cX6_init 477 = .ok (.bipush 61, 2) := by decide +kernel
theorem dX6_init_479 : decode cX6_init 479 = .ok (.ldc 114, 2) := by decide +kernel
theorem dX6_init_481 : decode cX6_init 481 = .ok (.iastore, 1) := by decide +kernel
theorem dX6_init_482 : decode cX6_init 482 = .ok (.dup, 1) := by decide +kernel
theorem dX6_init_483 : decode cX6_init 483 = .ok (.bipush 62, 2) := by decide +kernel
theorem dX6_init_485 : decode cX6_init 485 = .ok (.ldc 115, 2) := by decide +kernel
theorem dX6_init_487 : decode cX6_init 487 = .ok (.iastore, 1) := by decide +kernel
theorem dX6_init_488 : decode cX6_init 488 = .ok (.dup, 1) := by decide +kernel
theorem dX6_init_489 : decode cX6_init 489 = .ok (.bipush 63, 2) := by decide +kernel
theorem dX6_init_491 : decode cX6_init 491 = .ok (.ldc 116, 2) := by decide +kernel
theorem dX6_init_493 : decode cX6_init 493 = .ok (.iastore, 1) := by decide +kernel
theorem dX6_init_494 : decode cX6_init 494 = .ok (.putfield 117, 3) := by decide +kernel
theorem dX6_init_497 : decode cX6_init 497 = .ok (.aload_n 0, 1) := by decide +kernel
theorem dX6_init_498 : decode cX6_init 498 = .ok (.bipush 16, 2) := by decide +kernel
theorem dX6_init_500 : decode cX6_init 500 = .ok (.newarray .int, 2) := by decide +kernel
theorem dX6_init_502 : decode cX6_init 502 = .ok (.dup, 1) := by decide +kernel
theorem dX6_init_503 : decode cX6_init 503 = .ok (.iconst 0, 1) := by decide +kernel
theorem dX6_init_504 : decode cX6_init 504 = .ok (.bipush 7, 2) := by decide +kernel
theorem dX6_init_506 : decode cX6_init 506 = .ok (.iastore, 1) := by decide +kernel
theorem dX6_init_507 : decode cX6_init 507 = .ok (.dup, 1) := by decide +kernel
theorem dX6_init_508 : decode cX6_init 508 = .ok (.iconst 1, 1) := by decide +kernel
theorem dX6_init_509 : decode cX6_init 509 = .ok (.bipush 12, 2) := by decide +kernel
theorem dX6_init_511 : decode cX6_init 511 = .ok (.iastore, 1) := by decide +kernel
theorem dX6_init_512 : decode cX6_init 512 = .ok (.dup, 1) := by decide +kernel
theorem dX6_init_513 : decode cX6_init 513 = .ok (.iconst 2, 1) := by decide +kernel
theorem dX6_init_514 : decode cX6_init 514 = .ok (.bipush 17, 2) := by decide +kernel
theorem dX6_init_516 : decode cX6_init 516 = .ok (.iastore, 1) := by decide +kernel
theorem dX6_init_517 : decode cX6_init 517 = .ok (.dup, 1) := by decide +kernel
theorem dX6_init_518 : decode cX6_init 518 = .ok (.iconst 3, 1) := by decide +kernel
theorem dX6_init_519 : decode cX6_init 519 = .ok (.bipush 22, 2) := by decide +kernel
theorem dX6_init_521 : decode cX6_init 521 = .ok (.iastore, 1) := by decide +kernel
theorem dX6_init_522 : decode cX6_init 522 = .ok (.dup, 1) := by decide +kernel
theorem dX6_init_523 : decode cX6_init 523 = .ok (.iconst 4, 1) := by decide +kernel
theorem dX6_init_524 : decode cX6_init 524 = .ok (.iconst 5, 1) := by decide +kernel
theorem dX6_init_525 : decode cX6_init 525 = .ok (.iastore, 1) := by decide +kernel
theorem dX6_init_526 : decode cX6_init 526 = .ok (.dup, 1) := by decide +kernel
theorem dX6_init_527 : decode cX6_init 527 = .ok (.iconst 5, 1) := by decide +kernel
theorem dX6_init_528 : decode cX6_init 528 = .ok (.bipush 9, 2) := by decide +kernel
theorem dX6_init_530 : decode cX6_init 530 = .ok (.iastore, 1) := by decide +kernel
theorem dX6_init_531 : decode cX6_init 531 = .ok (.dup, 1) := by decide +kernel
theorem dX6_init_532 : decode cX6_init 532 = .ok (.bipush 6, 2) := by decide +kernel
theorem dX6_init_534 : decode cX6_init 534 = .ok (.bipush 14, 2) := by decide +kernel
theorem dX6_init_536 : decode cX6_init 536 = .ok (.iastore, 1) := by decide +kernel
theorem dX6_init_537 : decode cX6_init 537 = .ok (.dup, 1) := by decide +kernel
theorem dX6_init_538 : decode cX6_init 538 = .ok (.bipush 7, 2) := by decide +kernel
theorem dX6_init_540 : decode cX6_init 540 = .ok (.bipush 20, 2) := by decide +kernel
theorem dX6_init_542 : decode cX6_init 542 = .ok (.iastore, 1) := by decide +kernel
theorem dX6_init_543 : decode cX6_init 543 = .ok (.dup, 1) := by decide +kernel
theorem dX6_init_544 : decode cX6_init 544 = .ok (.bipush 8, 2) := by decide +kernel
theorem dX6_init_546 : decode cX6_init 546 = .ok (.iconst 4, 1) := by decide +kernel
theorem dX6_init_547 : decode cX6_init 547 = .ok (.iastore, 1) := by decide +kernel
theorem dX6_init_548 : decode cX6_init 548 = .ok (.dup, 1) := by decide +kernel
theorem dX6_init_549 : decode cX6_init 549 = .ok (.bipush 9, 2) := by decide +kernel
theorem dX6_init_551 : decode cX6_init 551 = .ok (.bipush 11, 2) := by decide +kernel
theorem dX6_init_553 : decode cX6_init 553 = .ok (.iastore, 1) := by decide +kernel
theorem dX6_init_554 : decode cX6_init 554 = .ok (.dup, 1) := by decide +kernel
theorem dX6_init_555 : decode cX6_init 555 = .ok (.bipush 10, 2) := by decide +kernel
theorem dX6_init_557 : decode cX6_init 557 = .ok (.bipush 16, 2) := by decide +kernel
theorem dX6_init_559 : decode cX6_init 559 = .ok (.iastore, 1) := by decide +kernel
theorem dX6_init_560 : decode cX6_init 560 = .ok (.dup, 1) := by decide +kernel
theorem dX6_init_561 : decode cX6_init 561 = .ok (.bipush 11, 2) := by decide +kernel
theorem dX6_init_563 : decode cX6_init 563 = .ok (.bipush 23, 2) := by decide +kernel
theorem dX6_init_565 : decode cX6_init 565 = .ok (.iastore, 1) := by decide +kernel
theorem dX6_init_566 : decode cX6_init 566 = .ok (.dup, 1) := by decide +kernel
theorem dX6_init_567 : decode cX6_init 567 = .ok (.bipush 12, 2) := by decide +kernel
theorem dX6_init_569 : decode cX6_init 569 = .ok (.bipush 6, 2) := by decide +kernel
theorem dX6_init_571 : decode cX6_init 571 = .ok (.iastore, 1) := by decide +kernel
theorem dX6_init_572 : decode cX6_init 572 = .ok (.dup, 1) := by decide +kernel
theorem dX6_init_573 : decode cX6_init 573 = .ok (.bipush 13, 2) := by decide +kernel
theorem dX6_init_575 : decode cX6_init 575 = .ok (.bipush 10, 2) := by decide +kernel
theorem dX6_init_577 : decode cX6_init 577 = .ok (.iastore, 1) := by decide +kernel
theorem dX6_init_578 : decode cX6_init 578 = .ok (.dup, 1) := by decide +kernel
theorem dX6_init_579 : decode cX6_init 579 = .ok (.bipush 14, 2) := by decide +kernel
theorem dX6_init_581 : decode cX6_init 581 = .ok (.bipush 15, 2) := by decide +kernel
theorem dX6_init_583 : decode cX6_init 583 = .ok (.iastore, 1) := by decide +kernel
theorem dX6_init_584 : decode cX6_init 584 = .ok (.dup, 1) := by decide +kernel
theorem dX6_init_585 : decode cX6_init 585 = .ok (.bipush 15, 2) := by decide +kernel
theorem dX6_init_587 : decode cX6_init 587 = .ok (.bipush 21, 2) := by decide +kernel
theorem dX6_init_589 : decode cX6_init 589 = .ok (.iastore, 1) := by decide +kernel
theorem dX6_init_590 : decode cX6_init 590 = .ok (.putfield 120, 3) := by decide +kernel
theorem dX6_init_593 : decode cX6_init 593 = .ok (.aload_n 0, 1) := by decide +kernel
theorem dX6_init_594 : decode cX6_init 594 = .ok (.bipush 32, 2) := by decide +kernel
theorem dX6_init_596 : decode cX6_init 596 = .ok (.newarray .int, 2) := by decide +kernel
theorem dX6_init_598 : decode cX6_init 598 = .ok (.dup, 1) := by decide +kernel
theorem dX6_init_599 : decode cX6_init 599 = .ok (.iconst 0, 1) := by decide +kernel
theorem dX6_init_600 : decode cX6_init 600 = .ok (.bipush 40, 2) := by decide +kernel
theorem dX6_init_602 : decode cX6_init 602 = .ok (.iastore, 1) := by decide +kernel
theorem dX6_init_603 : decode cX6_init 603 = .ok (.dup, 1) := by decide +kernel
theorem dX6_init_604 : decode cX6_init 604 = .ok (.iconst 1, 1) := by decide +kernel
theorem dX6_init_605 : decode cX6_init 605 = .ok (.sipush 191, 3) := by decide +kernel
theorem dX6_init_608 : decode cX6_init 608 = .ok (.iastore, 1) := by decide +kernel
theorem dX6_init_609 : decode cX6_init 609 = .ok (.dup, 1) := by decide +kernel
theorem dX6_init_610 : decode cX6_init 610 = .ok (.iconst 2, 1) := by decide +kernel
theorem dX6_init_611 : decode cX6_init 611 = .ok (.bipush 78, 2) := by decide +kernel
theorem dX6_init_613 : decode cX6_init 613 = .ok (.iastore, 1) := by decide +kernel
theorem dX6_init_614 : decode cX6_init 614 = .ok (.dup, 1) := by decide +kernel
theorem dX6_init_615 : decode cX6_init 615 = .ok (.iconst 3, 1) := by decide +kernel
theorem dX6_init_616 : decode cX6_init 616 = .ok (.bipush 94, 2) := by decide +kernel
theorem dX6_init_618 : decode cX6_init 618 = .ok (.iastore, 1) := by decide +kernel
theorem dX6_init_619 : decode cX6_init 619 = .ok (.dup, 1) := by decide +kernel
theorem dX6_init_620 : decode cX6_init 620 = .ok (.iconst 4, 1) := by decide +kernel
theorem dX6_init_621 : decode cX6_init 621 = .ok (.bipush 78, 2) := by decide +kernel
theorem dX6_init_623 : decode cX6_init 623 = .ok (.iastore, 1) := by decide +kernel
theorem dX6_init_624 : decode cX6_init 624 = .ok (.dup, 1) := by decide +kernel
theorem dX6_init_625 : decode cX6_init 625 = .ok (.iconst 5, 1) := by decide +kernel
theorem dX6_init_626 : decode cX6_init 626 = .ok (.bipush 117, 2) := by decide +kernel
theorem dX6_init_628 : decode cX6_init 628 = .ok (.iastore, 1) := by decide +kernel
theorem dX6_init_629 : decode cX6_init 629 = .ok (.dup, 1) := by decide +kernel
theorem dX6_init_630 : decode cX6_init 630 = .ok (.bipush 6, 2) := by decide +kernel
theorem dX6_init_632 : decode cX6_init 632 = .ok (.sipush 138, 3) := by decide +kernel
theorem dX6_init_635 : decode cX6_init 635 = .ok (.iastore, 1) := by decide +kernel
theorem dX6_init_636 : decode cX6_init 636 = .ok (.dup, 1) := by decide +kernel
theorem dX6_init_637 : decode cX6_init 637 = .ok (.bipush 7, 2) := by decide +kernel
theorem dX6_init_639 : decode cX6_init 639 = .ok (.bipush 65, 2) := by decide +kernel
theorem dX6_init_641 : decode cX6_init 641 = .ok (.iastore, 1) := by decide +kernel
theorem dX6_init_642 : decode cX6_init 642 = .ok (.dup, 1) := by decide +kernel
theorem dX6_init_643 : decode cX6_init 643 = .ok (.bipush 8, 2) := by decide +kernel
theorem dX6_init_645 : decode cX6_init 645 = .ok (.bipush 100, 2) := by decide +kernel
theorem dX6_init_647 : decode cX6_init 647 = .ok (.iastore, 1) := by decide +kernel
theorem dX6_init_648 : decode cX6_init 648 = .ok (.dup, 1) := by decide +kernel
theorem dX6_init_649 : decode cX6_init 649 = .ok (.bipush 9, 2) := by decide +kernel
theorem dX6_init_651 : decode cX6_init 651 = .ok (.iconst 0, 1) := by decide +kernel
theorem dX6_init_652 : decode cX6_init 652 = .ok (.iastore, 1) := by decide +kernel
theorem dX6_init_653 : decode cX6_init 653 = .ok (.dup, 1) := by decide +kernel
theorem dX6_init_654 : decode cX6_init 654 = .ok (.bipush 10, 2) := by decide +kernel
theorem dX6_init_656 : decode cX6_init 656 = .ok (.bipush 78, 2) := by decide +kernel
theorem dX6_init_658 : decode cX6_init 658 = .ok (.iastore, 1) := by decide +kernel
theorem dX6_init_659 : decode cX6_init 659 = .ok (.dup, 1) := by decide +kernel
theorem dX6_init_660 : decode cX6_init 660 = .ok (.bipush 11, 2) := by decide +kernel
theorem dX6_init_662 : decode cX6_init 662 = .ok (.bipush 86, 2) := by decide +kernel
theorem dX6_init_664 : decode cX6_init 664 = .ok (.iastore, 1) := by decide +kernel
theorem dX6_init_665 : decode cX6_init 665 = .ok (.dup, 1) := by decide +kernel
theorem dX6_init_666 : decode cX6_init 666 = .ok (.bipush 12, 2) := by decide +kernel
theorem dX6_init_668 : decode cX6_init 668 = .ok (.sipush 255, 3) := by decide +kernel
theorem dX6_init_671 : decode cX6_init 671 = .ok (.iastore, 1) := by decide +kernel
theorem dX6_init_672 : decode cX6_init 672 = .ok (.dup, 1) := by decide +kernel
theorem dX6_init_673 : decode cX6_init 673 = .ok (.bipush 13, 2) := by decide +kernel
theorem dX6_init_675 : decode cX6_init 675 = .ok (.sipush 250, 3) := by decide +kernel
theorem dX6_init_678 : decode cX6_init 678 = .ok (.iastore, 1) := by decide +kernel
theorem dX6_init_679 : decode cX6_init 679 = .ok (.dup, 1) := by decide +kernel
theorem dX6_init_680 : decode cX6_init 680 = .ok (.bipush 14, 2) := by decide +kernel
theorem dX6_init_682 : decode cX6_init 682 = .ok (.iconst 1, 1) := by decide +kernel
theorem dX6_init_683 : decode cX6_init 683 = .ok (.iastore, 1) := by decide +kernel
theorem dX6_init_684 : decode cX6_init 684 = .ok (.dup, 1) := by decide +kernel
theorem dX6_init_685 : decode cX6_init 685 = .ok (.bipush 15, 2) := by decide +kernel
theorem dX6_init_687 : decode cX6_init 687 = .ok (.bipush 8, 2) := by decide +kernel
theorem dX6_init_689 : decode cX6_init 689 = .ok (.iastore, 1) := by decide +kernel
theorem dX6_init_690 : decode cX6_init 690 = .ok (.dup, 1) := by decide +kernel
theorem dX6_init_691 : decode cX6_init 691 = .ok (.bipush 16, 2) := by decide +kernel
theorem dX6_init_693 : decode cX6_init 693 = .ok (.bipush 46, 2) := by decide +kernel
theorem dX6_init_695 : decode cX6_init 695 = .ok (.iastore, 1) := by decide +kernel
theorem dX6_init_696 : decode cX6_init 696 = .ok (.dup, 1) := by decide +kernel
theorem dX6_init_697 : decode cX6_init 697 = .ok (.bipush 17, 2) := by decide +kernel
theorem dX6_init_699 : decode cX6_init 699 = .ok (.bipush 46, 2) := by decide +kernel
theorem dX6_init_701 : decode cX6_init 701 = .ok (.iastore, 1) := by decide +kernel
theorem dX6_init_702 : decode cX6_init 702 = .ok (.dup, 1) := by decide +kernel
theorem dX6_init_703 : decode cX6_init 703 = .ok (.bipush 18, 2) := by decide +kernel
theorem dX6_init_705 : decode cX6_init 705 = .ok (.iconst 0, 1) := by decide +kernel
theorem dX6_init_706 : decode cX6_init 706 = .ok (.iastore, 1) := by decide +kernel
theorem dX6_init_707 : decode cX6_init 707 = .ok (.dup, 1) := by decide +kernel
theorem dX6_init_708 : decode cX6_init 708 = .ok (.bipush 19, 2) := by decide +kernel
theorem dX6_init_710 : decode cX6_init 710 = .ok (.sipush 182, 3) := by decide +kernel
theorem dX6_init_713 : decode cX6_init 713 = .ok (.iastore, 1) := by decide +kernel
theorem dX6_init_714 : decode cX6_init 714 = .ok (.dup, 1) := by decide +kernel
theorem dX6_init_715 : decode cX6_init 715 = .ok (.bipush 20, 2) := by decide +kernel
theorem dX6_init_717 : decode cX6_init 717 = .ok (.sipush 208, 3) := by decide +kernel
theorem dX6_init_720 : decode cX6_init 720 = .ok (.iastore, 1) := by decide +kernel
theorem dX6_init_721 : decode cX6_init 721 = .ok (.dup, 1) := by decide +kernel
theorem dX6_init_722 : decode cX6_init 722 = .ok (.bipush 21, 2) := by decide +kernel
theorem dX6_init_724 : decode cX6_init 724 = .ok (.bipush 104, 2) := by decide +kernel
theorem dX6_init_726 : decode cX6_init 726 = .ok (.iastore, 1) := by decide +kernel
theorem dX6_init_727 : decode cX6_init 727 = .ok (.dup, 1) := by decide +kernel
theorem dX6_init_728 : decode cX6_init 728 = .ok (.bipush 22, 2) := by decide +kernel
theorem dX6_init_730 : decode cX6_init 730 = .ok (.bipush 62, 2) := by decide +kernel
theorem dX6_init_732 : decode cX6_init 732 = .ok (.iastore, 1) := by decide +kernel
theorem dX6_init_733 : decode cX6_init 733 = .ok (.dup, 1) := by decide +kernel
theorem dX6_init_734 : decode cX6_init 734 = .ok (.bipush 23, 2) := by decide +kernel
theorem dX6_init_736 : decode cX6_init 736 = .ok (.sipush 128, 3) := by decide +kernel
theorem dX6_init_739 : decode cX6_init 739 = .ok (.iastore, 1) := by decide +kernel
theorem dX6_init_740 : decode cX6_init 740 = .ok (.dup, 1) := by decide +kernel
theorem dX6_init_741 : decode cX6_init 741 = .ok (.bipush 24, 2) := by decide +kernel
theorem dX6_init_743 : decode cX6_init 743 = .ok (.bipush 47, 2) := by decide +kernel
theorem dX6_init_745 : decode cX6_init 745 = .ok (.iastore, 1) := by decide +kernel
theorem dX6_init_746 : decode cX6_init 746 = .ok (.dup, 1) := by decide +kernel
theorem dX6_init_747 : decode cX6_init 747 = .ok (.bipush 25, 2) := by decide +kernel
theorem dX6_init_749 : decode cX6_init 749 = .ok (.bipush 12, 2) := by decide +kernel
theorem dX6_init_751 : decode cX6_init 751 = .ok (.iastore, 1) := by decide +kernel
theorem dX6_init_752 : decode cX6_init 752 = .ok (.dup, 1) := by decide +kernel
theorem dX6_init_753 : decode cX6_init 753 = .ok (.bipush 26, 2) := by decide +kernel
theorem dX6_init_755 : decode cX6_init 755 = .ok (.sipush 169, 3) := by decide +kernel
theorem dX6_init_758 : decode cX6_init 758 = .ok (.iastore, 1) := by decide +kernel
theorem dX6_init_759 : decode cX6_init 759 = .ok (.dup, 1) := by decide +kernel
theorem dX6_init_760 : decode cX6_init 760 = .ok (.bipush 27, 2) := by decide +kernel
theorem dX6_init_762 : decode cX6_init 762 = .ok (.sipush 254, 3) := by decide +kernel
theorem dX6_init_765 : decode cX6_init 765 = .ok (.iastore, 1) := by decide +kernel
theorem dX6_init_766 : decode cX6_init 766 = .ok (.dup, 1) := by decide +kernel
theorem dX6_init_767 : decode cX6_init 767 = .ok (.bipush 28, 2) := by decide +kernel
theorem dX6_init_769 : decode cX6_init 769 = .ok (.bipush 100, 2) := by decide +kernel
theorem dX6_init_771 : decode cX6_init 771 = .ok (.iastore, 1) := by decide +kernel
theorem dX6_init_772 : decode cX6_init 772 = .ok (.dup, 1) := by decide +kernel
theorem dX6_init_773 : decode cX6_init 773 = .ok (.bipush 29, 2) := by decide +kernel
theorem dX6_init_775 : decode cX6_init 775 = .ok (.bipush 83, 2) := by decide +kernel
theorem dX6_init_777 : decode cX6_init 777 = .ok (.iastore, 1) := by decide +kernel
theorem dX6_init_778 : decode cX6_init 778 = .ok (.dup, 1) := by decide +kernel
theorem dX6_init_779 : decode cX6_init 779 = .ok (.bipush 30, 2) := by decide +kernel
theorem dX6_init_781 : decode cX6_init 781 = .ok (.bipush 105, 2) := by decide +kernel
theorem dX6_init_783 : decode cX6_init 783 = .ok (.iastore, 1) := by decide +kernel
theorem dX6_init_784 : decode cX6_init 784 = .ok (.dup, 1) := by decide +kernel
theorem dX6_init_785 : decode cX6_init 785 = .ok (.bipush 31, 2) := by decide +kernel
theorem dX6_init_787 : decode cX6_init 787 = .ok (.bipush 122, 2) := by decide +kernel
theorem dX6_init_789 : decode cX6_init 789 = .ok (.iastore, 1) := by decide +kernel
theorem dX6_init_790 : decode cX6_init 790 = .ok (.putfield 123, 3) := by decide +kernel
theorem dX6_init_793 : decode cX6_init 793 = .ok (.aload_n 0, 1) := by decide +kernel
theorem dX6_init_794 : decode cX6_init 794 = .ok (.bipush 16, 2) := by decide +kernel
theorem dX6_init_796 : decode cX6_init 796 = .ok (.newarray .int, 2) := by decide +kernel
theorem dX6_init_798 : decode cX6_init 798 = .ok (.putfield 126, 3) := by decide +kernel
theorem dX6_init_801 : decode cX6_init 801 = .ok (.aload_n 0, 1) := by decide +kernel
theorem dX6_init_802 : decode cX6_init 802 = .ok (.sipush 256, 3) := by decide +kernel
theorem dX6_init_805 : decode cX6_init 805 = .ok (.newarray .int, 2) := by decide +kernel
theorem dX6_init_807 : decode cX6_init 807 = .ok (.putfield 129, 3) := by decide +kernel
theorem dX6_init_810 : decode cX6_init 810 = .ok (.aload_n 0, 1) := by decide +kernel
theorem dX6_init_811 : decode cX6_init 811 = .ok (.bipush 32, 2) := by decide +kernel
theorem dX6_init_813 : decode cX6_init 813 = .ok (.newarray .int, 2) := by decide +kernel
theorem dX6_init_815 : decode cX6_init 815 = .ok (.putfield 132, 3) := by decide +kernel
theorem dX6_init_818 : decode cX6_init 818 = .ok (.aload_n 0, 1) := by decide +kernel
theorem dX6_init_819 : decode cX6_init 819 = .ok (.bipush 32, 2) := by decide +kernel
theorem dX6_init_821 : decode cX6_init 821 = .ok (.newarray .int, 2) := by decide +kernel
theorem dX6_init_823 : decode cX6_init 823 = .ok (.putfield 135, 3) := by decide +kernel
theorem dX6_init_826 : decode cX6_init 826 = .ok (.aload_n 0, 1) := by decide +kernel
theorem dX6_init_827 : decode cX6_init 827 = .ok (.sipush 176, 3) := by decide +kernel
theorem dX6_init_830 : decode cX6_init 830 = .ok (.newarray .int, 2) := by decide +kernel
theorem dX6_init_832 : decode cX6_init 832 = .ok (.putfield 138, 3) := by decide +kernel
theorem dX6_init_835 : decode cX6_init 835 = .ok (.aload_n 0, 1) := by decide +kernel
theorem dX6_init_836 : decode cX6_init 836 = .ok (.bipush 16, 2) := by decide +kernel
theorem dX6_init_838 : decode cX6_init 838 = .ok (.newarray .int, 2) := by decide +kernel
theorem dX6_init_840 : decode cX6_init 840 = .ok (.putfield 141, 3) := by decide +kernel
theorem dX6_init_843 : decode cX6_init 843 = .ok (.aload_n 0, 1) := by decide +kernel
theorem dX6_init_844 : decode cX6_init 844 = .ok (.bipush 16, 2) := by decide +kernel
theorem dX6_init_846 : decode cX6_init 846 = .ok (.newarray .int, 2) := by decide +kernel
theorem dX6_init_848 : decode cX6_init 848 = .ok (.putfield 144, 3) := by decide +kernel
theorem dX6_init_851 : decode cX6_init 851 = .ok (.aload_n 0, 1) := by decide +kernel
theorem dX6_init_852 : decode cX6_init 852 = .ok (.sipush 256, 3) := by decide +kernel
theorem dX6_init_855 : decode cX6_init 855 = .ok (.newarray .int, 2) := by decide +kernel
theorem dX6_init_857 : decode cX6_init 857 = .ok (.putfield 147, 3) := by decide +kernel
theorem dX6_init_860 : decode cX6_init 860 = .ok (.aload_n 0, 1) := by decide +kernel
theorem dX6_init_861 : decode cX6_init 861 = .ok (.sipush 256, 3) := by decide +kernel
theorem dX6_init_864 : decode cX6_init 864 = .ok (.newarray .int, 2) := by decide +kernel
theorem dX6_init_866 : decode cX6_init 866 = .ok (.putfield 150, 3) := by decide +kernel
theorem dX6_init_869 : decode cX6_init 869 = .ok (.return_, 1) := by decide +kernel
theorem dX6_thrown_0 : decode cX6_thrown 0 = .ok (.aload_n 0, 1) := by decide +kernel
theorem dX6_thrown_1 : decode cX6_thrown 1 = .ok (.getfield 153, 3) := by decide +kernel
theorem dX6_thrown_4 : decode cX6_thrown 4 = .ok (.ireturn, 1) := by decide +kernel
theorem dX6_refused_0 : decode cX6_refused 0 = .ok (.aload_n 0, 1) := by decide +kernel
theorem dX6_refused_1 : decode cX6_refused 1 = .ok (.iload_n 1, 1) := by decide +kernel
theorem dX6_refused_2 : decode cX6_refused 2 = .ok (.putfield 153, 3) := by decide +kernel
theorem dX6_refused_5 : decode cX6_refused 5 = .ok (.iload_n 1, 1) := by decide +kernel
theorem dX6_refused_6 : decode cX6_refused 6 = .ok (.ifCond .le 7, 3) := by decide +kernel
theorem dX6_refused_9 : decode cX6_refused 9 = .ok (.iconst 1, 1) := by decide +kernel
theorem dX6_refused_10 : decode cX6_refused 10 = .ok (.goto 4, 3) := by decide +kernel
theorem dX6_refused_13 : decode cX6_refused 13 = .ok (.iconst 0, 1) := by decide +kernel
theorem dX6_refused_14 : decode cX6_refused 14 = .ok (.ireturn, 1) := by decide +kernel
theorem dX6_feed_0 : decode cX6_feed 0 = .ok (.aload_n 0, 1) := by decide +kernel
theorem dX6_feed_1 : decode cX6_feed 1 = .ok (.iconst 0, 1) := by decide +kernel
theorem dX6_feed_2 : decode cX6_feed 2 = .ok (.putfield 153, 3) := by decide +kernel
theorem dX6_feed_5 : decode cX6_feed 5 = .ok (.aload_n 0, 1) := by decide +kernel
theorem dX6_feed_6 : decode cX6_feed 6 = .ok (.getfield 156, 3) := by decide +kernel
theorem dX6_feed_9 : decode cX6_feed 9 = .ok (.bipush 20, 2) := by decide +kernel
theorem dX6_feed_11 : decode cX6_feed 11 = .ok (.iadd, 1) := by decide +kernel
theorem dX6_feed_12 : decode cX6_feed 12 = .ok (.sipush 16384, 3) := by decide +kernel
theorem dX6_feed_15 : decode cX6_feed 15 = .ok (.if_icmp .le 5, 3) := by decide +kernel
theorem dX6_feed_18 : decode cX6_feed 18 = .ok (.iconst (-1), 1) := by decide +kernel
theorem dX6_feed_19 : decode cX6_feed 19 = .ok (.ireturn, 1) := by decide +kernel
theorem dX6_feed_20 : decode cX6_feed 20 = .ok (.iconst 0, 1) := by decide +kernel
theorem dX6_feed_21 : decode cX6_feed 21 = .ok (.istore 6, 2) := by decide +kernel
theorem dX6_feed_23 : decode cX6_feed 23 = .ok (.iload 6, 2) := by decide +kernel
theorem dX6_feed_25 : decode cX6_feed 25 = .ok (.bipush 20, 2) := by decide +kernel
theorem dX6_feed_27 : decode cX6_feed 27 = .ok (.if_icmp .ge 93, 3) := by decide +kernel
theorem dX6_feed_30 : decode cX6_feed 30 = .ok (.iload 6, 2) := by decide +kernel
theorem dX6_feed_32 : decode cX6_feed 32 = .ok (.iconst 4, 1) := by decide +kernel
theorem dX6_feed_33 : decode cX6_feed 33 = .ok (.if_icmp .ge 7, 3) := by decide +kernel
theorem dX6_feed_36 : decode cX6_feed 36 = .ok (.iload_n 1, 1) := by decide +kernel
theorem dX6_feed_37 : decode cX6_feed 37 = .ok (.goto 39, 3) := by decide +kernel
theorem dX6_feed_40 : decode cX6_feed 40 = .ok (.iload 6, 2) := by decide +kernel
theorem dX6_feed_42 : decode cX6_feed 42 = .ok (.bipush 8, 2) := by decide +kernel
theorem dX6_feed_44 : decode cX6_feed 44 = .ok (.if_icmp .ge 7, 3) := by decide +kernel
theorem dX6_feed_47 : decode cX6_feed 47 = .ok (.iload_n 2, 1) := by decide +kernel
theorem dX6_feed_48 : decode cX6_feed 48 = .ok (.goto 28, 3) := by decide +kernel
theorem dX6_feed_51 : decode cX6_feed 51 = .ok (.iload 6, 2) := by decide +kernel
theorem dX6_feed_53 : decode cX6_feed 53 = .ok (.bipush 12, 2) := by decide +kernel
theorem dX6_feed_55 : decode cX6_feed 55 = .ok (.if_icmp .ge 7, 3) := by decide +kernel
theorem dX6_feed_58 : decode cX6_feed 58 = .ok (.iload_n 3, 1) := by decide +kernel
theorem dX6_feed_59 : decode cX6_feed 59 = .ok (.goto 17, 3) := by decide +kernel
theorem dX6_feed_62 : decode cX6_feed 62 = .ok (.iload 6, 2) := by decide +kernel
theorem dX6_feed_64 : decode cX6_feed 64 = .ok (.bipush 16, 2) := by decide +kernel
theorem dX6_feed_66 : decode cX6_feed 66 = .ok (.if_icmp .ge 8, 3) := by decide +kernel
theorem dX6_feed_69 : decode cX6_feed 69 = .ok (.iload 4, 2) := by decide +kernel
theorem dX6_feed_71 : decode cX6_feed 71 = .ok (.goto 5, 3) := by decide +kernel
theorem dX6_feed_74 : decode cX6_feed 74 = .ok (.iload 5, 2) := by decide +kernel
theorem dX6_feed_76 : decode cX6_feed 76 = .ok (.istore 7, 2) := by decide +kernel
theorem dX6_feed_78 : decode cX6_feed 78 = .ok (.aload_n 0, 1) := by decide +kernel
theorem dX6_feed_79 : decode cX6_feed 79 = .ok (.getfield 7, 3) := by decide +kernel
theorem dX6_feed_82 : decode cX6_feed 82 = .ok (.aload_n 0, 1) := by decide +kernel
theorem dX6_feed_83 : decode cX6_feed 83 = .ok (.getfield 156, 3) := by decide +kernel
theorem dX6_feed_86 : decode cX6_feed 86 = .ok (.iload 7, 2) := by decide +kernel
theorem dX6_feed_88 : decode cX6_feed 88 = .ok (.bipush 24, 2) := by decide +kernel
theorem dX6_feed_90 : decode cX6_feed 90 = .ok (.bipush 8, 2) := by decide +kernel
theorem dX6_feed_92 : decode cX6_feed 92 = .ok (.iload 6, 2) := by decide +kernel
theorem dX6_feed_94 : decode cX6_feed 94 = .ok (.iconst 4, 1) := by decide +kernel
theorem dX6_feed_95 : decode cX6_feed 95 = .ok (.irem, 1) := by decide +kernel
theorem dX6_feed_96 : decode cX6_feed 96 = .ok (.imul, 1) := by decide +kernel
theorem dX6_feed_97 : decode cX6_feed 97 = .ok (.isub, 1) := by decide +kernel
theorem dX6_feed_98 : decode cX6_feed 98 = .ok (.ishr, 1) := by decide +kernel
theorem dX6_feed_99 : decode cX6_feed 99 = .ok (.sipush 255, 3) := by decide +kernel
theorem dX6_feed_102 : decode cX6_feed 102 = .ok (.iand, 1) := by decide +kernel
theorem dX6_feed_103 : decode cX6_feed 103 = .ok (.iastore, 1) := by decide +kernel
theorem dX6_feed_104 : decode cX6_feed 104 = .ok (.aload_n 0, 1) := by decide +kernel
theorem dX6_feed_105 : decode cX6_feed 105 = .ok (.dup, 1) := by decide +kernel
theorem dX6_feed_106 : decode cX6_feed 106 = .ok (.getfield 156, 3) := by decide +kernel
theorem dX6_feed_109 : decode cX6_feed 109 = .ok (.iconst 1, 1) := by decide +kernel
theorem dX6_feed_110 : decode cX6_feed 110 = .ok (.iadd, 1) := by decide +kernel
theorem dX6_feed_111 : decode cX6_feed 111 = .ok (.putfield 156, 3) := by decide +kernel
theorem dX6_feed_114 : decode cX6_feed 114 = .ok (.iinc 6 1, 3) := by decide +kernel
theorem dX6_feed_117 : decode cX6_feed 117 = .ok (.goto (-94), 3) := by decide +kernel
theorem dX6_feed_120 : decode cX6_feed 120 = .ok (.aload_n 0, 1) := by decide +kernel
theorem dX6_feed_121 : decode cX6_feed 121 = .ok (.getfield 156, 3) := by decide +kernel
theorem dX6_feed_124 : decode cX6_feed 124 = .ok (.ireturn, 1) := by decide +kernel
theorem dX6_put_0 : decode cX6_put 0 = .ok (.aload_n 0, 1) := by decide +kernel
theorem dX6_put_1 : decode cX6_put 1 = .ok (.iload_n 1, 1) := by decide +kernel
theorem dX6_put_2 : decode cX6_put 2 = .ok (.ifCond .lt 11, 3) := by decide +kernel
theorem dX6_put_5 : decode cX6_put 5 = .ok (.iload_n 1, 1) := by decide +kernel
theorem dX6_put_6 : decode cX6_put 6 = .ok (.aload_n 0, 1) := by decide +kernel
theorem dX6_put_7 : decode cX6_put 7 = .ok (.getfield 156, 3) := by decide +kernel
theorem dX6_put_10 : decode cX6_put 10 = .ok (.if_icmp .lt 7, 3) := by decide +kernel
theorem dX6_put_13 : decode cX6_put 13 = .ok (.iconst 1, 1) := by decide +kernel
theorem dX6_put_14 : decode cX6_put 14 = .ok (.goto 19, 3) := by decide +kernel
theorem dX6_put_17 : decode cX6_put 17 = .ok (.iload_n 2, 1) := by decide +kernel
theorem dX6_put_18 : decode cX6_put 18 = .ok (.ifCond .lt 10, 3) := by decide +kernel
theorem dX6_put_21 : decode cX6_put 21 = .ok (.iload_n 2, 1) := by decide +kernel
theorem dX6_put_22 : decode cX6_put 22 = .ok (.sipush 255, 3) := by decide +kernel
theorem dX6_put_25 : decode cX6_put 25 = .ok (.if_icmp .le 7, 3) := by decide +kernel
theorem dX6_put_28 : decode cX6_put 28 = .ok (.iconst 2, 1) := by decide +kernel
theorem dX6_put_29 : decode cX6_put 29 = .ok (.goto 4, 3) := by decide +kernel
theorem dX6_put_32 : decode cX6_put 32 = .ok (.iconst 0, 1) := by decide +kernel
theorem dX6_put_33 : decode cX6_put 33 = .ok (.invokevirtual 159, 3) := by decide +kernel
theorem dX6_put_36 : decode cX6_put 36 = .ok (.ifCond .eq 5, 3) := by decide +kernel
theorem dX6_put_39 : decode cX6_put 39 = .ok (.iconst 0, 1) := by decide +kernel
theorem dX6_put_40 : decode cX6_put 40 = .ok (.ireturn, 1) := by decide +kernel
theorem dX6_put_41 : decode cX6_put 41 = .ok (.aload_n 0, 1) := by decide +kernel
theorem dX6_put_42 : decode cX6_put 42 = .ok (.getfield 7, 3) := by decide +kernel
theorem dX6_put_45 : decode cX6_put 45 = .ok (.iload_n 1, 1) := by decide +kernel
theorem dX6_put_46 : decode cX6_put 46 = .ok (.iaload, 1) := by decide +kernel
theorem dX6_put_47 : decode cX6_put 47 = .ok (.istore_n 3, 1) := by decide +kernel
theorem dX6_put_48 : decode cX6_put 48 = .ok (.aload_n 0, 1) := by decide +kernel
theorem dX6_put_49 : decode cX6_put 49 = .ok (.getfield 7, 3) := by decide +kernel
theorem dX6_put_52 : decode cX6_put 52 = .ok (.iload_n 1, 1) := by decide +kernel
theorem dX6_put_53 : decode cX6_put 53 = .ok (.iload_n 2, 1) := by decide +kernel
theorem dX6_put_54 : decode cX6_put 54 = .ok (.iastore, 1) := by decide +kernel
theorem dX6_put_55 : decode cX6_put 55 = .ok (.iload_n 3, 1) := by decide +kernel
theorem dX6_put_56 : decode cX6_put 56 = .ok (.ireturn, 1) := by decide +kernel
theorem dX6_cut_0 : decode cX6_cut 0 = .ok (.aload_n 0, 1) := by decide +kernel
theorem dX6_cut_1 : decode cX6_cut 1 = .ok (.iload_n 1, 1) := by decide +kernel
theorem dX6_cut_2 : decode cX6_cut 2 = .ok (.ifCond .ge 7, 3) := by decide +kernel
theorem dX6_cut_5 : decode cX6_cut 5 = .ok (.iconst 1, 1) := by decide +kernel
theorem dX6_cut_6 : decode cX6_cut 6 = .ok (.goto 4, 3) := by decide +kernel
theorem dX6_cut_9 : decode cX6_cut 9 = .ok (.iconst 0, 1) := by decide +kernel
theorem dX6_cut_10 : decode cX6_cut 10 = .ok (.invokevirtual 159, 3) := by decide +kernel
theorem dX6_cut_13 : decode cX6_cut 13 = .ok (.ifCond .eq 5, 3) := by decide +kernel
theorem dX6_cut_16 : decode cX6_cut 16 = .ok (.iconst 0, 1) := by decide +kernel
theorem dX6_cut_17 : decode cX6_cut 17 = .ok (.ireturn, 1) := by decide +kernel
theorem dX6_cut_18 : decode cX6_cut 18 = .ok (.aload_n 0, 1) := by decide +kernel
theorem dX6_cut_19 : decode cX6_cut 19 = .ok (.getfield 156, 3) := by decide +kernel
theorem dX6_cut_22 : decode cX6_cut 22 = .ok (.iload_n 1, 1) := by decide +kernel
theorem dX6_cut_23 : decode cX6_cut 23 = .ok (.if_icmp .le 12, 3) := by decide +kernel
theorem dX6_cut_26 : decode cX6_cut 26 = .ok (.aload_n 0, 1) := by decide +kernel
theorem dX6_cut_27 : decode cX6_cut 27 = .ok (.getfield 156, 3) := by decide +kernel
theorem dX6_cut_30 : decode cX6_cut 30 = .ok (.iload_n 1, 1) := by decide +kernel
theorem dX6_cut_31 : decode cX6_cut 31 = .ok (.isub, 1) := by decide +kernel
theorem dX6_cut_32 : decode cX6_cut 32 = .ok (.goto 4, 3) := by decide +kernel
theorem dX6_cut_35 : decode cX6_cut 35 = .ok (.iconst 0, 1) := by decide +kernel
theorem dX6_cut_36 : decode cX6_cut 36 = .ok (.istore_n 2, 1) := by decide +kernel
theorem dX6_cut_37 : decode cX6_cut 37 = .ok (.aload_n 0, 1) := by decide +kernel
theorem dX6_cut_38 : decode cX6_cut 38 = .ok (.aload_n 0, 1) := by decide +kernel
theorem dX6_cut_39 : decode cX6_cut 39 = .ok (.getfield 156, 3) := by decide +kernel
theorem dX6_cut_42 : decode cX6_cut 42 = .ok (.iload_n 2, 1) := by decide +kernel
theorem dX6_cut_43 : decode cX6_cut 43 = .ok (.isub, 1) := by decide +kernel
theorem dX6_cut_44 : decode cX6_cut 44 = .ok (.putfield 156, 3) := by decide +kernel
theorem dX6_cut_47 : decode cX6_cut 47 = .ok (.iload_n 2, 1) := by decide +kernel
theorem dX6_cut_48 : decode cX6_cut 48 = .ok (.ireturn, 1) := by decide +kernel
theorem dX6_say_0 : decode cX6_say 0 = .ok (.aload_n 0, 1) := by decide +kernel
theorem dX6_say_1 : decode cX6_say 1 = .ok (.getfield 44, 3) := by decide +kernel
theorem dX6_say_4 : decode cX6_say 4 = .ok (.aload_n 0, 1) := by decide +kernel
theorem dX6_say_5 : decode cX6_say 5 = .ok (.getfield 163, 3) := by decide +kernel
theorem dX6_say_8 : decode cX6_say 8 = .ok (.iload_n 1, 1) := by decide +kernel
theorem dX6_say_9 : decode cX6_say 9 = .ok (.iastore, 1) := by decide +kernel
theorem dX6_say_10 : decode cX6_say 10 = .ok (.aload_n 0, 1) := by decide +kernel
theorem dX6_say_11 : decode cX6_say 11 = .ok (.dup, 1) := by decide +kernel
theorem dX6_say_12 : decode cX6_say 12 = .ok (.getfield 163, 3) := by decide +kernel
theorem dX6_say_15 : decode cX6_say 15 = .ok (.iconst 1, 1) := by decide +kernel
theorem dX6_say_16 : decode cX6_say 16 = .ok (.iadd, 1) := by decide +kernel
theorem dX6_say_17 : decode cX6_say 17 = .ok (.putfield 163, 3) := by decide +kernel
theorem dX6_say_20 : decode cX6_say 20 = .ok (.return_, 1) := by decide +kernel
theorem dX6_turned_0 : decode cX6_turned 0 = .ok (.iload_n 0, 1) := by decide +kernel
theorem dX6_turned_1 : decode cX6_turned 1 = .ok (.iload_n 1, 1) := by decide +kernel
theorem dX6_turned_2 : decode cX6_turned 2 = .ok (.ishl, 1) := by decide +kernel
theorem dX6_turned_3 : decode cX6_turned 3 = .ok (.iload_n 0, 1) := by decide +kernel
theorem dX6_turned_4 : decode cX6_turned 4 = .ok (.bipush 32, 2) := by decide +kernel
theorem dX6_turned_6 : decode cX6_turned 6 = .ok (.iload_n 1, 1) := by decide +kernel
theorem dX6_turned_7 : decode cX6_turned 7 = .ok (.isub, 1) := by decide +kernel
theorem dX6_turned_8 : decode cX6_turned 8 = .ok (.iushr, 1) := by decide +kernel
theorem dX6_turned_9 : decode cX6_turned 9 = .ok (.ior, 1) := by decide +kernel
theorem dX6_turned_10 : decode cX6_turned 10 = .ok (.ireturn, 1) := by decide +kernel
theorem dX6_word_0 : decode cX6_word 0 = .ok (.aload_n 0, 1) := by decide +kernel
theorem dX6_word_1 : decode cX6_word 1 = .ok (.getfield 44, 3) := by decide +kernel
theorem dX6_word_4 : decode cX6_word 4 = .ok (.iload_n 1, 1) := by decide +kernel
theorem dX6_word_5 : decode cX6_word 5 = .ok (.iaload, 1) := by decide +kernel
theorem dX6_word_6 : decode cX6_word 6 = .ok (.aload_n 0, 1) := by decide +kernel
theorem dX6_word_7 : decode cX6_word 7 = .ok (.getfield 44, 3) := by decide +kernel
theorem dX6_word_10 : decode cX6_word 10 = .ok (.iload_n 1, 1) := by decide +kernel
theorem dX6_word_11 : decode cX6_word 11 = .ok (.iconst 1, 1) := by decide +kernel
theorem dX6_word_12 : decode cX6_word 12 = .ok (.iadd, 1) := by decide +kernel
theorem dX6_word_13 : decode cX6_word 13 = .ok (.iaload, 1) := by decide +kernel
theorem dX6_word_14 : decode cX6_word 14 = .ok (.bipush 8, 2) := by decide +kernel
theorem dX6_word_16 : decode cX6_word 16 = .ok (.ishl, 1) := by decide +kernel
theorem dX6_word_17 : decode cX6_word 17 = .ok (.ior, 1) := by decide +kernel
theorem dX6_word_18 : decode cX6_word 18 = .ok (.aload_n 0, 1) := by decide +kernel
theorem dX6_word_19 : decode cX6_word 19 = .ok (.getfield 44, 3) := by decide +kernel
theorem dX6_word_22 : decode cX6_word 22 = .ok (.iload_n 1, 1) := by decide +kernel
theorem dX6_word_23 : decode cX6_word 23 = .ok (.iconst 2, 1) := by decide +kernel
theorem dX6_word_24 : decode cX6_word 24 = .ok (.iadd, 1) := by decide +kernel
theorem dX6_word_25 : decode cX6_word 25 = .ok (.iaload, 1) := by decide +kernel
theorem dX6_word_26 : decode cX6_word 26 = .ok (.bipush 16, 2) := by decide +kernel
theorem dX6_word_28 : decode cX6_word 28 = .ok (.ishl, 1) := by decide +kernel
theorem dX6_word_29 : decode cX6_word 29 = .ok (.ior, 1) := by decide +kernel
theorem dX6_word_30 : decode cX6_word 30 = .ok (.aload_n 0, 1) := by decide +kernel
theorem dX6_word_31 : decode cX6_word 31 = .ok (.getfield 44, 3) := by decide +kernel
theorem dX6_word_34 : decode cX6_word 34 = .ok (.iload_n 1, 1) := by decide +kernel
theorem dX6_word_35 : decode cX6_word 35 = .ok (.iconst 3, 1) := by decide +kernel
theorem dX6_word_36 : decode cX6_word 36 = .ok (.iadd, 1) := by decide +kernel
theorem dX6_word_37 : decode cX6_word 37 = .ok (.iaload, 1) := by decide +kernel
theorem dX6_word_38 : decode cX6_word 38 = .ok (.bipush 24, 2) := by decide +kernel
theorem dX6_word_40 : decode cX6_word 40 = .ok (.ishl, 1) := by decide +kernel
theorem dX6_word_41 : decode cX6_word 41 = .ok (.ior, 1) := by decide +kernel
theorem dX6_word_42 : decode cX6_word 42 = .ok (.ireturn, 1) := by decide +kernel
theorem dX6_digestBlock_0 : decode cX6_digestBlock 0 = .ok (.aload_n 0, 1) := by decide +kernel
theorem dX6_digestBlock_1 : decode cX6_digestBlock 1 = .ok (.getfield 50, 3) := by decide +kernel
theorem dX6_digestBlock_4 : decode cX6_digestBlock 4 = .ok (.iconst 0, 1) := by decide +kernel
theorem dX6_digestBlock_5 : decode cX6_digestBlock 5 = .ok (.iaload, 1) := by decide +kernel
theorem dX6_digestBlock_6 : decode cX6_digestBlock 6 = .ok (.istore_n 2, 1) := by decide +kernel
theorem dX6_digestBlock_7 : decode cX6_digestBlock 7 = .ok (.aload_n 0, 1) := by decide +kernel
theorem dX6_digestBlock_8 : decode cX6_digestBlock 8 = .ok (.getfield 50, 3) := by decide +kernel
theorem dX6_digestBlock_11 : decode cX6_digestBlock 11 = .ok (.iconst 1, 1) := by decide +kernel
theorem dX6_digestBlock_12 : decode cX6_digestBlock 12 = .ok (.iaload, 1) := by decide +kernel
theorem dX6_digestBlock_13 : decode cX6_digestBlock 13 = .ok (.istore_n 3, 1) := by decide +kernel
theorem dX6_digestBlock_14 : decode cX6_digestBlock 14 = .ok (.aload_n 0, 1) := by decide +kernel
theorem dX6_digestBlock_15 : decode cX6_digestBlock 15 = .ok (.getfield 50, 3) := by decide +kernel
theorem dX6_digestBlock_18 : decode cX6_digestBlock 18 = .ok (.iconst 2, 1) := by decide +kernel
theorem dX6_digestBlock_19 : decode cX6_digestBlock 19 = .ok (.iaload, 1) := by decide +kernel
theorem dX6_digestBlock_20 : decode cX6_digestBlock 20 = .ok (.istore 4, 2) := by decide +kernel
theorem dX6_digestBlock_22 : decode cX6_digestBlock 22 = .ok (.aload_n 0, 1) := by decide +kernel
theorem dX6_digestBlock_23 : decode cX6_digestBlock 23 = .ok (.getfield 50, 3) := by decide +kernel
theorem dX6_digestBlock_26 : decode cX6_digestBlock 26 = .ok (.iconst 3, 1) := by decide +kernel
theorem dX6_digestBlock_27 : decode cX6_digestBlock 27 = .ok (.iaload, 1) := by decide +kernel
theorem dX6_digestBlock_28 : decode cX6_digestBlock 28 = .ok (.istore 5, 2) := by decide +kernel
theorem dX6_digestBlock_30 : decode cX6_digestBlock 30 = .ok (.iconst 0, 1) := by decide +kernel
theorem dX6_digestBlock_31 : decode cX6_digestBlock 31 = .ok (.istore 6, 2) := by decide +kernel
theorem dX6_digestBlock_33 : decode cX6_digestBlock 33 = .ok (.iload 6, 2) := by decide +kernel
theorem dX6_digestBlock_35 : decode cX6_digestBlock 35 = .ok (.bipush 64, 2) := by decide +kernel
theorem dX6_digestBlock_37 : decode cX6_digestBlock 37 = .ok (.if_icmp .ge 196, 3) := by decide +kernel
theorem dX6_digestBlock_40 : decode cX6_digestBlock 40 = .ok (.iload 6, 2) := by decide +kernel
theorem dX6_digestBlock_42 : decode cX6_digestBlock 42 = .ok (.bipush 16, 2) := by decide +kernel
theorem dX6_digestBlock_44 : decode cX6_digestBlock 44 = .ok (.idiv, 1) := by decide +kernel
theorem dX6_digestBlock_45 : decode cX6_digestBlock 45 = .ok (.istore 7, 2) := by decide +kernel
theorem dX6_digestBlock_47 : decode cX6_digestBlock 47 = .ok (.iload 7, 2) := by decide +kernel
theorem dX6_digestBlock_49 : decode cX6_digestBlock 49 = .ok (.ifCond .ne 17, 3) := by decide +kernel
theorem dX6_digestBlock_52 : decode cX6_digestBlock 52 = .ok (.iload_n 3, 1) := by decide +kernel
theorem dX6_digestBlock_53 : decode cX6_digestBlock 53 = .ok (.iload 4, 2) := by decide +kernel
theorem dX6_digestBlock_55 : decode cX6_digestBlock 55 = .ok (.iand, 1) := by decide +kernel
theorem dX6_digestBlock_56 : decode cX6_digestBlock 56 = .ok (.iload_n 3, 1) := by decide +kernel
theorem dX6_digestBlock_57 : decode cX6_digestBlock 57 = .ok (.iconst (-1), 1) := by decide +kernel
theorem dX6_digestBlock_58 : decode cX6_digestBlock 58 = .ok (.ixor, 1) := by decide +kernel
theorem dX6_digestBlock_59 : decode cX6_digestBlock 59 = .ok (.iload 5, 2) := by decide +kernel
theorem dX6_digestBlock_61 : decode cX6_digestBlock 61 = .ok (.iand, 1) := by decide +kernel
theorem dX6_digestBlock_62 : decode cX6_digestBlock 62 = .ok (.ior, 1) := by decide +kernel
theorem dX6_digestBlock_63 : decode cX6_digestBlock 63 = .ok (.goto 49, 3) := by decide +kernel
theorem dX6_digestBlock_66 : decode cX6_digestBlock 66 = .ok (.iload 7, 2) := by decide +kernel
theorem dX6_digestBlock_68 : decode cX6_digestBlock 68 = .ok (.iconst 1, 1) := by decide +kernel
theorem dX6_digestBlock_69 : decode cX6_digestBlock 69 = .ok (.if_icmp .ne 18, 3) := by decide +kernel
theorem dX6_digestBlock_72 : decode cX6_digestBlock 72 = .ok (.iload 5, 2) := by decide +kernel
theorem dX6_digestBlock_74 : decode cX6_digestBlock 74 = .ok (.iload_n 3, 1) := by decide +kernel
theorem dX6_digestBlock_75 : decode cX6_digestBlock 75 = .ok (.iand, 1) := by decide +kernel
theorem dX6_digestBlock_76 : decode cX6_digestBlock 76 = .ok (.iload 5, 2) := by decide +kernel
theorem dX6_digestBlock_78 : decode cX6_digestBlock 78 = .ok (.iconst (-1), 1) := by decide +kernel
theorem dX6_digestBlock_79 : decode cX6_digestBlock 79 = .ok (.ixor, 1) := by decide +kernel
theorem dX6_digestBlock_80 : decode cX6_digestBlock 80 = .ok (.iload 4, 2) := by decide +kernel
theorem dX6_digestBlock_82 : decode cX6_digestBlock 82 = .ok (.iand, 1) := by decide +kernel
theorem dX6_digestBlock_83 : decode cX6_digestBlock 83 = .ok (.ior, 1) := by decide +kernel
theorem dX6_digestBlock_84 : decode cX6_digestBlock 84 = .ok (.goto 28, 3) := by decide +kernel
theorem dX6_digestBlock_87 : decode cX6_digestBlock 87 = .ok (.iload 7, 2) := by decide +kernel
theorem dX6_digestBlock_89 : decode cX6_digestBlock 89 = .ok (.iconst 2, 1) := by decide +kernel
theorem dX6_digestBlock_90 : decode cX6_digestBlock 90 = .ok (.if_icmp .ne 13, 3) := by decide +kernel
theorem dX6_digestBlock_93 : decode cX6_digestBlock 93 = .ok (.iload_n 3, 1) := by decide +kernel
theorem dX6_digestBlock_94 : decode cX6_digestBlock 94 = .ok (.iload 4, 2) := by decide +kernel
theorem dX6_digestBlock_96 : decode cX6_digestBlock 96 = .ok (.ixor, 1) := by decide +kernel
theorem dX6_digestBlock_97 : decode cX6_digestBlock 97 = .ok (.iload 5, 2) := by decide +kernel
theorem dX6_digestBlock_99 : decode cX6_digestBlock 99 = .ok (.ixor, 1) := by decide +kernel
theorem dX6_digestBlock_100 : decode cX6_digestBlock 100 = .ok (.goto 12, 3) := by decide +kernel
theorem dX6_digestBlock_103 : decode cX6_digestBlock 103 = .ok (.iload 4, 2) := by decide +kernel
theorem dX6_digestBlock_105 : decode cX6_digestBlock 105 = .ok (.iload_n 3, 1) := by decide +kernel
theorem dX6_digestBlock_106 : decode cX6_digestBlock 106 = .ok (.iload 5, 2) := by decide +kernel
theorem dX6_digestBlock_108 : decode cX6_digestBlock 108 = .ok (.iconst (-1), 1) := by decide +kernel
theorem dX6_digestBlock_109 : decode cX6_digestBlock 109 = .ok (.ixor, 1) := by decide +kernel
theorem dX6_digestBlock_110 : decode cX6_digestBlock 110 = .ok (.ior, 1) := by decide +kernel
theorem dX6_digestBlock_111 : decode cX6_digestBlock 111 = .ok (.ixor, 1) := by decide +kernel
theorem dX6_digestBlock_112 : decode cX6_digestBlock 112 = .ok (.istore 8, 2) := by decide +kernel
theorem dX6_digestBlock_114 : decode cX6_digestBlock 114 = .ok (.iload 7, 2) := by decide +kernel
theorem dX6_digestBlock_116 : decode cX6_digestBlock 116 = .ok (.ifCond .ne 8, 3) := by decide +kernel
theorem dX6_digestBlock_119 : decode cX6_digestBlock 119 = .ok (.iload 6, 2) := by decide +kernel
theorem dX6_digestBlock_121 : decode cX6_digestBlock 121 = .ok (.goto 47, 3) := by decide +kernel
theorem dX6_digestBlock_124 : decode cX6_digestBlock 124 = .ok (.iload 7, 2) := by decide +kernel
theorem dX6_digestBlock_126 : decode cX6_digestBlock 126 = .ok (.iconst 1, 1) := by decide +kernel
theorem dX6_digestBlock_127 : decode cX6_digestBlock 127 = .ok (.if_icmp .ne 15, 3) := by decide +kernel
theorem dX6_digestBlock_130 : decode cX6_digestBlock 130 = .ok (.iconst 5, 1) := by decide +kernel
theorem dX6_digestBlock_131 : decode cX6_digestBlock 131 = .ok (.iload 6, 2) := by decide +kernel
theorem dX6_digestBlock_133 : decode cX6_digestBlock 133 = .ok (.imul, 1) := by decide +kernel
theorem dX6_digestBlock_134 : decode cX6_digestBlock 134 = .ok (.iconst 1, 1) := by decide +kernel
theorem dX6_digestBlock_135 : decode cX6_digestBlock 135 = .ok (.iadd, 1) := by decide +kernel
theorem dX6_digestBlock_136 : decode cX6_digestBlock 136 = .ok (.bipush 16, 2) := by decide +kernel
theorem dX6_digestBlock_138 : decode cX6_digestBlock 138 = .ok (.irem, 1) := by decide +kernel
theorem dX6_digestBlock_139 : decode cX6_digestBlock 139 = .ok (.goto 29, 3) := by decide +kernel
theorem dX6_digestBlock_142 : decode cX6_digestBlock 142 = .ok (.iload 7, 2) := by decide +kernel
theorem dX6_digestBlock_144 : decode cX6_digestBlock 144 = .ok (.iconst 2, 1) := by decide +kernel
theorem dX6_digestBlock_145 : decode cX6_digestBlock 145 = .ok (.if_icmp .ne 15, 3) := by decide +kernel
theorem dX6_digestBlock_148 : decode cX6_digestBlock 148 = .ok (.iconst 3, 1) := by decide +kernel
theorem dX6_digestBlock_149 : decode cX6_digestBlock 149 = .ok (.iload 6, 2) := by decide +kernel
theorem dX6_digestBlock_151 : decode cX6_digestBlock 151 = .ok (.imul, 1) := by decide +kernel
theorem dX6_digestBlock_152 : decode cX6_digestBlock 152 = .ok (.iconst 5, 1) := by decide +kernel
theorem dX6_digestBlock_153 : decode cX6_digestBlock 153 = .ok (.iadd, 1) := by decide +kernel
theorem dX6_digestBlock_154 : decode cX6_digestBlock 154 = .ok (.bipush 16, 2) := by decide +kernel
theorem dX6_digestBlock_156 : decode cX6_digestBlock 156 = .ok (.irem, 1) := by decide +kernel
theorem dX6_digestBlock_157 : decode cX6_digestBlock 157 = .ok (.goto 11, 3) := by decide +kernel
theorem dX6_digestBlock_160 : decode cX6_digestBlock 160 = .ok (.bipush 7, 2) := by decide +kernel
theorem dX6_digestBlock_162 : decode cX6_digestBlock 162 = .ok (.iload 6, 2) := by decide +kernel
theorem dX6_digestBlock_164 : decode cX6_digestBlock 164 = .ok (.imul, 1) := by decide +kernel
theorem dX6_digestBlock_165 : decode cX6_digestBlock 165 = .ok (.bipush 16, 2) := by decide +kernel
theorem dX6_digestBlock_167 : decode cX6_digestBlock 167 = .ok (.irem, 1) := by decide +kernel
theorem dX6_digestBlock_168 : decode cX6_digestBlock 168 = .ok (.istore 9, 2) := by decide +kernel
theorem dX6_digestBlock_170 : decode cX6_digestBlock 170 = .ok (.iload 8, 2) := by decide +kernel
theorem dX6_digestBlock_172 : decode cX6_digestBlock 172 = .ok (.iload_n 2, 1) := by decide +kernel
theorem dX6_digestBlock_173 : decode cX6_digestBlock 173 = .ok (.iadd, 1) := by decide +kernel
theorem dX6_digestBlock_174 : decode cX6_digestBlock 174 = .ok (.aload_n 0, 1) := by decide +kernel
theorem dX6_digestBlock_175 : decode cX6_digestBlock 175 = .ok (.getfield 117, 3) := by decide +kernel
theorem dX6_digestBlock_178 : decode cX6_digestBlock 178 = .ok (.iload 6, 2) := by decide +kernel
theorem dX6_digestBlock_180 : decode cX6_digestBlock 180 = .ok (.iaload, 1) := by decide +kernel
theorem dX6_digestBlock_181 : decode cX6_digestBlock 181 = .ok (.iadd, 1) := by decide +kernel
theorem dX6_digestBlock_182 : decode cX6_digestBlock 182 = .ok (.aload_n 0, 1) := by decide +kernel
theorem dX6_digestBlock_183 : decode cX6_digestBlock 183 = .ok (.iload_n 1, 1) := by decide +kernel
theorem dX6_digestBlock_184 : decode cX6_digestBlock 184 = .ok (.iconst 4, 1) := by decide +kernel
theorem dX6_digestBlock_185 : decode cX6_digestBlock 185 = .ok (.iload 9, 2) := by decide +kernel
theorem dX6_digestBlock_187 : decode cX6_digestBlock 187 = .ok (.imul, 1) := by decide +kernel
theorem dX6_digestBlock_188 : decode cX6_digestBlock 188 = .ok (.iadd, 1) := by decide +kernel
theorem dX6_digestBlock_189 : decode cX6_digestBlock 189 = .ok (.invokevirtual 166, 3) := by decide +kernel
theorem dX6_digestBlock_192 : decode cX6_digestBlock 192 = .ok (.iadd, 1) := by decide +kernel
theorem dX6_digestBlock_193 : decode cX6_digestBlock 193 = .ok (.istore 8, 2) := by decide +kernel
theorem dX6_digestBlock_195 : decode cX6_digestBlock 195 = .ok (.iload 5, 2) := by decide +kernel
theorem dX6_digestBlock_197 : decode cX6_digestBlock 197 = .ok (.istore_n 2, 1) := by decide +kernel
theorem dX6_digestBlock_198 : decode cX6_digestBlock 198 = .ok (.iload 4, 2) := by decide +kernel
theorem dX6_digestBlock_200 : decode cX6_digestBlock 200 = .ok (.istore 5, 2) := by decide +kernel
theorem dX6_digestBlock_202 : decode cX6_digestBlock 202 = .ok (.iload_n 3, 1) := by decide +kernel
theorem dX6_digestBlock_203 : decode cX6_digestBlock 203 = .ok (.istore 4, 2) := by decide +kernel
theorem dX6_digestBlock_205 : decode cX6_digestBlock 205 = .ok (.iload_n 3, 1) := by decide +kernel
theorem dX6_digestBlock_206 : decode cX6_digestBlock 206 = .ok (.iload 8, 2) := by decide +kernel
theorem dX6_digestBlock_208 : decode cX6_digestBlock 208 = .ok (.aload_n 0, 1) := by decide +kernel
theorem dX6_digestBlock_209 : decode cX6_digestBlock 209 = .ok (.getfield 120, 3) := by decide +kernel
theorem dX6_digestBlock_212 : decode cX6_digestBlock 212 = .ok (.iconst 4, 1) := by decide +kernel
theorem dX6_digestBlock_213 : decode cX6_digestBlock 213 = .ok (.iload 7, 2) := by decide +kernel
theorem dX6_digestBlock_215 : decode cX6_digestBlock 215 = .ok (.imul, 1) := by decide +kernel
theorem dX6_digestBlock_216 : decode cX6_digestBlock 216 = .ok (.iload 6, 2) := by decide +kernel
theorem dX6_digestBlock_218 : decode cX6_digestBlock 218 = .ok (.iconst 4, 1) := by decide +kernel
theorem dX6_digestBlock_219 : decode cX6_digestBlock 219 = .ok (.irem, 1) := by decide +kernel
theorem dX6_digestBlock_220 : decode cX6_digestBlock 220 = .ok (.iadd, 1) := by decide +kernel
theorem dX6_digestBlock_221 : decode cX6_digestBlock 221 = .ok (.iaload, 1) := by decide +kernel
theorem dX6_digestBlock_222 : decode cX6_digestBlock 222 = .ok (.invokestatic 170, 3) := by decide +kernel
theorem dX6_digestBlock_225 : decode cX6_digestBlock 225 = .ok (.iadd, 1) := by decide +kernel
theorem dX6_digestBlock_226 : decode cX6_digestBlock 226 = .ok (.istore_n 3, 1) := by decide +kernel
theorem dX6_digestBlock_227 : decode cX6_digestBlock 227 = .ok (.iinc 6 1, 3) := by decide +kernel
theorem dX6_digestBlock_230 : decode cX6_digestBlock 230 = .ok (.goto (-197), 3) := by decide +kernel
theorem dX6_digestBlock_233 : decode cX6_digestBlock 233 = .ok (.aload_n 0, 1) := by decide +kernel
theorem dX6_digestBlock_234 : decode cX6_digestBlock 234 = .ok (.getfield 50, 3) := by decide +kernel
theorem dX6_digestBlock_237 : decode cX6_digestBlock 237 = .ok (.iconst 0, 1) := by decide +kernel
theorem dX6_digestBlock_238 : decode cX6_digestBlock 238 = .ok (.aload_n 0, 1) := by decide +kernel
theorem dX6_digestBlock_239 : decode cX6_digestBlock 239 = .ok (.getfield 50, 3) := by decide +kernel
theorem dX6_digestBlock_242 : decode cX6_digestBlock 242 = .ok (.iconst 0, 1) := by decide +kernel
theorem dX6_digestBlock_243 : decode cX6_digestBlock 243 = .ok (.iaload, 1) := by decide +kernel
theorem dX6_digestBlock_244 : decode cX6_digestBlock 244 = .ok (.iload_n 2, 1) := by decide +kernel
theorem dX6_digestBlock_245 : decode cX6_digestBlock 245 = .ok (.iadd, 1) := by decide +kernel
theorem dX6_digestBlock_246 : decode cX6_digestBlock 246 = .ok (.iastore, 1) := by decide +kernel
theorem dX6_digestBlock_247 : decode cX6_digestBlock 247 = .ok (.aload_n 0, 1) := by decide +kernel
theorem dX6_digestBlock_248 : decode cX6_digestBlock 248 = .ok (.getfield 50, 3) := by decide +kernel
theorem dX6_digestBlock_251 : decode cX6_digestBlock 251 = .ok (.iconst 1, 1) := by decide +kernel
theorem dX6_digestBlock_252 : decode cX6_digestBlock 252 = .ok (.aload_n 0, 1) := by decide +kernel
theorem dX6_digestBlock_253 : decode cX6_digestBlock 253 = .ok (.getfield 50, 3) := by decide +kernel
theorem dX6_digestBlock_256 : decode cX6_digestBlock 256 = .ok (.iconst 1, 1) := by decide +kernel
theorem dX6_digestBlock_257 : decode cX6_digestBlock 257 = .ok (.iaload, 1) := by decide +kernel
theorem dX6_digestBlock_258 : decode cX6_digestBlock 258 = .ok (.iload_n 3, 1) := by decide +kernel
theorem dX6_digestBlock_259 : decode cX6_digestBlock 259 = .ok (.iadd, 1) := by decide +kernel
theorem dX6_digestBlock_260 : decode cX6_digestBlock 260 = .ok (.iastore, 1) := by decide +kernel
theorem dX6_digestBlock_261 : decode cX6_digestBlock 261 = .ok (.aload_n 0, 1) := by decide +kernel
theorem dX6_digestBlock_262 : decode cX6_digestBlock 262 = .ok (.getfield 50, 3) := by decide +kernel
theorem dX6_digestBlock_265 : decode cX6_digestBlock 265 = .ok (.iconst 2, 1) := by decide +kernel
theorem dX6_digestBlock_266 : decode cX6_digestBlock 266 = .ok (.aload_n 0, 1) := by decide +kernel
theorem dX6_digestBlock_267 : decode cX6_digestBlock 267 = .ok (.getfield 50, 3) := by decide +kernel
theorem dX6_digestBlock_270 : decode cX6_digestBlock 270 = .ok (.iconst 2, 1) := by decide +kernel
theorem dX6_digestBlock_271 : decode cX6_digestBlock 271 = .ok (.iaload, 1) := by decide +kernel
theorem dX6_digestBlock_272 : decode cX6_digestBlock 272 = .ok (.iload 4, 2) := by decide +kernel
theorem dX6_digestBlock_274 : decode cX6_digestBlock 274 = .ok (.iadd, 1) := by decide +kernel
theorem dX6_digestBlock_275 : decode cX6_digestBlock 275 = .ok (.iastore, 1) := by decide +kernel
theorem dX6_digestBlock_276 : decode cX6_digestBlock 276 = .ok (.aload_n 0, 1) := by decide +kernel
theorem dX6_digestBlock_277 : decode cX6_digestBlock 277 = .ok (.getfield 50, 3) := by decide +kernel
theorem dX6_digestBlock_280 : decode cX6_digestBlock 280 = .ok (.iconst 3, 1) := by decide +kernel
theorem dX6_digestBlock_281 : decode cX6_digestBlock 281 = .ok (.aload_n 0, 1) := by decide +kernel
theorem dX6_digestBlock_282 : decode cX6_digestBlock 282 = .ok (.getfield 50, 3) := by decide +kernel
theorem dX6_digestBlock_285 : decode cX6_digestBlock 285 = .ok (.iconst 3, 1) := by decide +kernel
theorem dX6_digestBlock_286 : decode cX6_digestBlock 286 = .ok (.iaload, 1) := by decide +kernel
theorem dX6_digestBlock_287 : decode cX6_digestBlock 287 = .ok (.iload 5, 2) := by decide +kernel
theorem dX6_digestBlock_289 : decode cX6_digestBlock 289 = .ok (.iadd, 1) := by decide +kernel
theorem dX6_digestBlock_290 : decode cX6_digestBlock 290 = .ok (.iastore, 1) := by decide +kernel
theorem dX6_digestBlock_291 : decode cX6_digestBlock 291 = .ok (.return_, 1) := by decide +kernel
theorem dX6_finish_0 : decode cX6_finish 0 = .ok (.bipush 8, 2) := by decide +kernel
theorem dX6_finish_2 : decode cX6_finish 2 = .ok (.aload_n 0, 1) := by decide +kernel
theorem dX6_finish_3 : decode cX6_finish 3 = .ok (.getfield 163, 3) := by decide +kernel
theorem dX6_finish_6 : decode cX6_finish 6 = .ok (.imul, 1) := by decide +kernel
theorem dX6_finish_7 : decode cX6_finish 7 = .ok (.istore_n 1, 1) := by decide +kernel
theorem dX6_finish_8 : decode cX6_finish 8 = .ok (.aload_n 0, 1) := by decide +kernel
theorem dX6_finish_9 : decode cX6_finish 9 = .ok (.sipush 128, 3) := by decide +kernel
theorem dX6_finish_12 : decode cX6_finish 12 = .ok (.invokevirtual 174, 3) := by decide +kernel
theorem dX6_finish_15 : decode cX6_finish 15 = .ok (.aload_n 0, 1) := by decide +kernel
theorem dX6_finish_16 : decode cX6_finish 16 = .ok (.getfield 163, 3) := by decide +kernel
theorem dX6_finish_19 : decode cX6_finish 19 = .ok (.bipush 64, 2) := by decide +kernel
theorem dX6_finish_21 : decode cX6_finish 21 = .ok (.irem, 1) := by decide +kernel
theorem dX6_finish_22 : decode cX6_finish 22 = .ok (.bipush 56, 2) := by decide +kernel
theorem dX6_finish_24 : decode cX6_finish 24 = .ok (.if_icmp .eq 11, 3) := by decide +kernel
theorem dX6_finish_27 : decode cX6_finish 27 = .ok (.aload_n 0, 1) := by decide +kernel
theorem dX6_finish_28 : decode cX6_finish 28 = .ok (.iconst 0, 1) := by decide +kernel
theorem dX6_finish_29 : decode cX6_finish 29 = .ok (.invokevirtual 174, 3) := by decide +kernel
theorem dX6_finish_32 : decode cX6_finish 32 = .ok (.goto (-17), 3) := by decide +kernel
theorem dX6_finish_35 : decode cX6_finish 35 = .ok (.iconst 0, 1) := by decide +kernel
theorem dX6_finish_36 : decode cX6_finish 36 = .ok (.istore_n 2, 1) := by decide +kernel
theorem dX6_finish_37 : decode cX6_finish 37 = .ok (.iload_n 2, 1) := by decide +kernel
theorem dX6_finish_38 : decode cX6_finish 38 = .ok (.bipush 8, 2) := by decide +kernel
theorem dX6_finish_40 : decode cX6_finish 40 = .ok (.if_icmp .ge 32, 3) := by decide +kernel
theorem dX6_finish_43 : decode cX6_finish 43 = .ok (.aload_n 0, 1) := by decide +kernel
theorem dX6_finish_44 : decode cX6_finish 44 = .ok (.iload_n 2, 1) := by decide +kernel
theorem dX6_finish_45 : decode cX6_finish 45 = .ok (.iconst 4, 1) := by decide +kernel
theorem dX6_finish_46 : decode cX6_finish 46 = .ok (.if_icmp .ge 16, 3) := by decide +kernel
theorem dX6_finish_49 : decode cX6_finish 49 = .ok (.iload_n 1, 1) := by decide +kernel
theorem dX6_finish_50 : decode cX6_finish 50 = .ok (.bipush 8, 2) := by decide +kernel
theorem dX6_finish_52 : decode cX6_finish 52 = .ok (.iload_n 2, 1) := by decide +kernel
theorem dX6_finish_53 : decode cX6_finish 53 = .ok (.imul, 1) := by decide +kernel
theorem dX6_finish_54 : decode cX6_finish 54 = .ok (.ishr, 1) := by decide +kernel
theorem dX6_finish_55 : decode cX6_finish 55 = .ok (.sipush 255, 3) := by decide +kernel
theorem dX6_finish_58 : decode cX6_finish 58 = .ok (.iand, 1) := by decide +kernel
theorem dX6_finish_59 : decode cX6_finish 59 = .ok (.goto 4, 3) := by decide +kernel
theorem dX6_finish_62 : decode cX6_finish 62 = .ok (.iconst 0, 1) := by decide +kernel
theorem dX6_finish_63 : decode cX6_finish 63 = .ok (.invokevirtual 174, 3) := by decide +kernel
theorem dX6_finish_66 : decode cX6_finish 66 = .ok (.iinc 2 1, 3) := by decide +kernel
theorem dX6_finish_69 : decode cX6_finish 69 = .ok (.goto (-32), 3) := by decide +kernel
theorem dX6_finish_72 : decode cX6_finish 72 = .ok (.aload_n 0, 1) := by decide +kernel
theorem dX6_finish_73 : decode cX6_finish 73 = .ok (.getfield 50, 3) := by decide +kernel
theorem dX6_finish_76 : decode cX6_finish 76 = .ok (.iconst 0, 1) := by decide +kernel
theorem dX6_finish_77 : decode cX6_finish 77 = .ok (.ldc 178, 2) := by decide +kernel
theorem dX6_finish_79 : decode cX6_finish 79 = .ok (.iastore, 1) := by decide +kernel
theorem dX6_finish_80 : decode cX6_finish 80 = .ok (.aload_n 0, 1) := by decide +kernel
theorem dX6_finish_81 : decode cX6_finish 81 = .ok (.getfield 50, 3) := by decide +kernel
theorem dX6_finish_84 : decode cX6_finish 84 = .ok (.iconst 1, 1) := by decide +kernel
theorem dX6_finish_85 : decode cX6_finish 85 = .ok (.ldc 179, 2) := by decide +kernel
theorem dX6_finish_87 : decode cX6_finish 87 = .ok (.iastore, 1) := by decide +kernel
theorem dX6_finish_88 : decode cX6_finish 88 = .ok (.aload_n 0, 1) := by decide +kernel
theorem dX6_finish_89 : decode cX6_finish 89 = .ok (.getfield 50, 3) := by decide +kernel
theorem dX6_finish_92 : decode cX6_finish 92 = .ok (.iconst 2, 1) := by decide +kernel
theorem dX6_finish_93 : decode cX6_finish 93 = .ok (.ldc 180, 2) := by decide +kernel
theorem dX6_finish_95 : decode cX6_finish 95 = .ok (.iastore, 1) := by decide +kernel
theorem dX6_finish_96 : decode cX6_finish 96 = .ok (.aload_n 0, 1) := by decide +kernel
theorem dX6_finish_97 : decode cX6_finish 97 = .ok (.getfield 50, 3) := by decide +kernel
theorem dX6_finish_100 : decode cX6_finish 100 = .ok (.iconst 3, 1) := by decide +kernel
theorem dX6_finish_101 : decode cX6_finish 101 = .ok (.ldc 181, 2) := by decide +kernel
theorem dX6_finish_103 : decode cX6_finish 103 = .ok (.iastore, 1) := by decide +kernel
theorem dX6_finish_104 : decode cX6_finish 104 = .ok (.iconst 0, 1) := by decide +kernel
theorem dX6_finish_105 : decode cX6_finish 105 = .ok (.istore_n 2, 1) := by decide +kernel
theorem dX6_finish_106 : decode cX6_finish 106 = .ok (.iload_n 2, 1) := by decide +kernel
theorem dX6_finish_107 : decode cX6_finish 107 = .ok (.aload_n 0, 1) := by decide +kernel
theorem dX6_finish_108 : decode cX6_finish 108 = .ok (.getfield 163, 3) := by decide +kernel
theorem dX6_finish_111 : decode cX6_finish 111 = .ok (.if_icmp .ge 14, 3) := by decide +kernel
theorem dX6_finish_114 : decode cX6_finish 114 = .ok (.aload_n 0, 1) := by decide +kernel
theorem dX6_finish_115 : decode cX6_finish 115 = .ok (.iload_n 2, 1) := by decide +kernel
theorem dX6_finish_116 : decode cX6_finish 116 = .ok (.invokevirtual 182, 3) := by decide +kernel
theorem dX6_finish_119 : decode cX6_finish 119 = .ok (.iinc 2 64, 3) := by decide +kernel
theorem dX6_finish_122 : decode cX6_finish 122 = .ok (.goto (-16), 3) := by decide +kernel
theorem dX6_finish_125 : decode cX6_finish 125 = .ok (.iconst 0, 1) := by decide +kernel
theorem dX6_finish_126 : decode cX6_finish 126 = .ok (.istore_n 2, 1) := by decide +kernel
theorem dX6_finish_127 : decode cX6_finish 127 = .ok (.iload_n 2, 1) := by decide +kernel
theorem dX6_finish_128 : decode cX6_finish 128 = .ok (.bipush 16, 2) := by decide +kernel
theorem dX6_finish_130 : decode cX6_finish 130 = .ok (.if_icmp .ge 34, 3) := by decide +kernel
theorem dX6_finish_133 : decode cX6_finish 133 = .ok (.aload_n 0, 1) := by decide +kernel
theorem dX6_finish_134 : decode cX6_finish 134 = .ok (.getfield 47, 3) := by decide +kernel
theorem dX6_finish_137 : decode cX6_finish 137 = .ok (.iload_n 2, 1) := by decide +kernel
theorem dX6_finish_138 : decode cX6_finish 138 = .ok (.aload_n 0, 1) := by decide +kernel
theorem dX6_finish_139 : decode cX6_finish 139 = .ok (.getfield 50, 3) := by decide +kernel
theorem dX6_finish_142 : decode cX6_finish 142 = .ok (.iload_n 2, 1) := by decide +kernel
theorem dX6_finish_143 : decode cX6_finish 143 = .ok (.iconst 4, 1) := by decide +kernel
theorem dX6_finish_144 : decode cX6_finish 144 = .ok (.idiv, 1) := by decide +kernel
theorem dX6_finish_145 : decode cX6_finish 145 = .ok (.iaload, 1) := by decide +kernel
theorem dX6_finish_146 : decode cX6_finish 146 = .ok (.bipush 8, 2) := by decide +kernel
theorem dX6_finish_148 : decode cX6_finish 148 = .ok (.iload_n 2, 1) := by decide +kernel
theorem dX6_finish_149 : decode cX6_finish 149 = .ok (.iconst 4, 1) := by decide +kernel
theorem dX6_finish_150 : decode cX6_finish 150 = .ok (.irem, 1) := by decide +kernel
theorem dX6_finish_151 : decode cX6_finish 151 = .ok (.imul, 1) := by decide +kernel
theorem dX6_finish_152 : decode cX6_finish 152 = .ok (.ishr, 1) := by decide +kernel
theorem dX6_finish_153 : decode cX6_finish 153 = .ok (.sipush 255, 3) := by decide +kernel
theorem dX6_finish_156 : decode cX6_finish 156 = .ok (.iand, 1) := by decide +kernel
theorem dX6_finish_157 : decode cX6_finish 157 = .ok (.iastore, 1) := by decide +kernel
theorem dX6_finish_158 : decode cX6_finish 158 = .ok (.iinc 2 1, 3) := by decide +kernel
theorem dX6_finish_161 : decode cX6_finish 161 = .ok (.goto (-34), 3) := by decide +kernel
theorem dX6_finish_164 : decode cX6_finish 164 = .ok (.aload_n 0, 1) := by decide +kernel
theorem dX6_finish_165 : decode cX6_finish 165 = .ok (.iconst 0, 1) := by decide +kernel
theorem dX6_finish_166 : decode cX6_finish 166 = .ok (.putfield 163, 3) := by decide +kernel
theorem dX6_finish_169 : decode cX6_finish 169 = .ok (.return_, 1) := by decide +kernel
theorem dX6_again_0 : decode cX6_again 0 = .ok (.iconst 0, 1) := by decide +kernel
theorem dX6_again_1 : decode cX6_again 1 = .ok (.istore_n 3, 1) := by decide +kernel
theorem dX6_again_2 : decode cX6_again 2 = .ok (.iload_n 3, 1) := by decide +kernel
theorem dX6_again_3 : decode cX6_again 3 = .ok (.iload_n 1, 1) := by decide +kernel
theorem dX6_again_4 : decode cX6_again 4 = .ok (.if_icmp .ge 39, 3) := by decide +kernel
theorem dX6_again_7 : decode cX6_again 7 = .ok (.iconst 0, 1) := by decide +kernel
theorem dX6_again_8 : decode cX6_again 8 = .ok (.istore 4, 2) := by decide +kernel
theorem dX6_again_10 : decode cX6_again 10 = .ok (.iload 4, 2) := by decide +kernel
theorem dX6_again_12 : decode cX6_again 12 = .ok (.iload_n 2, 1) := by decide +kernel
theorem dX6_again_13 : decode cX6_again 13 = .ok (.if_icmp .ge 20, 3) := by decide +kernel
theorem dX6_again_16 : decode cX6_again 16 = .ok (.aload_n 0, 1) := by decide +kernel
theorem dX6_again_17 : decode cX6_again 17 = .ok (.aload_n 0, 1) := by decide +kernel
theorem dX6_again_18 : decode cX6_again 18 = .ok (.getfield 47, 3) := by decide +kernel
theorem dX6_again_21 : decode cX6_again 21 = .ok (.iload 4, 2) := by decide +kernel
theorem dX6_again_23 : decode cX6_again 23 = .ok (.iaload, 1) := by decide +kernel
theorem dX6_again_24 : decode cX6_again 24 = .ok (.invokevirtual 174, 3) := by decide +kernel
theorem dX6_again_27 : decode cX6_again 27 = .ok (.iinc 4 1, 3) := by decide +kernel
theorem dX6_again_30 : decode cX6_again 30 = .ok (.goto (-20), 3) := by decide +kernel
theorem dX6_again_33 : decode cX6_again 33 = .ok (.aload_n 0, 1) := by decide +kernel
theorem dX6_again_34 : decode cX6_again 34 = .ok (.invokevirtual 185, 3) := by decide +kernel
theorem dX6_again_37 : decode cX6_again 37 = .ok (.iinc 3 1, 3) := by decide +kernel
theorem dX6_again_40 : decode cX6_again 40 = .ok (.goto (-38), 3) := by decide +kernel
theorem dX6_again_43 : decode cX6_again 43 = .ok (.return_, 1) := by decide +kernel
theorem dX6_mix_0 : decode cX6_mix 0 = .ok (.iconst 0, 1) := by decide +kernel
theorem dX6_mix_1 : decode cX6_mix 1 = .ok (.istore_n 2, 1) := by decide +kernel
theorem dX6_mix_2 : decode cX6_mix 2 = .ok (.iload_n 2, 1) := by decide +kernel
theorem dX6_mix_3 : decode cX6_mix 3 = .ok (.sipush 256, 3) := by decide +kernel
theorem dX6_mix_6 : decode cX6_mix 6 = .ok (.if_icmp .ge 16, 3) := by decide +kernel
theorem dX6_mix_9 : decode cX6_mix 9 = .ok (.aload_n 0, 1) := by decide +kernel
theorem dX6_mix_10 : decode cX6_mix 10 = .ok (.getfield 129, 3) := by decide +kernel
theorem dX6_mix_13 : decode cX6_mix 13 = .ok (.iload_n 2, 1) := by decide +kernel
theorem dX6_mix_14 : decode cX6_mix 14 = .ok (.iload_n 2, 1) := by decide +kernel
theorem dX6_mix_15 : decode cX6_mix 15 = .ok (.iastore, 1) := by decide +kernel
theorem dX6_mix_16 : decode cX6_mix 16 = .ok (.iinc 2 1, 3) := by decide +kernel
theorem dX6_mix_19 : decode cX6_mix 19 = .ok (.goto (-17), 3) := by decide +kernel
theorem dX6_mix_22 : decode cX6_mix 22 = .ok (.iconst 0, 1) := by decide +kernel
theorem dX6_mix_23 : decode cX6_mix 23 = .ok (.istore_n 2, 1) := by decide +kernel
theorem dX6_mix_24 : decode cX6_mix 24 = .ok (.iconst 0, 1) := by decide +kernel
theorem dX6_mix_25 : decode cX6_mix 25 = .ok (.istore_n 3, 1) := by decide +kernel
theorem dX6_mix_26 : decode cX6_mix 26 = .ok (.iload_n 3, 1) := by decide +kernel
theorem dX6_mix_27 : decode cX6_mix 27 = .ok (.sipush 256, 3) := by decide +kernel
theorem dX6_mix_30 : decode cX6_mix 30 = .ok (.if_icmp .ge 64, 3) := by decide +kernel
theorem dX6_mix_33 : decode cX6_mix 33 = .ok (.iload_n 2, 1) := by decide +kernel
theorem dX6_mix_34 : decode cX6_mix 34 = .ok (.aload_n 0, 1) := by decide +kernel
theorem dX6_mix_35 : decode cX6_mix 35 = .ok (.getfield 129, 3) := by decide +kernel
theorem dX6_mix_38 : decode cX6_mix 38 = .ok (.iload_n 3, 1) := by decide +kernel
theorem dX6_mix_39 : decode cX6_mix 39 = .ok (.iaload, 1) := by decide +kernel
theorem dX6_mix_40 : decode cX6_mix 40 = .ok (.iadd, 1) := by decide +kernel
theorem dX6_mix_41 : decode cX6_mix 41 = .ok (.aload_n 0, 1) := by decide +kernel
theorem dX6_mix_42 : decode cX6_mix 42 = .ok (.getfield 126, 3) := by decide +kernel
theorem dX6_mix_45 : decode cX6_mix 45 = .ok (.iload_n 3, 1) := by decide +kernel
theorem dX6_mix_46 : decode cX6_mix 46 = .ok (.aload_n 0, 1) := by decide +kernel
theorem dX6_mix_47 : decode cX6_mix 47 = .ok (.getfield 188, 3) := by decide +kernel
theorem dX6_mix_50 : decode cX6_mix 50 = .ok (.irem, 1) := by decide +kernel
theorem dX6_mix_51 : decode cX6_mix 51 = .ok (.iaload, 1) := by decide +kernel
theorem dX6_mix_52 : decode cX6_mix 52 = .ok (.iload_n 1, 1) := by decide +kernel
theorem dX6_mix_53 : decode cX6_mix 53 = .ok (.ixor, 1) := by decide +kernel
theorem dX6_mix_54 : decode cX6_mix 54 = .ok (.iadd, 1) := by decide +kernel
theorem dX6_mix_55 : decode cX6_mix 55 = .ok (.sipush 256, 3) := by decide +kernel
theorem dX6_mix_58 : decode cX6_mix 58 = .ok (.irem, 1) := by decide +kernel
theorem dX6_mix_59 : decode cX6_mix 59 = .ok (.istore_n 2, 1) := by decide +kernel
theorem dX6_mix_60 : decode cX6_mix 60 = .ok (.aload_n 0, 1) := by decide +kernel
theorem dX6_mix_61 : decode cX6_mix 61 = .ok (.getfield 129, 3) := by decide +kernel
theorem dX6_mix_64 : decode cX6_mix 64 = .ok (.iload_n 3, 1) := by decide +kernel
theorem dX6_mix_65 : decode cX6_mix 65 = .ok (.iaload, 1) := by decide +kernel
theorem dX6_mix_66 : decode cX6_mix 66 = .ok (.istore 4, 2) := by decide +kernel
theorem dX6_mix_68 : decode cX6_mix 68 = .ok (.aload_n 0, 1) := by decide +kernel
theorem dX6_mix_69 : decode cX6_mix 69 = .ok (.getfield 129, 3) := by decide +kernel
theorem dX6_mix_72 : decode cX6_mix 72 = .ok (.iload_n 3, 1) := by decide +kernel
theorem dX6_mix_73 : decode cX6_mix 73 = .ok (.aload_n 0, 1) := by decide +kernel
theorem dX6_mix_74 : decode cX6_mix 74 = .ok (.getfield 129, 3) := by decide +kernel
theorem dX6_mix_77 : decode cX6_mix 77 = .ok (.iload_n 2, 1) := by decide +kernel
theorem dX6_mix_78 : decode cX6_mix 78 = .ok (.iaload, 1) := by decide +kernel
theorem dX6_mix_79 : decode cX6_mix 79 = .ok (.iastore, 1) := by decide +kernel
theorem dX6_mix_80 : decode cX6_mix 80 = .ok (.aload_n 0, 1) := by decide +kernel
theorem dX6_mix_81 : decode cX6_mix 81 = .ok (.getfield 129, 3) := by decide +kernel
theorem dX6_mix_84 : decode cX6_mix 84 = .ok (.iload_n 2, 1) := by decide +kernel
theorem dX6_mix_85 : decode cX6_mix 85 = .ok (.iload 4, 2) := by decide +kernel
theorem dX6_mix_87 : decode cX6_mix 87 = .ok (.iastore, 1) := by decide +kernel
theorem dX6_mix_88 : decode cX6_mix 88 = .ok (.iinc 3 1, 3) := by decide +kernel
theorem dX6_mix_91 : decode cX6_mix 91 = .ok (.goto (-65), 3) := by decide +kernel
theorem dX6_mix_94 : decode cX6_mix 94 = .ok (.return_, 1) := by decide +kernel
theorem dX6_stream_0 : decode cX6_stream 0 = .ok (.aload_n 0, 1) := by decide +kernel
theorem dX6_stream_1 : decode cX6_stream 1 = .ok (.iload_n 1, 1) := by decide +kernel
theorem dX6_stream_2 : decode cX6_stream 2 = .ok (.invokevirtual 191, 3) := by decide +kernel
theorem dX6_stream_5 : decode cX6_stream 5 = .ok (.iconst 0, 1) := by decide +kernel
theorem dX6_stream_6 : decode cX6_stream 6 = .ok (.istore_n 3, 1) := by decide +kernel
theorem dX6_stream_7 : decode cX6_stream 7 = .ok (.iconst 0, 1) := by decide +kernel
theorem dX6_stream_8 : decode cX6_stream 8 = .ok (.istore 4, 2) := by decide +kernel
theorem dX6_stream_10 : decode cX6_stream 10 = .ok (.iconst 0, 1) := by decide +kernel
theorem dX6_stream_11 : decode cX6_stream 11 = .ok (.istore 5, 2) := by decide +kernel
theorem dX6_stream_13 : decode cX6_stream 13 = .ok (.iload 5, 2) := by decide +kernel
theorem dX6_stream_15 : decode cX6_stream 15 = .ok (.iload_n 2, 1) := by decide +kernel
theorem dX6_stream_16 : decode cX6_stream 16 = .ok (.if_icmp .ge 100, 3) := by decide +kernel
theorem dX6_stream_19 : decode cX6_stream 19 = .ok (.iload_n 3, 1) := by decide +kernel
theorem dX6_stream_20 : decode cX6_stream 20 = .ok (.iconst 1, 1) := by decide +kernel
theorem dX6_stream_21 : decode cX6_stream 21 = .ok (.iadd, 1) := by decide +kernel
theorem dX6_stream_22 : decode cX6_stream 22 = .ok (.sipush 256, 3) := by decide +kernel
theorem dX6_stream_25 : decode cX6_stream 25 = .ok (.irem, 1) := by decide +kernel
theorem dX6_stream_26 : decode cX6_stream 26 = .ok (.istore_n 3, 1) := by decide +kernel
theorem dX6_stream_27 : decode cX6_stream 27 = .ok (.iload 4, 2) := by decide +kernel
theorem dX6_stream_29 : decode cX6_stream 29 = .ok (.aload_n 0, 1) := by decide +kernel
theorem dX6_stream_30 : decode cX6_stream 30 = .ok (.getfield 129, 3) := by decide +kernel
theorem dX6_stream_33 : decode cX6_stream 33 = .ok (.iload_n 3, 1) := by decide +kernel
theorem dX6_stream_34 : decode cX6_stream 34 = .ok (.iaload, 1) := by decide +kernel
theorem dX6_stream_35 : decode cX6_stream 35 = .ok (.iadd, 1) := by decide +kernel
theorem dX6_stream_36 : decode cX6_stream 36 = .ok (.sipush 256, 3) := by decide +kernel
theorem dX6_stream_39 : decode cX6_stream 39 = .ok (.irem, 1) := by decide +kernel
theorem dX6_stream_40 : decode cX6_stream 40 = .ok (.istore 4, 2) := by decide +kernel
theorem dX6_stream_42 : decode cX6_stream 42 = .ok (.aload_n 0, 1) := by decide +kernel
theorem dX6_stream_43 : decode cX6_stream 43 = .ok (.getfield 129, 3) := by decide +kernel
theorem dX6_stream_46 : decode cX6_stream 46 = .ok (.iload_n 3, 1) := by decide +kernel
theorem dX6_stream_47 : decode cX6_stream 47 = .ok (.iaload, 1) := by decide +kernel
theorem dX6_stream_48 : decode cX6_stream 48 = .ok (.istore 6, 2) := by decide +kernel
theorem dX6_stream_50 : decode cX6_stream 50 = .ok (.aload_n 0, 1) := by decide +kernel
theorem dX6_stream_51 : decode cX6_stream 51 = .ok (.getfield 129, 3) := by decide +kernel
theorem dX6_stream_54 : decode cX6_stream 54 = .ok (.iload_n 3, 1) := by decide +kernel
theorem dX6_stream_55 : decode cX6_stream 55 = .ok (.aload_n 0, 1) := by decide +kernel
theorem dX6_stream_56 : decode cX6_stream 56 = .ok (.getfield 129, 3) := by decide +kernel
theorem dX6_stream_59 : decode cX6_stream 59 = .ok (.iload 4, 2) := by decide +kernel
theorem dX6_stream_61 : decode cX6_stream 61 = .ok (.iaload, 1) := by decide +kernel
theorem dX6_stream_62 : decode cX6_stream 62 = .ok (.iastore, 1) := by decide +kernel
theorem dX6_stream_63 : decode cX6_stream 63 = .ok (.aload_n 0, 1) := by decide +kernel
theorem dX6_stream_64 : decode cX6_stream 64 = .ok (.getfield 129, 3) := by decide +kernel
theorem dX6_stream_67 : decode cX6_stream 67 = .ok (.iload 4, 2) := by decide +kernel
theorem dX6_stream_69 : decode cX6_stream 69 = .ok (.iload 6, 2) := by decide +kernel
theorem dX6_stream_71 : decode cX6_stream 71 = .ok (.iastore, 1) := by decide +kernel
theorem dX6_stream_72 : decode cX6_stream 72 = .ok (.aload_n 0, 1) := by decide +kernel
theorem dX6_stream_73 : decode cX6_stream 73 = .ok (.getfield 132, 3) := by decide +kernel
theorem dX6_stream_76 : decode cX6_stream 76 = .ok (.iload 5, 2) := by decide +kernel
theorem dX6_stream_78 : decode cX6_stream 78 = .ok (.aload_n 0, 1) := by decide +kernel
theorem dX6_stream_79 : decode cX6_stream 79 = .ok (.getfield 132, 3) := by decide +kernel
theorem dX6_stream_82 : decode cX6_stream 82 = .ok (.iload 5, 2) := by decide +kernel
theorem dX6_stream_84 : decode cX6_stream 84 = .ok (.iaload, 1) := by decide +kernel
theorem dX6_stream_85 : decode cX6_stream 85 = .ok (.aload_n 0, 1) := by decide +kernel
theorem dX6_stream_86 : decode cX6_stream 86 = .ok (.getfield 129, 3) := by decide +kernel
theorem dX6_stream_89 : decode cX6_stream 89 = .ok (.aload_n 0, 1) := by decide +kernel
theorem dX6_stream_90 : decode cX6_stream 90 = .ok (.getfield 129, 3) := by decide +kernel
theorem dX6_stream_93 : decode cX6_stream 93 = .ok (.iload_n 3, 1) := by decide +kernel
theorem dX6_stream_94 : decode cX6_stream 94 = .ok (.iaload, 1) := by decide +kernel
theorem dX6_stream_95 : decode cX6_stream 95 = .ok (.aload_n 0, 1) := by decide +kernel
theorem dX6_stream_96 : decode cX6_stream 96 = .ok (.getfield 129, 3) := by decide +kernel
theorem dX6_stream_99 : decode cX6_stream 99 = .ok (.iload 4, 2) := by decide +kernel
theorem dX6_stream_101 : decode cX6_stream 101 = .ok (.iaload, 1) := by decide +kernel
theorem dX6_stream_102 : decode cX6_stream 102 = .ok (.iadd, 1) := by decide +kernel
theorem dX6_stream_103 : decode cX6_stream 103 = .ok (.sipush 256, 3) := by decide +kernel
theorem dX6_stream_106 : decode cX6_stream 106 = .ok (.irem, 1) := by decide +kernel
theorem dX6_stream_107 : decode cX6_stream 107 = .ok (.iaload, 1) := by decide +kernel
theorem dX6_stream_108 : decode cX6_stream 108 = .ok (.ixor, 1) := by decide +kernel
theorem dX6_stream_109 : decode cX6_stream 109 = .ok (.iastore, 1) := by decide +kernel
theorem dX6_stream_110 : decode cX6_stream 110 = .ok (.iinc 5 1, 3) := by decide +kernel
theorem dX6_stream_113 : decode cX6_stream 113 = .ok (.goto (-100), 3) := by decide +kernel
theorem dX6_stream_116 : decode cX6_stream 116 = .ok (.return_, 1) := by decide +kernel
theorem dX6_streamRow_0 : decode cX6_streamRow 0 = .ok (.aload_n 0, 1) := by decide +kernel
theorem dX6_streamRow_1 : decode cX6_streamRow 1 = .ok (.iconst 0, 1) := by decide +kernel
theorem dX6_streamRow_2 : decode cX6_streamRow 2 = .ok (.invokevirtual 191, 3) := by decide +kernel
theorem dX6_streamRow_5 : decode cX6_streamRow 5 = .ok (.iconst 0, 1) := by decide +kernel
theorem dX6_streamRow_6 : decode cX6_streamRow 6 = .ok (.istore_n 1, 1) := by decide +kernel
theorem dX6_streamRow_7 : decode cX6_streamRow 7 = .ok (.iconst 0, 1) := by decide +kernel
theorem dX6_streamRow_8 : decode cX6_streamRow 8 = .ok (.istore_n 2, 1) := by decide +kernel
theorem dX6_streamRow_9 : decode cX6_streamRow 9 = .ok (.iconst 0, 1) := by decide +kernel
theorem dX6_streamRow_10 : decode cX6_streamRow 10 = .ok (.istore_n 3, 1) := by decide +kernel
theorem dX6_streamRow_11 : decode cX6_streamRow 11 = .ok (.iload_n 3, 1) := by decide +kernel
theorem dX6_streamRow_12 : decode cX6_streamRow 12 = .ok (.aload_n 0, 1) := by decide +kernel
theorem dX6_streamRow_13 : decode cX6_streamRow 13 = .ok (.getfield 156, 3) := by decide +kernel
theorem dX6_streamRow_16 : decode cX6_streamRow 16 = .ok (.if_icmp .ge 93, 3) := by decide +kernel
theorem dX6_streamRow_19 : decode cX6_streamRow 19 = .ok (.iload_n 1, 1) := by decide +kernel
theorem dX6_streamRow_20 : decode cX6_streamRow 20 = .ok (.iconst 1, 1) := by decide +kernel
theorem dX6_streamRow_21 : decode cX6_streamRow 21 = .ok (.iadd, 1) := by decide +kernel
theorem dX6_streamRow_22 : decode cX6_streamRow 22 = .ok (.sipush 256, 3) := by decide +kernel
theorem dX6_streamRow_25 : decode cX6_streamRow 25 = .ok (.irem, 1) := by decide +kernel
theorem dX6_streamRow_26 : decode cX6_streamRow 26 = .ok (.istore_n 1, 1) := by decide +kernel
theorem dX6_streamRow_27 : decode cX6_streamRow 27 = .ok (.iload_n 2, 1) := by decide +kernel
theorem dX6_streamRow_28 : decode cX6_streamRow 28 = .ok (.aload_n 0, 1) := by decide +kernel
theorem dX6_streamRow_29 : decode cX6_streamRow 29 = .ok (.getfield 129, 3) := by decide +kernel
theorem dX6_streamRow_32 : decode cX6_streamRow 32 = .ok (.iload_n 1, 1) := by decide +kernel
theorem dX6_streamRow_33 : decode cX6_streamRow 33 = .ok (.iaload, 1) := by decide +kernel
theorem dX6_streamRow_34 : decode cX6_streamRow 34 = .ok (.iadd, 1) := by decide +kernel
theorem dX6_streamRow_35 : decode cX6_streamRow 35 = .ok (.sipush 256, 3) := by decide +kernel
theorem dX6_streamRow_38 : decode cX6_streamRow 38 = .ok (.irem, 1) := by decide +kernel
theorem dX6_streamRow_39 : decode cX6_streamRow 39 = .ok (.istore_n 2, 1) := by decide +kernel
theorem dX6_streamRow_40 : decode cX6_streamRow 40 = .ok (.aload_n 0, 1) := by decide +kernel
theorem dX6_streamRow_41 : decode cX6_streamRow 41 = .ok (.getfield 129, 3) := by decide +kernel
theorem dX6_streamRow_44 : decode cX6_streamRow 44 = .ok (.iload_n 1, 1) := by decide +kernel
theorem dX6_streamRow_45 : decode cX6_streamRow 45 = .ok (.iaload, 1) := by decide +kernel
theorem dX6_streamRow_46 : decode cX6_streamRow 46 = .ok (.istore 4, 2) := by decide +kernel
theorem dX6_streamRow_48 : decode cX6_streamRow 48 = .ok (.aload_n 0, 1) := by decide +kernel
theorem dX6_streamRow_49 : decode cX6_streamRow 49 = .ok (.getfield 129, 3) := by decide +kernel
theorem dX6_streamRow_52 : decode cX6_streamRow 52 = .ok (.iload_n 1, 1) := by decide +kernel
theorem dX6_streamRow_53 : decode cX6_streamRow 53 = .ok (.aload_n 0, 1) := by decide +kernel
theorem dX6_streamRow_54 : decode cX6_streamRow 54 = .ok (.getfield 129, 3) := by decide +kernel
theorem dX6_streamRow_57 : decode cX6_streamRow 57 = .ok (.iload_n 2, 1) := by decide +kernel
theorem dX6_streamRow_58 : decode cX6_streamRow 58 = .ok (.iaload, 1) := by decide +kernel
theorem dX6_streamRow_59 : decode cX6_streamRow 59 = .ok (.iastore, 1) := by decide +kernel
theorem dX6_streamRow_60 : decode cX6_streamRow 60 = .ok (.aload_n 0, 1) := by decide +kernel
theorem dX6_streamRow_61 : decode cX6_streamRow 61 = .ok (.getfield 129, 3) := by decide +kernel
theorem dX6_streamRow_64 : decode cX6_streamRow 64 = .ok (.iload_n 2, 1) := by decide +kernel
theorem dX6_streamRow_65 : decode cX6_streamRow 65 = .ok (.iload 4, 2) := by decide +kernel
theorem dX6_streamRow_67 : decode cX6_streamRow 67 = .ok (.iastore, 1) := by decide +kernel
theorem dX6_streamRow_68 : decode cX6_streamRow 68 = .ok (.aload_n 0, 1) := by decide +kernel
theorem dX6_streamRow_69 : decode cX6_streamRow 69 = .ok (.getfield 13, 3) := by decide +kernel
theorem dX6_streamRow_72 : decode cX6_streamRow 72 = .ok (.iload_n 3, 1) := by decide +kernel
theorem dX6_streamRow_73 : decode cX6_streamRow 73 = .ok (.aload_n 0, 1) := by decide +kernel
theorem dX6_streamRow_74 : decode cX6_streamRow 74 = .ok (.getfield 7, 3) := by decide +kernel
theorem dX6_streamRow_77 : decode cX6_streamRow 77 = .ok (.iload_n 3, 1) := by decide +kernel
theorem dX6_streamRow_78 : decode cX6_streamRow 78 = .ok (.iaload, 1) := by decide +kernel
theorem dX6_streamRow_79 : decode cX6_streamRow 79 = .ok (.aload_n 0, 1) := by decide +kernel
theorem dX6_streamRow_80 : decode cX6_streamRow 80 = .ok (.getfield 129, 3) := by decide +kernel
theorem dX6_streamRow_83 : decode cX6_streamRow 83 = .ok (.aload_n 0, 1) := by decide +kernel
theorem dX6_streamRow_84 : decode cX6_streamRow 84 = .ok (.getfield 129, 3) := by decide +kernel
theorem dX6_streamRow_87 : decode cX6_streamRow 87 = .ok (.iload_n 1, 1) := by decide +kernel
theorem dX6_streamRow_88 : decode cX6_streamRow 88 = .ok (.iaload, 1) := by decide +kernel
theorem dX6_streamRow_89 : decode cX6_streamRow 89 = .ok (.aload_n 0, 1) := by decide +kernel
theorem dX6_streamRow_90 : decode cX6_streamRow 90 = .ok (.getfield 129, 3) := by decide +kernel
theorem dX6_streamRow_93 : decode cX6_streamRow 93 = .ok (.iload_n 2, 1) := by decide +kernel
theorem dX6_streamRow_94 : decode cX6_streamRow 94 = .ok (.iaload, 1) := by decide +kernel
theorem dX6_streamRow_95 : decode cX6_streamRow 95 = .ok (.iadd, 1) := by decide +kernel
theorem dX6_streamRow_96 : decode cX6_streamRow 96 = .ok (.sipush 256, 3) := by decide +kernel
theorem dX6_streamRow_99 : decode cX6_streamRow 99 = .ok (.irem, 1) := by decide +kernel
theorem dX6_streamRow_100 : decode cX6_streamRow 100 = .ok (.iaload, 1) := by decide +kernel
theorem dX6_streamRow_101 : decode cX6_streamRow 101 = .ok (.ixor, 1) := by decide +kernel
theorem dX6_streamRow_102 : decode cX6_streamRow 102 = .ok (.iastore, 1) := by decide +kernel
theorem dX6_streamRow_103 : decode cX6_streamRow 103 = .ok (.iinc 3 1, 3) := by decide +kernel
theorem dX6_streamRow_106 : decode cX6_streamRow 106 = .ok (.goto (-95), 3) := by decide +kernel
theorem dX6_streamRow_109 : decode cX6_streamRow 109 = .ok (.aload_n 0, 1) := by decide +kernel
theorem dX6_streamRow_110 : decode cX6_streamRow 110 = .ok (.aload_n 0, 1) := by decide +kernel
theorem dX6_streamRow_111 : decode cX6_streamRow 111 = .ok (.getfield 156, 3) := by decide +kernel
theorem dX6_streamRow_114 : decode cX6_streamRow 114 = .ok (.putfield 194, 3) := by decide +kernel
theorem dX6_streamRow_117 : decode cX6_streamRow 117 = .ok (.return_, 1) := by decide +kernel
theorem dX6_padWord_0 : decode cX6_padWord 0 = .ok (.iload_n 1, 1) := by decide +kernel
theorem dX6_padWord_1 : decode cX6_padWord 1 = .ok (.ifCond .ne 10, 3) := by decide +kernel
theorem dX6_padWord_4 : decode cX6_padWord 4 = .ok (.aload_n 0, 1) := by decide +kernel
theorem dX6_padWord_5 : decode cX6_padWord 5 = .ok (.getfield 156, 3) := by decide +kernel
theorem dX6_padWord_8 : decode cX6_padWord 8 = .ok (.goto 29, 3) := by decide +kernel
theorem dX6_padWord_11 : decode cX6_padWord 11 = .ok (.iload_n 1, 1) := by decide +kernel
theorem dX6_padWord_12 : decode cX6_padWord 12 = .ok (.iconst 1, 1) := by decide +kernel
theorem dX6_padWord_13 : decode cX6_padWord 13 = .ok (.if_icmp .ne 10, 3) := by decide +kernel
theorem dX6_padWord_16 : decode cX6_padWord 16 = .ok (.aload_n 0, 1) := by decide +kernel
theorem dX6_padWord_17 : decode cX6_padWord 17 = .ok (.getfield 197, 3) := by decide +kernel
theorem dX6_padWord_20 : decode cX6_padWord 20 = .ok (.goto 17, 3) := by decide +kernel
theorem dX6_padWord_23 : decode cX6_padWord 23 = .ok (.iload_n 1, 1) := by decide +kernel
theorem dX6_padWord_24 : decode cX6_padWord 24 = .ok (.iconst 2, 1) := by decide +kernel
theorem dX6_padWord_25 : decode cX6_padWord 25 = .ok (.if_icmp .ne 10, 3) := by decide +kernel
theorem dX6_padWord_28 : decode cX6_padWord 28 = .ok (.aload_n 0, 1) := by decide +kernel
theorem dX6_padWord_29 : decode cX6_padWord 29 = .ok (.getfield 200, 3) := by decide +kernel
theorem dX6_padWord_32 : decode cX6_padWord 32 = .ok (.goto 5, 3) := by decide +kernel
theorem dX6_padWord_35 : decode cX6_padWord 35 = .ok (.bipush 32, 2) := by decide +kernel
theorem dX6_padWord_37 : decode cX6_padWord 37 = .ok (.istore_n 2, 1) := by decide +kernel
theorem dX6_padWord_38 : decode cX6_padWord 38 = .ok (.iload_n 2, 1) := by decide +kernel
theorem dX6_padWord_39 : decode cX6_padWord 39 = .ok (.bipush 32, 2) := by decide +kernel
theorem dX6_padWord_41 : decode cX6_padWord 41 = .ok (.if_icmp .le 8, 3) := by decide +kernel
theorem dX6_padWord_44 : decode cX6_padWord 44 = .ok (.bipush 32, 2) := by decide +kernel
theorem dX6_padWord_46 : decode cX6_padWord 46 = .ok (.goto 4, 3) := by decide +kernel
theorem dX6_padWord_49 : decode cX6_padWord 49 = .ok (.iload_n 2, 1) := by decide +kernel
theorem dX6_padWord_50 : decode cX6_padWord 50 = .ok (.istore_n 2, 1) := by decide +kernel
theorem dX6_padWord_51 : decode cX6_padWord 51 = .ok (.iconst 0, 1) := by decide +kernel
theorem dX6_padWord_52 : decode cX6_padWord 52 = .ok (.istore_n 3, 1) := by decide +kernel
theorem dX6_padWord_53 : decode cX6_padWord 53 = .ok (.iload_n 3, 1) := by decide +kernel
theorem dX6_padWord_54 : decode cX6_padWord 54 = .ok (.bipush 32, 2) := by decide +kernel
theorem dX6_padWord_56 : decode cX6_padWord 56 = .ok (.if_icmp .ge 78, 3) := by decide +kernel
theorem dX6_padWord_59 : decode cX6_padWord 59 = .ok (.aload_n 0, 1) := by decide +kernel
theorem dX6_padWord_60 : decode cX6_padWord 60 = .ok (.getfield 135, 3) := by decide +kernel
theorem dX6_padWord_63 : decode cX6_padWord 63 = .ok (.iload_n 3, 1) := by decide +kernel
theorem dX6_padWord_64 : decode cX6_padWord 64 = .ok (.iload_n 3, 1) := by decide +kernel
theorem dX6_padWord_65 : decode cX6_padWord 65 = .ok (.iload_n 2, 1) := by decide +kernel
theorem dX6_padWord_66 : decode cX6_padWord 66 = .ok (.if_icmp .lt 14, 3) := by decide +kernel
theorem dX6_padWord_69 : decode cX6_padWord 69 = .ok (.aload_n 0, 1) := by decide +kernel
theorem dX6_padWord_70 : decode cX6_padWord 70 = .ok (.getfield 123, 3) := by decide +kernel
theorem dX6_padWord_73 : decode cX6_padWord 73 = .ok (.iload_n 3, 1) := by decide +kernel
theorem dX6_padWord_74 : decode cX6_padWord 74 = .ok (.iload_n 2, 1) := by decide +kernel
theorem dX6_padWord_75 : decode cX6_padWord 75 = .ok (.isub, 1) := by decide +kernel
theorem dX6_padWord_76 : decode cX6_padWord 76 = .ok (.iaload, 1) := by decide +kernel
theorem dX6_padWord_77 : decode cX6_padWord 77 = .ok (.goto 50, 3) := by decide +kernel
theorem dX6_padWord_80 : decode cX6_padWord 80 = .ok (.iload_n 1, 1) := by decide +kernel
theorem dX6_padWord_81 : decode cX6_padWord 81 = .ok (.ifCond .ne 12, 3) := by decide +kernel
theorem dX6_padWord_84 : decode cX6_padWord 84 = .ok (.aload_n 0, 1) := by decide +kernel
theorem dX6_padWord_85 : decode cX6_padWord 85 = .ok (.getfield 7, 3) := by decide +kernel
theorem dX6_padWord_88 : decode cX6_padWord 88 = .ok (.iload_n 3, 1) := by decide +kernel
theorem dX6_padWord_89 : decode cX6_padWord 89 = .ok (.iaload, 1) := by decide +kernel
theorem dX6_padWord_90 : decode cX6_padWord 90 = .ok (.goto 37, 3) := by decide +kernel
theorem dX6_padWord_93 : decode cX6_padWord 93 = .ok (.iload_n 1, 1) := by decide +kernel
theorem dX6_padWord_94 : decode cX6_padWord 94 = .ok (.iconst 1, 1) := by decide +kernel
theorem dX6_padWord_95 : decode cX6_padWord 95 = .ok (.if_icmp .ne 12, 3) := by decide +kernel
theorem dX6_padWord_98 : decode cX6_padWord 98 = .ok (.aload_n 0, 1) := by decide +kernel
theorem dX6_padWord_99 : decode cX6_padWord 99 = .ok (.getfield 35, 3) := by decide +kernel
theorem dX6_padWord_102 : decode cX6_padWord 102 = .ok (.iload_n 3, 1) := by decide +kernel
theorem dX6_padWord_103 : decode cX6_padWord 103 = .ok (.iaload, 1) := by decide +kernel
theorem dX6_padWord_104 : decode cX6_padWord 104 = .ok (.goto 23, 3) := by decide +kernel
theorem dX6_padWord_107 : decode cX6_padWord 107 = .ok (.iload_n 1, 1) := by decide +kernel
theorem dX6_padWord_108 : decode cX6_padWord 108 = .ok (.iconst 2, 1) := by decide +kernel
theorem dX6_padWord_109 : decode cX6_padWord 109 = .ok (.if_icmp .ne 12, 3) := by decide +kernel
theorem dX6_padWord_112 : decode cX6_padWord 112 = .ok (.aload_n 0, 1) := by decide +kernel
theorem dX6_padWord_113 : decode cX6_padWord 113 = .ok (.getfield 38, 3) := by decide +kernel
theorem dX6_padWord_116 : decode cX6_padWord 116 = .ok (.iload_n 3, 1) := by decide +kernel
theorem dX6_padWord_117 : decode cX6_padWord 117 = .ok (.iaload, 1) := by decide +kernel
theorem dX6_padWord_118 : decode cX6_padWord 118 = .ok (.goto 9, 3) := by decide +kernel
theorem dX6_padWord_121 : decode cX6_padWord 121 = .ok (.aload_n 0, 1) := by decide +kernel
theorem dX6_padWord_122 : decode cX6_padWord 122 = .ok (.getfield 132, 3) := by decide +kernel
theorem dX6_padWord_125 : decode cX6_padWord 125 = .ok (.iload_n 3, 1) := by decide +kernel
theorem dX6_padWord_126 : decode cX6_padWord 126 = .ok (.iaload, 1) := by decide +kernel
theorem dX6_padWord_127 : decode cX6_padWord 127 = .ok (.iastore, 1) := by decide +kernel
theorem dX6_padWord_128 : decode cX6_padWord 128 = .ok (.iinc 3 1, 3) := by decide +kernel
theorem dX6_padWord_131 : decode cX6_padWord 131 = .ok (.goto (-78), 3) := by decide +kernel
theorem dX6_padWord_134 : decode cX6_padWord 134 = .ok (.return_, 1) := by decide +kernel
theorem dX6_makeKey_0 : decode cX6_makeKey 0 = .ok (.iconst 0, 1) := by decide +kernel
theorem dX6_makeKey_1 : decode cX6_makeKey 1 = .ok (.istore_n 1, 1) := by decide +kernel
theorem dX6_makeKey_2 : decode cX6_makeKey 2 = .ok (.iload_n 1, 1) := by decide +kernel
theorem dX6_makeKey_3 : decode cX6_makeKey 3 = .ok (.bipush 32, 2) := by decide +kernel
theorem dX6_makeKey_5 : decode cX6_makeKey 5 = .ok (.if_icmp .ge 19, 3) := by decide +kernel
theorem dX6_makeKey_8 : decode cX6_makeKey 8 = .ok (.aload_n 0, 1) := by decide +kernel
theorem dX6_makeKey_9 : decode cX6_makeKey 9 = .ok (.aload_n 0, 1) := by decide +kernel
theorem dX6_makeKey_10 : decode cX6_makeKey 10 = .ok (.getfield 135, 3) := by decide +kernel
theorem dX6_makeKey_13 : decode cX6_makeKey 13 = .ok (.iload_n 1, 1) := by decide +kernel
theorem dX6_makeKey_14 : decode cX6_makeKey 14 = .ok (.iaload, 1) := by decide +kernel
theorem dX6_makeKey_15 : decode cX6_makeKey 15 = .ok (.invokevirtual 174, 3) := by decide +kernel
theorem dX6_makeKey_18 : decode cX6_makeKey 18 = .ok (.iinc 1 1, 3) := by decide +kernel
theorem dX6_makeKey_21 : decode cX6_makeKey 21 = .ok (.goto (-19), 3) := by decide +kernel
theorem dX6_makeKey_24 : decode cX6_makeKey 24 = .ok (.iconst 0, 1) := by decide +kernel
theorem dX6_makeKey_25 : decode cX6_makeKey 25 = .ok (.istore_n 1, 1) := by decide +kernel
theorem dX6_makeKey_26 : decode cX6_makeKey 26 = .ok (.iload_n 1, 1) := by decide +kernel
theorem dX6_makeKey_27 : decode cX6_makeKey 27 = .ok (.bipush 32, 2) := by decide +kernel
theorem dX6_makeKey_29 : decode cX6_makeKey 29 = .ok (.if_icmp .ge 19, 3) := by decide +kernel
theorem dX6_makeKey_32 : decode cX6_makeKey 32 = .ok (.aload_n 0, 1) := by decide +kernel
theorem dX6_makeKey_33 : decode cX6_makeKey 33 = .ok (.aload_n 0, 1) := by decide +kernel
theorem dX6_makeKey_34 : decode cX6_makeKey 34 = .ok (.getfield 26, 3) := by decide +kernel
theorem dX6_makeKey_37 : decode cX6_makeKey 37 = .ok (.iload_n 1, 1) := by decide +kernel
theorem dX6_makeKey_38 : decode cX6_makeKey 38 = .ok (.iaload, 1) := by decide +kernel
theorem dX6_makeKey_39 : decode cX6_makeKey 39 = .ok (.invokevirtual 174, 3) := by decide +kernel
theorem dX6_makeKey_42 : decode cX6_makeKey 42 = .ok (.iinc 1 1, 3) := by decide +kernel
theorem dX6_makeKey_45 : decode cX6_makeKey 45 = .ok (.goto (-19), 3) := by decide +kernel
theorem dX6_makeKey_48 : decode cX6_makeKey 48 = .ok (.iconst 0, 1) := by decide +kernel
theorem dX6_makeKey_49 : decode cX6_makeKey 49 = .ok (.istore_n 1, 1) := by decide +kernel
theorem dX6_makeKey_50 : decode cX6_makeKey 50 = .ok (.iload_n 1, 1) := by decide +kernel
theorem dX6_makeKey_51 : decode cX6_makeKey 51 = .ok (.iconst 4, 1) := by decide +kernel
theorem dX6_makeKey_52 : decode cX6_makeKey 52 = .ok (.if_icmp .ge 26, 3) := by decide +kernel
theorem dX6_makeKey_55 : decode cX6_makeKey 55 = .ok (.aload_n 0, 1) := by decide +kernel
theorem dX6_makeKey_56 : decode cX6_makeKey 56 = .ok (.aload_n 0, 1) := by decide +kernel
theorem dX6_makeKey_57 : decode cX6_makeKey 57 = .ok (.getfield 23, 3) := by decide +kernel
theorem dX6_makeKey_60 : decode cX6_makeKey 60 = .ok (.bipush 8, 2) := by decide +kernel
theorem dX6_makeKey_62 : decode cX6_makeKey 62 = .ok (.iload_n 1, 1) := by decide +kernel
theorem dX6_makeKey_63 : decode cX6_makeKey 63 = .ok (.imul, 1) := by decide +kernel
theorem dX6_makeKey_64 : decode cX6_makeKey 64 = .ok (.ishr, 1) := by decide +kernel
theorem dX6_makeKey_65 : decode cX6_makeKey 65 = .ok (.sipush 255, 3) := by decide +kernel
theorem dX6_makeKey_68 : decode cX6_makeKey 68 = .ok (.iand, 1) := by decide +kernel
theorem dX6_makeKey_69 : decode cX6_makeKey 69 = .ok (.invokevirtual 174, 3) := by decide +kernel
theorem dX6_makeKey_72 : decode cX6_makeKey 72 = .ok (.iinc 1 1, 3) := by decide +kernel
theorem dX6_makeKey_75 : decode cX6_makeKey 75 = .ok (.goto (-25), 3) := by decide +kernel
theorem dX6_makeKey_78 : decode cX6_makeKey 78 = .ok (.iconst 0, 1) := by decide +kernel
theorem dX6_makeKey_79 : decode cX6_makeKey 79 = .ok (.istore_n 1, 1) := by decide +kernel
theorem dX6_makeKey_80 : decode cX6_makeKey 80 = .ok (.iload_n 1, 1) := by decide +kernel
theorem dX6_makeKey_81 : decode cX6_makeKey 81 = .ok (.aload_n 0, 1) := by decide +kernel
theorem dX6_makeKey_82 : decode cX6_makeKey 82 = .ok (.getfield 203, 3) := by decide +kernel
theorem dX6_makeKey_85 : decode cX6_makeKey 85 = .ok (.if_icmp .ge 19, 3) := by decide +kernel
theorem dX6_makeKey_88 : decode cX6_makeKey 88 = .ok (.aload_n 0, 1) := by decide +kernel
theorem dX6_makeKey_89 : decode cX6_makeKey 89 = .ok (.aload_n 0, 1) := by decide +kernel
theorem dX6_makeKey_90 : decode cX6_makeKey 90 = .ok (.getfield 32, 3) := by decide +kernel
theorem dX6_makeKey_93 : decode cX6_makeKey 93 = .ok (.iload_n 1, 1) := by decide +kernel
theorem dX6_makeKey_94 : decode cX6_makeKey 94 = .ok (.iaload, 1) := by decide +kernel
theorem dX6_makeKey_95 : decode cX6_makeKey 95 = .ok (.invokevirtual 174, 3) := by decide +kernel
theorem dX6_makeKey_98 : decode cX6_makeKey 98 = .ok (.iinc 1 1, 3) := by decide +kernel
theorem dX6_makeKey_101 : decode cX6_makeKey 101 = .ok (.goto (-21), 3) := by decide +kernel
theorem dX6_makeKey_104 : decode cX6_makeKey 104 = .ok (.iconst 0, 1) := by decide +kernel
theorem dX6_makeKey_105 : decode cX6_makeKey 105 = .ok (.istore_n 1, 1) := by decide +kernel
theorem dX6_makeKey_106 : decode cX6_makeKey 106 = .ok (.iload_n 1, 1) := by decide +kernel
theorem dX6_makeKey_107 : decode cX6_makeKey 107 = .ok (.iconst 4, 1) := by decide +kernel
theorem dX6_makeKey_108 : decode cX6_makeKey 108 = .ok (.if_icmp .ge 31, 3) := by decide +kernel
theorem dX6_makeKey_111 : decode cX6_makeKey 111 = .ok (.aload_n 0, 1) := by decide +kernel
theorem dX6_makeKey_112 : decode cX6_makeKey 112 = .ok (.getfield 16, 3) := by decide +kernel
theorem dX6_makeKey_115 : decode cX6_makeKey 115 = .ok (.iconst 4, 1) := by decide +kernel
theorem dX6_makeKey_116 : decode cX6_makeKey 116 = .ok (.if_icmp .ne 23, 3) := by decide +kernel
theorem dX6_makeKey_119 : decode cX6_makeKey 119 = .ok (.aload_n 0, 1) := by decide +kernel
theorem dX6_makeKey_120 : decode cX6_makeKey 120 = .ok (.getfield 206, 3) := by decide +kernel
theorem dX6_makeKey_123 : decode cX6_makeKey 123 = .ok (.ifCond .eq 16, 3) := by decide +kernel
theorem dX6_makeKey_126 : decode cX6_makeKey 126 = .ok (.aload_n 0, 1) := by decide +kernel
theorem dX6_makeKey_127 : decode cX6_makeKey 127 = .ok (.sipush 255, 3) := by decide +kernel
theorem dX6_makeKey_130 : decode cX6_makeKey 130 = .ok (.invokevirtual 174, 3) := by decide +kernel
theorem dX6_makeKey_133 : decode cX6_makeKey 133 = .ok (.iinc 1 1, 3) := by decide +kernel
theorem dX6_makeKey_136 : decode cX6_makeKey 136 = .ok (.goto (-30), 3) := by decide +kernel
theorem dX6_makeKey_139 : decode cX6_makeKey 139 = .ok (.aload_n 0, 1) := by decide +kernel
theorem dX6_makeKey_140 : decode cX6_makeKey 140 = .ok (.invokevirtual 185, 3) := by decide +kernel
theorem dX6_makeKey_143 : decode cX6_makeKey 143 = .ok (.aload_n 0, 1) := by decide +kernel
theorem dX6_makeKey_144 : decode cX6_makeKey 144 = .ok (.aload_n 0, 1) := by decide +kernel
theorem dX6_makeKey_145 : decode cX6_makeKey 145 = .ok (.getfield 16, 3) := by decide +kernel
theorem dX6_makeKey_148 : decode cX6_makeKey 148 = .ok (.iconst 2, 1) := by decide +kernel
theorem dX6_makeKey_149 : decode cX6_makeKey 149 = .ok (.if_icmp .le 8, 3) := by decide +kernel
theorem dX6_makeKey_152 : decode cX6_makeKey 152 = .ok (.bipush 50, 2) := by decide +kernel
theorem dX6_makeKey_154 : decode cX6_makeKey 154 = .ok (.goto 4, 3) := by decide +kernel
theorem dX6_makeKey_157 : decode cX6_makeKey 157 = .ok (.iconst 0, 1) := by decide +kernel
theorem dX6_makeKey_158 : decode cX6_makeKey 158 = .ok (.aload_n 0, 1) := by decide +kernel
theorem dX6_makeKey_159 : decode cX6_makeKey 159 = .ok (.getfield 20, 3) := by decide +kernel
theorem dX6_makeKey_162 : decode cX6_makeKey 162 = .ok (.invokevirtual 210, 3) := by decide +kernel
theorem dX6_makeKey_165 : decode cX6_makeKey 165 = .ok (.aload_n 0, 1) := by decide +kernel
theorem dX6_makeKey_166 : decode cX6_makeKey 166 = .ok (.aload_n 0, 1) := by decide +kernel
theorem dX6_makeKey_167 : decode cX6_makeKey 167 = .ok (.getfield 20, 3) := by decide +kernel
theorem dX6_makeKey_170 : decode cX6_makeKey 170 = .ok (.invokevirtual 214, 3) := by decide +kernel
theorem dX6_makeKey_173 : decode cX6_makeKey 173 = .ok (.return_, 1) := by decide +kernel
theorem dX6_takeHand_0 : decode cX6_takeHand 0 = .ok (.aload_n 0, 1) := by decide +kernel
theorem dX6_takeHand_1 : decode cX6_takeHand 1 = .ok (.iload_n 1, 1) := by decide +kernel
theorem dX6_takeHand_2 : decode cX6_takeHand 2 = .ok (.putfield 188, 3) := by decide +kernel
theorem dX6_takeHand_5 : decode cX6_takeHand 5 = .ok (.iconst 0, 1) := by decide +kernel
theorem dX6_takeHand_6 : decode cX6_takeHand 6 = .ok (.istore_n 2, 1) := by decide +kernel
theorem dX6_takeHand_7 : decode cX6_takeHand 7 = .ok (.iload_n 2, 1) := by decide +kernel
theorem dX6_takeHand_8 : decode cX6_takeHand 8 = .ok (.iload_n 1, 1) := by decide +kernel
theorem dX6_takeHand_9 : decode cX6_takeHand 9 = .ok (.if_icmp .ge 21, 3) := by decide +kernel
theorem dX6_takeHand_12 : decode cX6_takeHand 12 = .ok (.aload_n 0, 1) := by decide +kernel
theorem dX6_takeHand_13 : decode cX6_takeHand 13 = .ok (.getfield 126, 3) := by decide +kernel
theorem dX6_takeHand_16 : decode cX6_takeHand 16 = .ok (.iload_n 2, 1) := by decide +kernel
theorem dX6_takeHand_17 : decode cX6_takeHand 17 = .ok (.aload_n 0, 1) := by decide +kernel
theorem dX6_takeHand_18 : decode cX6_takeHand 18 = .ok (.getfield 47, 3) := by decide +kernel
theorem dX6_takeHand_21 : decode cX6_takeHand 21 = .ok (.iload_n 2, 1) := by decide +kernel
theorem dX6_takeHand_22 : decode cX6_takeHand 22 = .ok (.iaload, 1) := by decide +kernel
theorem dX6_takeHand_23 : decode cX6_takeHand 23 = .ok (.iastore, 1) := by decide +kernel
theorem dX6_takeHand_24 : decode cX6_takeHand 24 = .ok (.iinc 2 1, 3) := by decide +kernel
theorem dX6_takeHand_27 : decode cX6_takeHand 27 = .ok (.goto (-20), 3) := by decide +kernel
theorem dX6_takeHand_30 : decode cX6_takeHand 30 = .ok (.return_, 1) := by decide +kernel
theorem dX6_makeOwnerKey_0 : decode cX6_makeOwnerKey 0 = .ok (.iconst 0, 1) := by decide +kernel
theorem dX6_makeOwnerKey_1 : decode cX6_makeOwnerKey 1 = .ok (.istore_n 1, 1) := by decide +kernel
theorem dX6_makeOwnerKey_2 : decode cX6_makeOwnerKey 2 = .ok (.iload_n 1, 1) := by decide +kernel
theorem dX6_makeOwnerKey_3 : decode cX6_makeOwnerKey 3 = .ok (.bipush 32, 2) := by decide +kernel
theorem dX6_makeOwnerKey_5 : decode cX6_makeOwnerKey 5 = .ok (.if_icmp .ge 19, 3) := by decide +kernel
theorem dX6_makeOwnerKey_8 : decode cX6_makeOwnerKey 8 = .ok (.aload_n 0, 1) := by decide +kernel
theorem dX6_makeOwnerKey_9 : decode cX6_makeOwnerKey 9 = .ok (.aload_n 0, 1) := by decide +kernel
theorem dX6_makeOwnerKey_10 : decode cX6_makeOwnerKey 10 = .ok (.getfield 135, 3) := by decide +kernel
theorem dX6_makeOwnerKey_13 : decode cX6_makeOwnerKey 13 = .ok (.iload_n 1, 1) := by decide +kernel
theorem dX6_makeOwnerKey_14 : decode cX6_makeOwnerKey 14 = .ok (.iaload, 1) := by decide +kernel
theorem dX6_makeOwnerKey_15 : decode cX6_makeOwnerKey 15 = .ok (.invokevirtual 174, 3) := by decide +kernel
theorem dX6_makeOwnerKey_18 : decode cX6_makeOwnerKey 18 = .ok (.iinc 1 1, 3) := by decide +kernel
theorem dX6_makeOwnerKey_21 : decode cX6_makeOwnerKey 21 = .ok (.goto (-19), 3) := by decide +kernel
theorem dX6_makeOwnerKey_24 : decode cX6_makeOwnerKey 24 = .ok (.aload_n 0, 1) := by decide +kernel
theorem dX6_makeOwnerKey_25 : decode cX6_makeOwnerKey 25 = .ok (.invokevirtual 185, 3) := by decide +kernel
theorem dX6_makeOwnerKey_28 : decode cX6_makeOwnerKey 28 = .ok (.aload_n 0, 1) := by decide +kernel
theorem dX6_makeOwnerKey_29 : decode cX6_makeOwnerKey 29 = .ok (.aload_n 0, 1) := by decide +kernel
theorem dX6_makeOwnerKey_30 : decode cX6_makeOwnerKey 30 = .ok (.getfield 16, 3) := by decide +kernel
theorem dX6_makeOwnerKey_33 : decode cX6_makeOwnerKey 33 = .ok (.iconst 2, 1) := by decide +kernel
theorem dX6_makeOwnerKey_34 : decode cX6_makeOwnerKey 34 = .ok (.if_icmp .le 8, 3) := by decide +kernel
theorem dX6_makeOwnerKey_37 : decode cX6_makeOwnerKey 37 = .ok (.bipush 50, 2) := by decide +kernel
theorem dX6_makeOwnerKey_39 : decode cX6_makeOwnerKey 39 = .ok (.goto 4, 3) := by decide +kernel
theorem dX6_makeOwnerKey_42 : decode cX6_makeOwnerKey 42 = .ok (.iconst 0, 1) := by decide +kernel
theorem dX6_makeOwnerKey_43 : decode cX6_makeOwnerKey 43 = .ok (.bipush 16, 2) := by decide +kernel
theorem dX6_makeOwnerKey_45 : decode cX6_makeOwnerKey 45 = .ok (.invokevirtual 210, 3) := by decide +kernel
theorem dX6_makeOwnerKey_48 : decode cX6_makeOwnerKey 48 = .ok (.aload_n 0, 1) := by decide +kernel
theorem dX6_makeOwnerKey_49 : decode cX6_makeOwnerKey 49 = .ok (.aload_n 0, 1) := by decide +kernel
theorem dX6_makeOwnerKey_50 : decode cX6_makeOwnerKey 50 = .ok (.getfield 20, 3) := by decide +kernel
theorem dX6_makeOwnerKey_53 : decode cX6_makeOwnerKey 53 = .ok (.invokevirtual 214, 3) := by decide +kernel
theorem dX6_makeOwnerKey_56 : decode cX6_makeOwnerKey 56 = .ok (.return_, 1) := by decide +kernel
theorem dX6_makeUserEntry_0 : decode cX6_makeUserEntry 0 = .ok (.iconst 0, 1) := by decide +kernel
theorem dX6_makeUserEntry_1 : decode cX6_makeUserEntry 1 = .ok (.istore_n 1, 1) := by decide +kernel
theorem dX6_makeUserEntry_2 : decode cX6_makeUserEntry 2 = .ok (.iload_n 1, 1) := by decide +kernel
theorem dX6_makeUserEntry_3 : decode cX6_makeUserEntry 3 = .ok (.bipush 32, 2) := by decide +kernel
theorem dX6_makeUserEntry_5 : decode cX6_makeUserEntry 5 = .ok (.if_icmp .ge 21, 3) := by decide +kernel
theorem dX6_makeUserEntry_8 : decode cX6_makeUserEntry 8 = .ok (.aload_n 0, 1) := by decide +kernel
theorem dX6_makeUserEntry_9 : decode cX6_makeUserEntry 9 = .ok (.getfield 132, 3) := by decide +kernel
theorem dX6_makeUserEntry_12 : decode cX6_makeUserEntry 12 = .ok (.iload_n 1, 1) := by decide +kernel
theorem dX6_makeUserEntry_13 : decode cX6_makeUserEntry 13 = .ok (.aload_n 0, 1) := by decide +kernel
theorem dX6_makeUserEntry_14 : decode cX6_makeUserEntry 14 = .ok (.getfield 123, 3) := by decide +kernel
theorem dX6_makeUserEntry_17 : decode cX6_makeUserEntry 17 = .ok (.iload_n 1, 1) := by decide +kernel
theorem dX6_makeUserEntry_18 : decode cX6_makeUserEntry 18 = .ok (.iaload, 1) := by decide +kernel
theorem dX6_makeUserEntry_19 : decode cX6_makeUserEntry 19 = .ok (.iastore, 1) := by decide +kernel
theorem dX6_makeUserEntry_20 : decode cX6_makeUserEntry 20 = .ok (.iinc 1 1, 3) := by decide +kernel
theorem dX6_makeUserEntry_23 : decode cX6_makeUserEntry 23 = .ok (.goto (-21), 3) := by decide +kernel
theorem dX6_makeUserEntry_26 : decode cX6_makeUserEntry 26 = .ok (.aload_n 0, 1) := by decide +kernel
theorem dX6_makeUserEntry_27 : decode cX6_makeUserEntry 27 = .ok (.getfield 16, 3) := by decide +kernel
theorem dX6_makeUserEntry_30 : decode cX6_makeUserEntry 30 = .ok (.iconst 2, 1) := by decide +kernel
theorem dX6_makeUserEntry_31 : decode cX6_makeUserEntry 31 = .ok (.if_icmp .ne 11, 3) := by decide +kernel
theorem dX6_makeUserEntry_34 : decode cX6_makeUserEntry 34 = .ok (.aload_n 0, 1) := by decide +kernel
theorem dX6_makeUserEntry_35 : decode cX6_makeUserEntry 35 = .ok (.iconst 0, 1) := by decide +kernel
theorem dX6_makeUserEntry_36 : decode cX6_makeUserEntry 36 = .ok (.bipush 32, 2) := by decide +kernel
theorem dX6_makeUserEntry_38 : decode cX6_makeUserEntry 38 = .ok (.invokevirtual 217, 3) := by decide +kernel
theorem dX6_makeUserEntry_41 : decode cX6_makeUserEntry 41 = .ok (.return_, 1) := by decide +kernel
theorem dX6_makeUserEntry_42 : decode cX6_makeUserEntry 42 = .ok (.iconst 0, 1) := by decide +kernel
theorem dX6_makeUserEntry_43 : decode cX6_makeUserEntry 43 = .ok (.istore_n 1, 1) := by decide +kernel
theorem dX6_makeUserEntry_44 : decode cX6_makeUserEntry 44 = .ok (.iload_n 1, 1) := by decide +kernel
theorem dX6_makeUserEntry_45 : decode cX6_makeUserEntry 45 = .ok (.bipush 32, 2) := by decide +kernel
theorem dX6_makeUserEntry_47 : decode cX6_makeUserEntry 47 = .ok (.if_icmp .ge 19, 3) := by decide +kernel
theorem dX6_makeUserEntry_50 : decode cX6_makeUserEntry 50 = .ok (.aload_n 0, 1) := by decide +kernel
theorem dX6_makeUserEntry_51 : decode cX6_makeUserEntry 51 = .ok (.aload_n 0, 1) := by decide +kernel
theorem dX6_makeUserEntry_52 : decode cX6_makeUserEntry 52 = .ok (.getfield 123, 3) := by decide +kernel
theorem dX6_makeUserEntry_55 : decode cX6_makeUserEntry 55 = .ok (.iload_n 1, 1) := by decide +kernel
theorem dX6_makeUserEntry_56 : decode cX6_makeUserEntry 56 = .ok (.iaload, 1) := by decide +kernel
theorem dX6_makeUserEntry_57 : decode cX6_makeUserEntry 57 = .ok (.invokevirtual 174, 3) := by decide +kernel
theorem dX6_makeUserEntry_60 : decode cX6_makeUserEntry 60 = .ok (.iinc 1 1, 3) := by decide +kernel
theorem dX6_makeUserEntry_63 : decode cX6_makeUserEntry 63 = .ok (.goto (-19), 3) := by decide +kernel
theorem dX6_makeUserEntry_66 : decode cX6_makeUserEntry 66 = .ok (.iconst 0, 1) := by decide +kernel
theorem dX6_makeUserEntry_67 : decode cX6_makeUserEntry 67 = .ok (.istore_n 1, 1) := by decide +kernel
theorem dX6_makeUserEntry_68 : decode cX6_makeUserEntry 68 = .ok (.iload_n 1, 1) := by decide +kernel
theorem dX6_makeUserEntry_69 : decode cX6_makeUserEntry 69 = .ok (.aload_n 0, 1) := by decide +kernel
theorem dX6_makeUserEntry_70 : decode cX6_makeUserEntry 70 = .ok (.getfield 203, 3) := by decide +kernel
theorem dX6_makeUserEntry_73 : decode cX6_makeUserEntry 73 = .ok (.if_icmp .ge 19, 3) := by decide +kernel
theorem dX6_makeUserEntry_76 : decode cX6_makeUserEntry 76 = .ok (.aload_n 0, 1) := by decide +kernel
theorem dX6_makeUserEntry_77 : decode cX6_makeUserEntry 77 = .ok (.aload_n 0, 1) := by decide +kernel
theorem dX6_makeUserEntry_78 : decode cX6_makeUserEntry 78 = .ok (.getfield 32, 3) := by decide +kernel
theorem dX6_makeUserEntry_81 : decode cX6_makeUserEntry 81 = .ok (.iload_n 1, 1) := by decide +kernel
theorem dX6_makeUserEntry_82 : decode cX6_makeUserEntry 82 = .ok (.iaload, 1) := by decide +kernel
theorem dX6_makeUserEntry_83 : decode cX6_makeUserEntry 83 = .ok (.invokevirtual 174, 3) := by decide +kernel
theorem dX6_makeUserEntry_86 : decode cX6_makeUserEntry 86 = .ok (.iinc 1 1, 3) := by decide +kernel
theorem dX6_makeUserEntry_89 : decode cX6_makeUserEntry 89 = .ok (.goto (-21), 3) := by decide +kernel
theorem dX6_makeUserEntry_92 : decode cX6_makeUserEntry 92 = .ok (.aload_n 0, 1) := by decide +kernel
theorem dX6_makeUserEntry_93 : decode cX6_makeUserEntry 93 = .ok (.invokevirtual 185, 3) := by decide +kernel
theorem dX6_makeUserEntry_96 : decode cX6_makeUserEntry 96 = .ok (.iconst 0, 1) := by decide +kernel
theorem dX6_makeUserEntry_97 : decode cX6_makeUserEntry 97 = .ok (.istore_n 1, 1) := by decide +kernel
theorem dX6_makeUserEntry_98 : decode cX6_makeUserEntry 98 = .ok (.iload_n 1, 1) := by decide +kernel
theorem dX6_makeUserEntry_99 : decode cX6_makeUserEntry 99 = .ok (.bipush 32, 2) := by decide +kernel
theorem dX6_makeUserEntry_101 : decode cX6_makeUserEntry 101 = .ok (.if_icmp .ge 31, 3) := by decide +kernel
theorem dX6_makeUserEntry_104 : decode cX6_makeUserEntry 104 = .ok (.aload_n 0, 1) := by decide +kernel
theorem dX6_makeUserEntry_105 : decode cX6_makeUserEntry 105 = .ok (.getfield 132, 3) := by decide +kernel
theorem dX6_makeUserEntry_108 : decode cX6_makeUserEntry 108 = .ok (.iload_n 1, 1) := by decide +kernel
theorem dX6_makeUserEntry_109 : decode cX6_makeUserEntry 109 = .ok (.iload_n 1, 1) := by decide +kernel
theorem dX6_makeUserEntry_110 : decode cX6_makeUserEntry 110 = .ok (.bipush 16, 2) := by decide +kernel
theorem dX6_makeUserEntry_112 : decode cX6_makeUserEntry 112 = .ok (.if_icmp .ge 12, 3) := by decide +kernel
theorem dX6_makeUserEntry_115 : decode cX6_makeUserEntry 115 = .ok (.aload_n 0, 1) := by decide +kernel
theorem dX6_makeUserEntry_116 : decode cX6_makeUserEntry 116 = .ok (.getfield 47, 3) := by decide +kernel
theorem dX6_makeUserEntry_119 : decode cX6_makeUserEntry 119 = .ok (.iload_n 1, 1) := by decide +kernel
theorem dX6_makeUserEntry_120 : decode cX6_makeUserEntry 120 = .ok (.iaload, 1) := by decide +kernel
theorem dX6_makeUserEntry_121 : decode cX6_makeUserEntry 121 = .ok (.goto 4, 3) := by decide +kernel
theorem dX6_makeUserEntry_124 : decode cX6_makeUserEntry 124 = .ok (.iconst 0, 1) := by decide +kernel
theorem dX6_makeUserEntry_125 : decode cX6_makeUserEntry 125 = .ok (.iastore, 1) := by decide +kernel
theorem dX6_makeUserEntry_126 : decode cX6_makeUserEntry 126 = .ok (.iinc 1 1, 3) := by decide +kernel
theorem dX6_makeUserEntry_129 : decode cX6_makeUserEntry 129 = .ok (.goto (-31), 3) := by decide +kernel
theorem dX6_makeUserEntry_132 : decode cX6_makeUserEntry 132 = .ok (.iconst 0, 1) := by decide +kernel
theorem dX6_makeUserEntry_133 : decode cX6_makeUserEntry 133 = .ok (.istore_n 1, 1) := by decide +kernel
theorem dX6_makeUserEntry_134 : decode cX6_makeUserEntry 134 = .ok (.iload_n 1, 1) := by decide +kernel
end
section
theorem dX6_makeUserEntry_135 : decode cX6_makeUserEntry 135 = .ok (.bipush 20, 2) := by decide +kernel
theorem dX6_makeUserEntry_137 : decode cX6_makeUserEntry 137 = .ok (.if_icmp .ge 16, 3) := by decide +kernel
theorem dX6_makeUserEntry_140 : decode cX6_makeUserEntry 140 = .ok (.aload_n 0, 1) := by decide +kernel
theorem dX6_makeUserEntry_141 : decode cX6_makeUserEntry 141 = .ok (.iload_n 1, 1) := by decide +kernel
theorem dX6_makeUserEntry_142 : decode cX6_makeUserEntry 142 = .ok (.bipush 16, 2) := by decide +kernel
theorem dX6_makeUserEntry_144 : decode cX6_makeUserEntry 144 = .ok (.invokevirtual 217, 3) := by decide +kernel
theorem dX6_makeUserEntry_147 : decode cX6_makeUserEntry 147 = .ok (.iinc 1 1, 3) := by decide +kernel
theorem dX6_makeUserEntry_150 : decode cX6_makeUserEntry 150 = .ok (.goto (-16), 3) := by decide +kernel
theorem dX6_makeUserEntry_153 : decode cX6_makeUserEntry 153 = .ok (.return_, 1) := by decide +kernel
theorem dX6_handler_0 : decode cX6_handler 0 = .ok (.iload_n 1, 1) := by decide +kernel
theorem dX6_handler_1 : decode cX6_handler 1 = .ok (.iconst 2, 1) := by decide +kernel
theorem dX6_handler_2 : decode cX6_handler 2 = .ok (.if_icmp .lt 33, 3) := by decide +kernel
theorem dX6_handler_5 : decode cX6_handler 5 = .ok (.iload_n 1, 1) := by decide +kernel
theorem dX6_handler_6 : decode cX6_handler 6 = .ok (.iconst 4, 1) := by decide +kernel
theorem dX6_handler_7 : decode cX6_handler 7 = .ok (.if_icmp .gt 28, 3) := by decide +kernel
theorem dX6_handler_10 : decode cX6_handler 10 = .ok (.iload_n 2, 1) := by decide +kernel
theorem dX6_handler_11 : decode cX6_handler 11 = .ok (.iconst 5, 1) := by decide +kernel
theorem dX6_handler_12 : decode cX6_handler 12 = .ok (.if_icmp .lt 23, 3) := by decide +kernel
theorem dX6_handler_15 : decode cX6_handler 15 = .ok (.iload_n 2, 1) := by decide +kernel
theorem dX6_handler_16 : decode cX6_handler 16 = .ok (.bipush 16, 2) := by decide +kernel
theorem dX6_handler_18 : decode cX6_handler 18 = .ok (.if_icmp .gt 17, 3) := by decide +kernel
theorem dX6_handler_21 : decode cX6_handler 21 = .ok (.iload_n 1, 1) := by decide +kernel
theorem dX6_handler_22 : decode cX6_handler 22 = .ok (.iconst 2, 1) := by decide +kernel
theorem dX6_handler_23 : decode cX6_handler 23 = .ok (.if_icmp .gt 8, 3) := by decide +kernel
theorem dX6_handler_26 : decode cX6_handler 26 = .ok (.iload_n 2, 1) := by decide +kernel
theorem dX6_handler_27 : decode cX6_handler 27 = .ok (.iconst 5, 1) := by decide +kernel
theorem dX6_handler_28 : decode cX6_handler 28 = .ok (.if_icmp .ne 7, 3) := by decide +kernel
theorem dX6_handler_31 : decode cX6_handler 31 = .ok (.iconst 1, 1) := by decide +kernel
theorem dX6_handler_32 : decode cX6_handler 32 = .ok (.goto 4, 3) := by decide +kernel
theorem dX6_handler_35 : decode cX6_handler 35 = .ok (.iconst 0, 1) := by decide +kernel
theorem dX6_handler_36 : decode cX6_handler 36 = .ok (.istore 5, 2) := by decide +kernel
theorem dX6_handler_38 : decode cX6_handler 38 = .ok (.aload_n 0, 1) := by decide +kernel
theorem dX6_handler_39 : decode cX6_handler 39 = .ok (.iload 5, 2) := by decide +kernel
theorem dX6_handler_41 : decode cX6_handler 41 = .ok (.ifCond .eq 7, 3) := by decide +kernel
theorem dX6_handler_44 : decode cX6_handler 44 = .ok (.iconst 0, 1) := by decide +kernel
theorem dX6_handler_45 : decode cX6_handler 45 = .ok (.goto 4, 3) := by decide +kernel
theorem dX6_handler_48 : decode cX6_handler 48 = .ok (.iconst 1, 1) := by decide +kernel
theorem dX6_handler_49 : decode cX6_handler 49 = .ok (.invokevirtual 159, 3) := by decide +kernel
theorem dX6_handler_52 : decode cX6_handler 52 = .ok (.ifCond .eq 4, 3) := by decide +kernel
theorem dX6_handler_55 : decode cX6_handler 55 = .ok (.return_, 1) := by decide +kernel
theorem dX6_handler_56 : decode cX6_handler 56 = .ok (.aload_n 0, 1) := by decide +kernel
theorem dX6_handler_57 : decode cX6_handler 57 = .ok (.iload_n 1, 1) := by decide +kernel
theorem dX6_handler_58 : decode cX6_handler 58 = .ok (.putfield 16, 3) := by decide +kernel
theorem dX6_handler_61 : decode cX6_handler 61 = .ok (.aload_n 0, 1) := by decide +kernel
theorem dX6_handler_62 : decode cX6_handler 62 = .ok (.iload_n 2, 1) := by decide +kernel
theorem dX6_handler_63 : decode cX6_handler 63 = .ok (.putfield 20, 3) := by decide +kernel
theorem dX6_handler_66 : decode cX6_handler 66 = .ok (.aload_n 0, 1) := by decide +kernel
theorem dX6_handler_67 : decode cX6_handler 67 = .ok (.iload_n 3, 1) := by decide +kernel
theorem dX6_handler_68 : decode cX6_handler 68 = .ok (.putfield 23, 3) := by decide +kernel
theorem dX6_handler_71 : decode cX6_handler 71 = .ok (.aload_n 0, 1) := by decide +kernel
theorem dX6_handler_72 : decode cX6_handler 72 = .ok (.iload 4, 2) := by decide +kernel
theorem dX6_handler_74 : decode cX6_handler 74 = .ok (.putfield 206, 3) := by decide +kernel
theorem dX6_handler_77 : decode cX6_handler 77 = .ok (.aload_n 0, 1) := by decide +kernel
theorem dX6_handler_78 : decode cX6_handler 78 = .ok (.iconst 0, 1) := by decide +kernel
theorem dX6_handler_79 : decode cX6_handler 79 = .ok (.putfield 220, 3) := by decide +kernel
theorem dX6_handler_82 : decode cX6_handler 82 = .ok (.return_, 1) := by decide +kernel
theorem dX6_take_0 : decode cX6_take 0 = .ok (.iload_n 1, 1) := by decide +kernel
theorem dX6_take_1 : decode cX6_take 1 = .ok (.ifCond .lt 12, 3) := by decide +kernel
theorem dX6_take_4 : decode cX6_take 4 = .ok (.iload_n 1, 1) := by decide +kernel
theorem dX6_take_5 : decode cX6_take 5 = .ok (.iconst 4, 1) := by decide +kernel
theorem dX6_take_6 : decode cX6_take 6 = .ok (.if_icmp .gt 7, 3) := by decide +kernel
theorem dX6_take_9 : decode cX6_take 9 = .ok (.iconst 1, 1) := by decide +kernel
theorem dX6_take_10 : decode cX6_take 10 = .ok (.goto 4, 3) := by decide +kernel
theorem dX6_take_13 : decode cX6_take 13 = .ok (.iconst 0, 1) := by decide +kernel
theorem dX6_take_14 : decode cX6_take 14 = .ok (.istore_n 2, 1) := by decide +kernel
theorem dX6_take_15 : decode cX6_take 15 = .ok (.iload_n 1, 1) := by decide +kernel
theorem dX6_take_16 : decode cX6_take 16 = .ok (.iconst 2, 1) := by decide +kernel
theorem dX6_take_17 : decode cX6_take 17 = .ok (.if_icmp .ge 20, 3) := by decide +kernel
theorem dX6_take_20 : decode cX6_take 20 = .ok (.aload_n 0, 1) := by decide +kernel
theorem dX6_take_21 : decode cX6_take 21 = .ok (.getfield 156, 3) := by decide +kernel
theorem dX6_take_24 : decode cX6_take 24 = .ok (.bipush 32, 2) := by decide +kernel
theorem dX6_take_26 : decode cX6_take 26 = .ok (.if_icmp .ne 7, 3) := by decide +kernel
theorem dX6_take_29 : decode cX6_take 29 = .ok (.iconst 1, 1) := by decide +kernel
theorem dX6_take_30 : decode cX6_take 30 = .ok (.goto 21, 3) := by decide +kernel
theorem dX6_take_33 : decode cX6_take 33 = .ok (.iconst 0, 1) := by decide +kernel
theorem dX6_take_34 : decode cX6_take 34 = .ok (.goto 17, 3) := by decide +kernel
theorem dX6_take_37 : decode cX6_take 37 = .ok (.aload_n 0, 1) := by decide +kernel
theorem dX6_take_38 : decode cX6_take 38 = .ok (.getfield 156, 3) := by decide +kernel
theorem dX6_take_41 : decode cX6_take 41 = .ok (.bipush 64, 2) := by decide +kernel
theorem dX6_take_43 : decode cX6_take 43 = .ok (.if_icmp .gt 7, 3) := by decide +kernel
theorem dX6_take_46 : decode cX6_take 46 = .ok (.iconst 1, 1) := by decide +kernel
theorem dX6_take_47 : decode cX6_take 47 = .ok (.goto 4, 3) := by decide +kernel
theorem dX6_take_50 : decode cX6_take 50 = .ok (.iconst 0, 1) := by decide +kernel
theorem dX6_take_51 : decode cX6_take 51 = .ok (.istore_n 3, 1) := by decide +kernel
theorem dX6_take_52 : decode cX6_take 52 = .ok (.aload_n 0, 1) := by decide +kernel
theorem dX6_take_53 : decode cX6_take 53 = .ok (.iload_n 2, 1) := by decide +kernel
theorem dX6_take_54 : decode cX6_take 54 = .ok (.ifCond .ne 7, 3) := by decide +kernel
theorem dX6_take_57 : decode cX6_take 57 = .ok (.iconst 1, 1) := by decide +kernel
theorem dX6_take_58 : decode cX6_take 58 = .ok (.goto 12, 3) := by decide +kernel
theorem dX6_take_61 : decode cX6_take 61 = .ok (.iload_n 3, 1) := by decide +kernel
theorem dX6_take_62 : decode cX6_take 62 = .ok (.ifCond .ne 7, 3) := by decide +kernel
theorem dX6_take_65 : decode cX6_take 65 = .ok (.iconst 2, 1) := by decide +kernel
theorem dX6_take_66 : decode cX6_take 66 = .ok (.goto 4, 3) := by decide +kernel
theorem dX6_take_69 : decode cX6_take 69 = .ok (.iconst 0, 1) := by decide +kernel
theorem dX6_take_70 : decode cX6_take 70 = .ok (.invokevirtual 159, 3) := by decide +kernel
theorem dX6_take_73 : decode cX6_take 73 = .ok (.ifCond .eq 5, 3) := by decide +kernel
theorem dX6_take_76 : decode cX6_take 76 = .ok (.iconst 0, 1) := by decide +kernel
theorem dX6_take_77 : decode cX6_take 77 = .ok (.ireturn, 1) := by decide +kernel
theorem dX6_take_78 : decode cX6_take 78 = .ok (.aload_n 0, 1) := by decide +kernel
theorem dX6_take_79 : decode cX6_take 79 = .ok (.iload_n 1, 1) := by decide +kernel
theorem dX6_take_80 : decode cX6_take 80 = .ok (.iconst 2, 1) := by decide +kernel
theorem dX6_take_81 : decode cX6_take 81 = .ok (.if_icmp .ne 10, 3) := by decide +kernel
theorem dX6_take_84 : decode cX6_take 84 = .ok (.aload_n 0, 1) := by decide +kernel
theorem dX6_take_85 : decode cX6_take 85 = .ok (.getfield 156, 3) := by decide +kernel
theorem dX6_take_88 : decode cX6_take 88 = .ok (.goto 7, 3) := by decide +kernel
theorem dX6_take_91 : decode cX6_take 91 = .ok (.aload_n 0, 1) := by decide +kernel
theorem dX6_take_92 : decode cX6_take 92 = .ok (.getfield 203, 3) := by decide +kernel
theorem dX6_take_95 : decode cX6_take 95 = .ok (.putfield 203, 3) := by decide +kernel
theorem dX6_take_98 : decode cX6_take 98 = .ok (.aload_n 0, 1) := by decide +kernel
theorem dX6_take_99 : decode cX6_take 99 = .ok (.iload_n 1, 1) := by decide +kernel
theorem dX6_take_100 : decode cX6_take 100 = .ok (.iconst 3, 1) := by decide +kernel
theorem dX6_take_101 : decode cX6_take 101 = .ok (.if_icmp .ne 10, 3) := by decide +kernel
theorem dX6_take_104 : decode cX6_take 104 = .ok (.aload_n 0, 1) := by decide +kernel
theorem dX6_take_105 : decode cX6_take 105 = .ok (.getfield 156, 3) := by decide +kernel
theorem dX6_take_108 : decode cX6_take 108 = .ok (.goto 7, 3) := by decide +kernel
theorem dX6_take_111 : decode cX6_take 111 = .ok (.aload_n 0, 1) := by decide +kernel
theorem dX6_take_112 : decode cX6_take 112 = .ok (.getfield 197, 3) := by decide +kernel
theorem dX6_take_115 : decode cX6_take 115 = .ok (.putfield 197, 3) := by decide +kernel
theorem dX6_take_118 : decode cX6_take 118 = .ok (.aload_n 0, 1) := by decide +kernel
theorem dX6_take_119 : decode cX6_take 119 = .ok (.iload_n 1, 1) := by decide +kernel
theorem dX6_take_120 : decode cX6_take 120 = .ok (.iconst 4, 1) := by decide +kernel
theorem dX6_take_121 : decode cX6_take 121 = .ok (.if_icmp .ne 10, 3) := by decide +kernel
theorem dX6_take_124 : decode cX6_take 124 = .ok (.aload_n 0, 1) := by decide +kernel
theorem dX6_take_125 : decode cX6_take 125 = .ok (.getfield 156, 3) := by decide +kernel
theorem dX6_take_128 : decode cX6_take 128 = .ok (.goto 7, 3) := by decide +kernel
theorem dX6_take_131 : decode cX6_take 131 = .ok (.aload_n 0, 1) := by decide +kernel
theorem dX6_take_132 : decode cX6_take 132 = .ok (.getfield 200, 3) := by decide +kernel
theorem dX6_take_135 : decode cX6_take 135 = .ok (.putfield 200, 3) := by decide +kernel
theorem dX6_take_138 : decode cX6_take 138 = .ok (.aload_n 0, 1) := by decide +kernel
theorem dX6_take_139 : decode cX6_take 139 = .ok (.aload_n 0, 1) := by decide +kernel
theorem dX6_take_140 : decode cX6_take 140 = .ok (.getfield 220, 3) := by decide +kernel
theorem dX6_take_143 : decode cX6_take 143 = .ok (.ifCond .eq 12, 3) := by decide +kernel
theorem dX6_take_146 : decode cX6_take 146 = .ok (.iload_n 1, 1) := by decide +kernel
theorem dX6_take_147 : decode cX6_take 147 = .ok (.iconst 2, 1) := by decide +kernel
theorem dX6_take_148 : decode cX6_take 148 = .ok (.if_icmp .le 7, 3) := by decide +kernel
theorem dX6_take_151 : decode cX6_take 151 = .ok (.iconst 1, 1) := by decide +kernel
theorem dX6_take_152 : decode cX6_take 152 = .ok (.goto 4, 3) := by decide +kernel
theorem dX6_take_155 : decode cX6_take 155 = .ok (.iconst 0, 1) := by decide +kernel
theorem dX6_take_156 : decode cX6_take 156 = .ok (.putfield 220, 3) := by decide +kernel
theorem dX6_take_159 : decode cX6_take 159 = .ok (.iconst 0, 1) := by decide +kernel
theorem dX6_take_160 : decode cX6_take 160 = .ok (.istore 4, 2) := by decide +kernel
theorem dX6_take_162 : decode cX6_take 162 = .ok (.iload 4, 2) := by decide +kernel
theorem dX6_take_164 : decode cX6_take 164 = .ok (.aload_n 0, 1) := by decide +kernel
theorem dX6_take_165 : decode cX6_take 165 = .ok (.getfield 156, 3) := by decide +kernel
theorem dX6_take_168 : decode cX6_take 168 = .ok (.if_icmp .ge 124, 3) := by decide +kernel
theorem dX6_take_171 : decode cX6_take 171 = .ok (.iload_n 1, 1) := by decide +kernel
theorem dX6_take_172 : decode cX6_take 172 = .ok (.tableswitch 100 0 3 #[32, 49, 66, 83], 32) := by decide +kernel
theorem dX6_take_204 : decode cX6_take 204 = .ok (.aload_n 0, 1) := by decide +kernel
theorem dX6_take_205 : decode cX6_take 205 = .ok (.getfield 26, 3) := by decide +kernel
theorem dX6_take_208 : decode cX6_take 208 = .ok (.iload 4, 2) := by decide +kernel
theorem dX6_take_210 : decode cX6_take 210 = .ok (.aload_n 0, 1) := by decide +kernel
theorem dX6_take_211 : decode cX6_take 211 = .ok (.getfield 7, 3) := by decide +kernel
theorem dX6_take_214 : decode cX6_take 214 = .ok (.iload 4, 2) := by decide +kernel
theorem dX6_take_216 : decode cX6_take 216 = .ok (.iaload, 1) := by decide +kernel
theorem dX6_take_217 : decode cX6_take 217 = .ok (.iastore, 1) := by decide +kernel
theorem dX6_take_218 : decode cX6_take 218 = .ok (.goto 68, 3) := by decide +kernel
theorem dX6_take_221 : decode cX6_take 221 = .ok (.aload_n 0, 1) := by decide +kernel
theorem dX6_take_222 : decode cX6_take 222 = .ok (.getfield 29, 3) := by decide +kernel
theorem dX6_take_225 : decode cX6_take 225 = .ok (.iload 4, 2) := by decide +kernel
theorem dX6_take_227 : decode cX6_take 227 = .ok (.aload_n 0, 1) := by decide +kernel
theorem dX6_take_228 : decode cX6_take 228 = .ok (.getfield 7, 3) := by decide +kernel
theorem dX6_take_231 : decode cX6_take 231 = .ok (.iload 4, 2) := by decide +kernel
theorem dX6_take_233 : decode cX6_take 233 = .ok (.iaload, 1) := by decide +kernel
theorem dX6_take_234 : decode cX6_take 234 = .ok (.iastore, 1) := by decide +kernel
theorem dX6_take_235 : decode cX6_take 235 = .ok (.goto 51, 3) := by decide +kernel
theorem dX6_take_238 : decode cX6_take 238 = .ok (.aload_n 0, 1) := by decide +kernel
theorem dX6_take_239 : decode cX6_take 239 = .ok (.getfield 32, 3) := by decide +kernel
theorem dX6_take_242 : decode cX6_take 242 = .ok (.iload 4, 2) := by decide +kernel
theorem dX6_take_244 : decode cX6_take 244 = .ok (.aload_n 0, 1) := by decide +kernel
theorem dX6_take_245 : decode cX6_take 245 = .ok (.getfield 7, 3) := by decide +kernel
theorem dX6_take_248 : decode cX6_take 248 = .ok (.iload 4, 2) := by decide +kernel
theorem dX6_take_250 : decode cX6_take 250 = .ok (.iaload, 1) := by decide +kernel
theorem dX6_take_251 : decode cX6_take 251 = .ok (.iastore, 1) := by decide +kernel
theorem dX6_take_252 : decode cX6_take 252 = .ok (.goto 34, 3) := by decide +kernel
theorem dX6_take_255 : decode cX6_take 255 = .ok (.aload_n 0, 1) := by decide +kernel
theorem dX6_take_256 : decode cX6_take 256 = .ok (.getfield 35, 3) := by decide +kernel
theorem dX6_take_259 : decode cX6_take 259 = .ok (.iload 4, 2) := by decide +kernel
theorem dX6_take_261 : decode cX6_take 261 = .ok (.aload_n 0, 1) := by decide +kernel
theorem dX6_take_262 : decode cX6_take 262 = .ok (.getfield 7, 3) := by decide +kernel
theorem dX6_take_265 : decode cX6_take 265 = .ok (.iload 4, 2) := by decide +kernel
theorem dX6_take_267 : decode cX6_take 267 = .ok (.iaload, 1) := by decide +kernel
theorem dX6_take_268 : decode cX6_take 268 = .ok (.iastore, 1) := by decide +kernel
theorem dX6_take_269 : decode cX6_take 269 = .ok (.goto 17, 3) := by decide +kernel
theorem dX6_take_272 : decode cX6_take 272 = .ok (.aload_n 0, 1) := by decide +kernel
theorem dX6_take_273 : decode cX6_take 273 = .ok (.getfield 38, 3) := by decide +kernel
theorem dX6_take_276 : decode cX6_take 276 = .ok (.iload 4, 2) := by decide +kernel
theorem dX6_take_278 : decode cX6_take 278 = .ok (.aload_n 0, 1) := by decide +kernel
theorem dX6_take_279 : decode cX6_take 279 = .ok (.getfield 7, 3) := by decide +kernel
theorem dX6_take_282 : decode cX6_take 282 = .ok (.iload 4, 2) := by decide +kernel
theorem dX6_take_284 : decode cX6_take 284 = .ok (.iaload, 1) := by decide +kernel
theorem dX6_take_285 : decode cX6_take 285 = .ok (.iastore, 1) := by decide +kernel
theorem dX6_take_286 : decode cX6_take 286 = .ok (.iinc 4 1, 3) := by decide +kernel
theorem dX6_take_289 : decode cX6_take 289 = .ok (.goto (-127), 3) := by decide +kernel
theorem dX6_take_292 : decode cX6_take 292 = .ok (.aload_n 0, 1) := by decide +kernel
theorem dX6_take_293 : decode cX6_take 293 = .ok (.getfield 156, 3) := by decide +kernel
theorem dX6_take_296 : decode cX6_take 296 = .ok (.ireturn, 1) := by decide +kernel
theorem dX6_makeOwnerEntry_0 : decode cX6_makeOwnerEntry 0 = .ok (.aload_n 0, 1) := by decide +kernel
theorem dX6_makeOwnerEntry_1 : decode cX6_makeOwnerEntry 1 = .ok (.iconst 1, 1) := by decide +kernel
theorem dX6_makeOwnerEntry_2 : decode cX6_makeOwnerEntry 2 = .ok (.invokevirtual 223, 3) := by decide +kernel
theorem dX6_makeOwnerEntry_5 : decode cX6_makeOwnerEntry 5 = .ok (.aload_n 0, 1) := by decide +kernel
theorem dX6_makeOwnerEntry_6 : decode cX6_makeOwnerEntry 6 = .ok (.invokevirtual 226, 3) := by decide +kernel
theorem dX6_makeOwnerEntry_9 : decode cX6_makeOwnerEntry 9 = .ok (.aload_n 0, 1) := by decide +kernel
theorem dX6_makeOwnerEntry_10 : decode cX6_makeOwnerEntry 10 = .ok (.iconst 2, 1) := by decide +kernel
theorem dX6_makeOwnerEntry_11 : decode cX6_makeOwnerEntry 11 = .ok (.invokevirtual 223, 3) := by decide +kernel
theorem dX6_makeOwnerEntry_14 : decode cX6_makeOwnerEntry 14 = .ok (.iconst 0, 1) := by decide +kernel
theorem dX6_makeOwnerEntry_15 : decode cX6_makeOwnerEntry 15 = .ok (.istore_n 1, 1) := by decide +kernel
theorem dX6_makeOwnerEntry_16 : decode cX6_makeOwnerEntry 16 = .ok (.iload_n 1, 1) := by decide +kernel
theorem dX6_makeOwnerEntry_17 : decode cX6_makeOwnerEntry 17 = .ok (.bipush 32, 2) := by decide +kernel
theorem dX6_makeOwnerEntry_19 : decode cX6_makeOwnerEntry 19 = .ok (.if_icmp .ge 21, 3) := by decide +kernel
theorem dX6_makeOwnerEntry_22 : decode cX6_makeOwnerEntry 22 = .ok (.aload_n 0, 1) := by decide +kernel
theorem dX6_makeOwnerEntry_23 : decode cX6_makeOwnerEntry 23 = .ok (.getfield 132, 3) := by decide +kernel
theorem dX6_makeOwnerEntry_26 : decode cX6_makeOwnerEntry 26 = .ok (.iload_n 1, 1) := by decide +kernel
theorem dX6_makeOwnerEntry_27 : decode cX6_makeOwnerEntry 27 = .ok (.aload_n 0, 1) := by decide +kernel
theorem dX6_makeOwnerEntry_28 : decode cX6_makeOwnerEntry 28 = .ok (.getfield 135, 3) := by decide +kernel
theorem dX6_makeOwnerEntry_31 : decode cX6_makeOwnerEntry 31 = .ok (.iload_n 1, 1) := by decide +kernel
theorem dX6_makeOwnerEntry_32 : decode cX6_makeOwnerEntry 32 = .ok (.iaload, 1) := by decide +kernel
theorem dX6_makeOwnerEntry_33 : decode cX6_makeOwnerEntry 33 = .ok (.iastore, 1) := by decide +kernel
theorem dX6_makeOwnerEntry_34 : decode cX6_makeOwnerEntry 34 = .ok (.iinc 1 1, 3) := by decide +kernel
theorem dX6_makeOwnerEntry_37 : decode cX6_makeOwnerEntry 37 = .ok (.goto (-21), 3) := by decide +kernel
theorem dX6_makeOwnerEntry_40 : decode cX6_makeOwnerEntry 40 = .ok (.iconst 0, 1) := by decide +kernel
theorem dX6_makeOwnerEntry_41 : decode cX6_makeOwnerEntry 41 = .ok (.istore_n 1, 1) := by decide +kernel
theorem dX6_makeOwnerEntry_42 : decode cX6_makeOwnerEntry 42 = .ok (.iload_n 1, 1) := by decide +kernel
theorem dX6_makeOwnerEntry_43 : decode cX6_makeOwnerEntry 43 = .ok (.aload_n 0, 1) := by decide +kernel
theorem dX6_makeOwnerEntry_44 : decode cX6_makeOwnerEntry 44 = .ok (.getfield 16, 3) := by decide +kernel
theorem dX6_makeOwnerEntry_47 : decode cX6_makeOwnerEntry 47 = .ok (.iconst 2, 1) := by decide +kernel
theorem dX6_makeOwnerEntry_48 : decode cX6_makeOwnerEntry 48 = .ok (.if_icmp .le 8, 3) := by decide +kernel
theorem dX6_makeOwnerEntry_51 : decode cX6_makeOwnerEntry 51 = .ok (.bipush 20, 2) := by decide +kernel
theorem dX6_makeOwnerEntry_53 : decode cX6_makeOwnerEntry 53 = .ok (.goto 4, 3) := by decide +kernel
theorem dX6_makeOwnerEntry_56 : decode cX6_makeOwnerEntry 56 = .ok (.iconst 1, 1) := by decide +kernel
theorem dX6_makeOwnerEntry_57 : decode cX6_makeOwnerEntry 57 = .ok (.if_icmp .ge 16, 3) := by decide +kernel
theorem dX6_makeOwnerEntry_60 : decode cX6_makeOwnerEntry 60 = .ok (.aload_n 0, 1) := by decide +kernel
theorem dX6_makeOwnerEntry_61 : decode cX6_makeOwnerEntry 61 = .ok (.iload_n 1, 1) := by decide +kernel
theorem dX6_makeOwnerEntry_62 : decode cX6_makeOwnerEntry 62 = .ok (.bipush 32, 2) := by decide +kernel
theorem dX6_makeOwnerEntry_64 : decode cX6_makeOwnerEntry 64 = .ok (.invokevirtual 217, 3) := by decide +kernel
theorem dX6_makeOwnerEntry_67 : decode cX6_makeOwnerEntry 67 = .ok (.iinc 1 1, 3) := by decide +kernel
theorem dX6_makeOwnerEntry_70 : decode cX6_makeOwnerEntry 70 = .ok (.goto (-28), 3) := by decide +kernel
theorem dX6_makeOwnerEntry_73 : decode cX6_makeOwnerEntry 73 = .ok (.return_, 1) := by decide +kernel
theorem dX6_enter_0 : decode cX6_enter 0 = .ok (.aload_n 0, 1) := by decide +kernel
theorem dX6_enter_1 : decode cX6_enter 1 = .ok (.iload_n 1, 1) := by decide +kernel
theorem dX6_enter_2 : decode cX6_enter 2 = .ok (.ifCond .eq 12, 3) := by decide +kernel
theorem dX6_enter_5 : decode cX6_enter 5 = .ok (.iload_n 1, 1) := by decide +kernel
theorem dX6_enter_6 : decode cX6_enter 6 = .ok (.iconst 1, 1) := by decide +kernel
theorem dX6_enter_7 : decode cX6_enter 7 = .ok (.if_icmp .eq 7, 3) := by decide +kernel
theorem dX6_enter_10 : decode cX6_enter 10 = .ok (.iconst 1, 1) := by decide +kernel
theorem dX6_enter_11 : decode cX6_enter 11 = .ok (.goto 4, 3) := by decide +kernel
theorem dX6_enter_14 : decode cX6_enter 14 = .ok (.iconst 0, 1) := by decide +kernel
theorem dX6_enter_15 : decode cX6_enter 15 = .ok (.invokevirtual 159, 3) := by decide +kernel
theorem dX6_enter_18 : decode cX6_enter 18 = .ok (.ifCond .eq 4, 3) := by decide +kernel
theorem dX6_enter_21 : decode cX6_enter 21 = .ok (.return_, 1) := by decide +kernel
theorem dX6_enter_22 : decode cX6_enter 22 = .ok (.aload_n 0, 1) := by decide +kernel
theorem dX6_enter_23 : decode cX6_enter 23 = .ok (.iconst 0, 1) := by decide +kernel
theorem dX6_enter_24 : decode cX6_enter 24 = .ok (.putfield 220, 3) := by decide +kernel
theorem dX6_enter_27 : decode cX6_enter 27 = .ok (.iload_n 1, 1) := by decide +kernel
theorem dX6_enter_28 : decode cX6_enter 28 = .ok (.ifCond .ne 10, 3) := by decide +kernel
theorem dX6_enter_31 : decode cX6_enter 31 = .ok (.aload_n 0, 1) := by decide +kernel
theorem dX6_enter_32 : decode cX6_enter 32 = .ok (.invokevirtual 229, 3) := by decide +kernel
theorem dX6_enter_35 : decode cX6_enter 35 = .ok (.goto 16, 3) := by decide +kernel
theorem dX6_enter_38 : decode cX6_enter 38 = .ok (.aload_n 0, 1) := by decide +kernel
theorem dX6_enter_39 : decode cX6_enter 39 = .ok (.iconst 2, 1) := by decide +kernel
theorem dX6_enter_40 : decode cX6_enter 40 = .ok (.invokevirtual 223, 3) := by decide +kernel
theorem dX6_enter_43 : decode cX6_enter 43 = .ok (.aload_n 0, 1) := by decide +kernel
theorem dX6_enter_44 : decode cX6_enter 44 = .ok (.invokevirtual 232, 3) := by decide +kernel
theorem dX6_enter_47 : decode cX6_enter 47 = .ok (.aload_n 0, 1) := by decide +kernel
theorem dX6_enter_48 : decode cX6_enter 48 = .ok (.invokevirtual 235, 3) := by decide +kernel
theorem dX6_enter_51 : decode cX6_enter 51 = .ok (.iconst 0, 1) := by decide +kernel
theorem dX6_enter_52 : decode cX6_enter 52 = .ok (.istore_n 2, 1) := by decide +kernel
theorem dX6_enter_53 : decode cX6_enter 53 = .ok (.iload_n 2, 1) := by decide +kernel
theorem dX6_enter_54 : decode cX6_enter 54 = .ok (.bipush 32, 2) := by decide +kernel
theorem dX6_enter_56 : decode cX6_enter 56 = .ok (.if_icmp .ge 40, 3) := by decide +kernel
theorem dX6_enter_59 : decode cX6_enter 59 = .ok (.iload_n 1, 1) := by decide +kernel
theorem dX6_enter_60 : decode cX6_enter 60 = .ok (.ifCond .ne 18, 3) := by decide +kernel
theorem dX6_enter_63 : decode cX6_enter 63 = .ok (.aload_n 0, 1) := by decide +kernel
theorem dX6_enter_64 : decode cX6_enter 64 = .ok (.getfield 26, 3) := by decide +kernel
theorem dX6_enter_67 : decode cX6_enter 67 = .ok (.iload_n 2, 1) := by decide +kernel
theorem dX6_enter_68 : decode cX6_enter 68 = .ok (.aload_n 0, 1) := by decide +kernel
theorem dX6_enter_69 : decode cX6_enter 69 = .ok (.getfield 132, 3) := by decide +kernel
theorem dX6_enter_72 : decode cX6_enter 72 = .ok (.iload_n 2, 1) := by decide +kernel
theorem dX6_enter_73 : decode cX6_enter 73 = .ok (.iaload, 1) := by decide +kernel
theorem dX6_enter_74 : decode cX6_enter 74 = .ok (.iastore, 1) := by decide +kernel
theorem dX6_enter_75 : decode cX6_enter 75 = .ok (.goto 15, 3) := by decide +kernel
theorem dX6_enter_78 : decode cX6_enter 78 = .ok (.aload_n 0, 1) := by decide +kernel
theorem dX6_enter_79 : decode cX6_enter 79 = .ok (.getfield 29, 3) := by decide +kernel
theorem dX6_enter_82 : decode cX6_enter 82 = .ok (.iload_n 2, 1) := by decide +kernel
theorem dX6_enter_83 : decode cX6_enter 83 = .ok (.aload_n 0, 1) := by decide +kernel
theorem dX6_enter_84 : decode cX6_enter 84 = .ok (.getfield 132, 3) := by decide +kernel
theorem dX6_enter_87 : decode cX6_enter 87 = .ok (.iload_n 2, 1) := by decide +kernel
theorem dX6_enter_88 : decode cX6_enter 88 = .ok (.iaload, 1) := by decide +kernel
theorem dX6_enter_89 : decode cX6_enter 89 = .ok (.iastore, 1) := by decide +kernel
theorem dX6_enter_90 : decode cX6_enter 90 = .ok (.iinc 2 1, 3) := by decide +kernel
theorem dX6_enter_93 : decode cX6_enter 93 = .ok (.goto (-40), 3) := by decide +kernel
theorem dX6_enter_96 : decode cX6_enter 96 = .ok (.return_, 1) := by decide +kernel
theorem dX6_isUsers_0 : decode cX6_isUsers 0 = .ok (.aload_n 0, 1) := by decide +kernel
theorem dX6_isUsers_1 : decode cX6_isUsers 1 = .ok (.invokevirtual 232, 3) := by decide +kernel
theorem dX6_isUsers_4 : decode cX6_isUsers 4 = .ok (.aload_n 0, 1) := by decide +kernel
theorem dX6_isUsers_5 : decode cX6_isUsers 5 = .ok (.invokevirtual 235, 3) := by decide +kernel
theorem dX6_isUsers_8 : decode cX6_isUsers 8 = .ok (.iconst 1, 1) := by decide +kernel
theorem dX6_isUsers_9 : decode cX6_isUsers 9 = .ok (.istore_n 1, 1) := by decide +kernel
theorem dX6_isUsers_10 : decode cX6_isUsers 10 = .ok (.iconst 0, 1) := by decide +kernel
theorem dX6_isUsers_11 : decode cX6_isUsers 11 = .ok (.istore_n 2, 1) := by decide +kernel
theorem dX6_isUsers_12 : decode cX6_isUsers 12 = .ok (.iload_n 2, 1) := by decide +kernel
theorem dX6_isUsers_13 : decode cX6_isUsers 13 = .ok (.aload_n 0, 1) := by decide +kernel
theorem dX6_isUsers_14 : decode cX6_isUsers 14 = .ok (.getfield 16, 3) := by decide +kernel
theorem dX6_isUsers_17 : decode cX6_isUsers 17 = .ok (.iconst 2, 1) := by decide +kernel
theorem dX6_isUsers_18 : decode cX6_isUsers 18 = .ok (.if_icmp .le 8, 3) := by decide +kernel
theorem dX6_isUsers_21 : decode cX6_isUsers 21 = .ok (.bipush 16, 2) := by decide +kernel
theorem dX6_isUsers_23 : decode cX6_isUsers 23 = .ok (.goto 5, 3) := by decide +kernel
theorem dX6_isUsers_26 : decode cX6_isUsers 26 = .ok (.bipush 32, 2) := by decide +kernel
theorem dX6_isUsers_28 : decode cX6_isUsers 28 = .ok (.if_icmp .ge 34, 3) := by decide +kernel
theorem dX6_isUsers_31 : decode cX6_isUsers 31 = .ok (.iload_n 1, 1) := by decide +kernel
theorem dX6_isUsers_32 : decode cX6_isUsers 32 = .ok (.ifCond .eq 22, 3) := by decide +kernel
theorem dX6_isUsers_35 : decode cX6_isUsers 35 = .ok (.aload_n 0, 1) := by decide +kernel
theorem dX6_isUsers_36 : decode cX6_isUsers 36 = .ok (.getfield 132, 3) := by decide +kernel
theorem dX6_isUsers_39 : decode cX6_isUsers 39 = .ok (.iload_n 2, 1) := by decide +kernel
theorem dX6_isUsers_40 : decode cX6_isUsers 40 = .ok (.iaload, 1) := by decide +kernel
theorem dX6_isUsers_41 : decode cX6_isUsers 41 = .ok (.aload_n 0, 1) := by decide +kernel
theorem dX6_isUsers_42 : decode cX6_isUsers 42 = .ok (.getfield 29, 3) := by decide +kernel
theorem dX6_isUsers_45 : decode cX6_isUsers 45 = .ok (.iload_n 2, 1) := by decide +kernel
theorem dX6_isUsers_46 : decode cX6_isUsers 46 = .ok (.iaload, 1) := by decide +kernel
theorem dX6_isUsers_47 : decode cX6_isUsers 47 = .ok (.if_icmp .ne 7, 3) := by decide +kernel
theorem dX6_isUsers_50 : decode cX6_isUsers 50 = .ok (.iconst 1, 1) := by decide +kernel
theorem dX6_isUsers_51 : decode cX6_isUsers 51 = .ok (.goto 4, 3) := by decide +kernel
theorem dX6_isUsers_54 : decode cX6_isUsers 54 = .ok (.iconst 0, 1) := by decide +kernel
theorem dX6_isUsers_55 : decode cX6_isUsers 55 = .ok (.istore_n 1, 1) := by decide +kernel
theorem dX6_isUsers_56 : decode cX6_isUsers 56 = .ok (.iinc 2 1, 3) := by decide +kernel
theorem dX6_isUsers_59 : decode cX6_isUsers 59 = .ok (.goto (-47), 3) := by decide +kernel
theorem dX6_isUsers_62 : decode cX6_isUsers 62 = .ok (.iload_n 1, 1) := by decide +kernel
theorem dX6_isUsers_63 : decode cX6_isUsers 63 = .ok (.ireturn, 1) := by decide +kernel
theorem dX6_know_0 : decode cX6_know 0 = .ok (.aload_n 0, 1) := by decide +kernel
theorem dX6_know_1 : decode cX6_know 1 = .ok (.iconst 1, 1) := by decide +kernel
theorem dX6_know_2 : decode cX6_know 2 = .ok (.putfield 220, 3) := by decide +kernel
theorem dX6_know_5 : decode cX6_know 5 = .ok (.iconst 0, 1) := by decide +kernel
theorem dX6_know_6 : decode cX6_know 6 = .ok (.istore_n 1, 1) := by decide +kernel
theorem dX6_know_7 : decode cX6_know 7 = .ok (.iload_n 1, 1) := by decide +kernel
theorem dX6_know_8 : decode cX6_know 8 = .ok (.aload_n 0, 1) := by decide +kernel
theorem dX6_know_9 : decode cX6_know 9 = .ok (.getfield 20, 3) := by decide +kernel
theorem dX6_know_12 : decode cX6_know 12 = .ok (.if_icmp .ge 21, 3) := by decide +kernel
theorem dX6_know_15 : decode cX6_know 15 = .ok (.aload_n 0, 1) := by decide +kernel
theorem dX6_know_16 : decode cX6_know 16 = .ok (.getfield 41, 3) := by decide +kernel
theorem dX6_know_19 : decode cX6_know 19 = .ok (.iload_n 1, 1) := by decide +kernel
theorem dX6_know_20 : decode cX6_know 20 = .ok (.aload_n 0, 1) := by decide +kernel
theorem dX6_know_21 : decode cX6_know 21 = .ok (.getfield 126, 3) := by decide +kernel
theorem dX6_know_24 : decode cX6_know 24 = .ok (.iload_n 1, 1) := by decide +kernel
theorem dX6_know_25 : decode cX6_know 25 = .ok (.iaload, 1) := by decide +kernel
theorem dX6_know_26 : decode cX6_know 26 = .ok (.iastore, 1) := by decide +kernel
theorem dX6_know_27 : decode cX6_know 27 = .ok (.iinc 1 1, 3) := by decide +kernel
theorem dX6_know_30 : decode cX6_know 30 = .ok (.goto (-23), 3) := by decide +kernel
theorem dX6_know_33 : decode cX6_know 33 = .ok (.return_, 1) := by decide +kernel
theorem dX6_open_0 : decode cX6_open 0 = .ok (.aload_n 0, 1) := by decide +kernel
theorem dX6_open_1 : decode cX6_open 1 = .ok (.iconst 0, 1) := by decide +kernel
theorem dX6_open_2 : decode cX6_open 2 = .ok (.putfield 153, 3) := by decide +kernel
theorem dX6_open_5 : decode cX6_open 5 = .ok (.aload_n 0, 1) := by decide +kernel
theorem dX6_open_6 : decode cX6_open 6 = .ok (.iconst 0, 1) := by decide +kernel
theorem dX6_open_7 : decode cX6_open 7 = .ok (.invokevirtual 223, 3) := by decide +kernel
theorem dX6_open_10 : decode cX6_open 10 = .ok (.aload_n 0, 1) := by decide +kernel
theorem dX6_open_11 : decode cX6_open 11 = .ok (.invokevirtual 238, 3) := by decide +kernel
theorem dX6_open_14 : decode cX6_open 14 = .ok (.ifCond .eq 9, 3) := by decide +kernel
theorem dX6_open_17 : decode cX6_open 17 = .ok (.aload_n 0, 1) := by decide +kernel
theorem dX6_open_18 : decode cX6_open 18 = .ok (.invokevirtual 242, 3) := by decide +kernel
theorem dX6_open_21 : decode cX6_open 21 = .ok (.iconst 1, 1) := by decide +kernel
theorem dX6_open_22 : decode cX6_open 22 = .ok (.ireturn, 1) := by decide +kernel
theorem dX6_open_23 : decode cX6_open 23 = .ok (.aload_n 0, 1) := by decide +kernel
theorem dX6_open_24 : decode cX6_open 24 = .ok (.iconst 0, 1) := by decide +kernel
theorem dX6_open_25 : decode cX6_open 25 = .ok (.invokevirtual 223, 3) := by decide +kernel
theorem dX6_open_28 : decode cX6_open 28 = .ok (.aload_n 0, 1) := by decide +kernel
theorem dX6_open_29 : decode cX6_open 29 = .ok (.invokevirtual 226, 3) := by decide +kernel
theorem dX6_open_32 : decode cX6_open 32 = .ok (.iconst 0, 1) := by decide +kernel
theorem dX6_open_33 : decode cX6_open 33 = .ok (.istore_n 1, 1) := by decide +kernel
theorem dX6_open_34 : decode cX6_open 34 = .ok (.iload_n 1, 1) := by decide +kernel
theorem dX6_open_35 : decode cX6_open 35 = .ok (.bipush 32, 2) := by decide +kernel
theorem dX6_open_37 : decode cX6_open 37 = .ok (.if_icmp .ge 21, 3) := by decide +kernel
theorem dX6_open_40 : decode cX6_open 40 = .ok (.aload_n 0, 1) := by decide +kernel
theorem dX6_open_41 : decode cX6_open 41 = .ok (.getfield 132, 3) := by decide +kernel
theorem dX6_open_44 : decode cX6_open 44 = .ok (.iload_n 1, 1) := by decide +kernel
theorem dX6_open_45 : decode cX6_open 45 = .ok (.aload_n 0, 1) := by decide +kernel
theorem dX6_open_46 : decode cX6_open 46 = .ok (.getfield 26, 3) := by decide +kernel
theorem dX6_open_49 : decode cX6_open 49 = .ok (.iload_n 1, 1) := by decide +kernel
theorem dX6_open_50 : decode cX6_open 50 = .ok (.iaload, 1) := by decide +kernel
theorem dX6_open_51 : decode cX6_open 51 = .ok (.iastore, 1) := by decide +kernel
theorem dX6_open_52 : decode cX6_open 52 = .ok (.iinc 1 1, 3) := by decide +kernel
theorem dX6_open_55 : decode cX6_open 55 = .ok (.goto (-21), 3) := by decide +kernel
theorem dX6_open_58 : decode cX6_open 58 = .ok (.aload_n 0, 1) := by decide +kernel
theorem dX6_open_59 : decode cX6_open 59 = .ok (.getfield 16, 3) := by decide +kernel
theorem dX6_open_62 : decode cX6_open 62 = .ok (.iconst 2, 1) := by decide +kernel
theorem dX6_open_63 : decode cX6_open 63 = .ok (.if_icmp .le 8, 3) := by decide +kernel
theorem dX6_open_66 : decode cX6_open 66 = .ok (.bipush 19, 2) := by decide +kernel
theorem dX6_open_68 : decode cX6_open 68 = .ok (.goto 4, 3) := by decide +kernel
theorem dX6_open_71 : decode cX6_open 71 = .ok (.iconst 0, 1) := by decide +kernel
theorem dX6_open_72 : decode cX6_open 72 = .ok (.istore_n 1, 1) := by decide +kernel
theorem dX6_open_73 : decode cX6_open 73 = .ok (.iload_n 1, 1) := by decide +kernel
theorem dX6_open_74 : decode cX6_open 74 = .ok (.ifCond .lt 16, 3) := by decide +kernel
theorem dX6_open_77 : decode cX6_open 77 = .ok (.aload_n 0, 1) := by decide +kernel
theorem dX6_open_78 : decode cX6_open 78 = .ok (.iload_n 1, 1) := by decide +kernel
theorem dX6_open_79 : decode cX6_open 79 = .ok (.bipush 32, 2) := by decide +kernel
theorem dX6_open_81 : decode cX6_open 81 = .ok (.invokevirtual 217, 3) := by decide +kernel
theorem dX6_open_84 : decode cX6_open 84 = .ok (.iinc 1 (-1), 3) := by decide +kernel
theorem dX6_open_87 : decode cX6_open 87 = .ok (.goto (-14), 3) := by decide +kernel
theorem dX6_open_90 : decode cX6_open 90 = .ok (.aload_n 0, 1) := by decide +kernel
theorem dX6_open_91 : decode cX6_open 91 = .ok (.iconst 3, 1) := by decide +kernel
theorem dX6_open_92 : decode cX6_open 92 = .ok (.invokevirtual 223, 3) := by decide +kernel
theorem dX6_open_95 : decode cX6_open 95 = .ok (.aload_n 0, 1) := by decide +kernel
theorem dX6_open_96 : decode cX6_open 96 = .ok (.invokevirtual 238, 3) := by decide +kernel
theorem dX6_open_99 : decode cX6_open 99 = .ok (.ifCond .ne 5, 3) := by decide +kernel
theorem dX6_open_102 : decode cX6_open 102 = .ok (.iconst 0, 1) := by decide +kernel
theorem dX6_open_103 : decode cX6_open 103 = .ok (.ireturn, 1) := by decide +kernel
theorem dX6_open_104 : decode cX6_open 104 = .ok (.aload_n 0, 1) := by decide +kernel
theorem dX6_open_105 : decode cX6_open 105 = .ok (.invokevirtual 242, 3) := by decide +kernel
theorem dX6_open_108 : decode cX6_open 108 = .ok (.iconst 2, 1) := by decide +kernel
theorem dX6_open_109 : decode cX6_open 109 = .ok (.ireturn, 1) := by decide +kernel
theorem dX6_key_0 : decode cX6_key 0 = .ok (.aload_n 0, 1) := by decide +kernel
theorem dX6_key_1 : decode cX6_key 1 = .ok (.iconst 0, 1) := by decide +kernel
theorem dX6_key_2 : decode cX6_key 2 = .ok (.putfield 153, 3) := by decide +kernel
theorem dX6_key_5 : decode cX6_key 5 = .ok (.aload_n 0, 1) := by decide +kernel
theorem dX6_key_6 : decode cX6_key 6 = .ok (.getfield 220, 3) := by decide +kernel
theorem dX6_key_9 : decode cX6_key 9 = .ok (.ifCond .eq 24, 3) := by decide +kernel
theorem dX6_key_12 : decode cX6_key 12 = .ok (.iload_n 1, 1) := by decide +kernel
theorem dX6_key_13 : decode cX6_key 13 = .ok (.ifCond .lt 20, 3) := by decide +kernel
theorem dX6_key_16 : decode cX6_key 16 = .ok (.iload_n 1, 1) := by decide +kernel
theorem dX6_key_17 : decode cX6_key 17 = .ok (.aload_n 0, 1) := by decide +kernel
theorem dX6_key_18 : decode cX6_key 18 = .ok (.getfield 20, 3) := by decide +kernel
theorem dX6_key_21 : decode cX6_key 21 = .ok (.if_icmp .ge 12, 3) := by decide +kernel
theorem dX6_key_24 : decode cX6_key 24 = .ok (.aload_n 0, 1) := by decide +kernel
theorem dX6_key_25 : decode cX6_key 25 = .ok (.getfield 41, 3) := by decide +kernel
theorem dX6_key_28 : decode cX6_key 28 = .ok (.iload_n 1, 1) := by decide +kernel
theorem dX6_key_29 : decode cX6_key 29 = .ok (.iaload, 1) := by decide +kernel
theorem dX6_key_30 : decode cX6_key 30 = .ok (.goto 4, 3) := by decide +kernel
theorem dX6_key_33 : decode cX6_key 33 = .ok (.iconst (-1), 1) := by decide +kernel
theorem dX6_key_34 : decode cX6_key 34 = .ok (.ireturn, 1) := by decide +kernel
theorem dX6_digest_0 : decode cX6_digest 0 = .ok (.aload_n 0, 1) := by decide +kernel
theorem dX6_digest_1 : decode cX6_digest 1 = .ok (.iconst 0, 1) := by decide +kernel
theorem dX6_digest_2 : decode cX6_digest 2 = .ok (.putfield 153, 3) := by decide +kernel
theorem dX6_digest_5 : decode cX6_digest 5 = .ok (.iconst 0, 1) := by decide +kernel
theorem dX6_digest_6 : decode cX6_digest 6 = .ok (.istore_n 1, 1) := by decide +kernel
theorem dX6_digest_7 : decode cX6_digest 7 = .ok (.iload_n 1, 1) := by decide +kernel
theorem dX6_digest_8 : decode cX6_digest 8 = .ok (.aload_n 0, 1) := by decide +kernel
theorem dX6_digest_9 : decode cX6_digest 9 = .ok (.getfield 156, 3) := by decide +kernel
theorem dX6_digest_12 : decode cX6_digest 12 = .ok (.if_icmp .ge 19, 3) := by decide +kernel
theorem dX6_digest_15 : decode cX6_digest 15 = .ok (.aload_n 0, 1) := by decide +kernel
theorem dX6_digest_16 : decode cX6_digest 16 = .ok (.aload_n 0, 1) := by decide +kernel
theorem dX6_digest_17 : decode cX6_digest 17 = .ok (.getfield 7, 3) := by decide +kernel
theorem dX6_digest_20 : decode cX6_digest 20 = .ok (.iload_n 1, 1) := by decide +kernel
theorem dX6_digest_21 : decode cX6_digest 21 = .ok (.iaload, 1) := by decide +kernel
theorem dX6_digest_22 : decode cX6_digest 22 = .ok (.invokevirtual 174, 3) := by decide +kernel
theorem dX6_digest_25 : decode cX6_digest 25 = .ok (.iinc 1 1, 3) := by decide +kernel
theorem dX6_digest_28 : decode cX6_digest 28 = .ok (.goto (-21), 3) := by decide +kernel
theorem dX6_digest_31 : decode cX6_digest 31 = .ok (.aload_n 0, 1) := by decide +kernel
theorem dX6_digest_32 : decode cX6_digest 32 = .ok (.invokevirtual 185, 3) := by decide +kernel
theorem dX6_digest_35 : decode cX6_digest 35 = .ok (.aload_n 0, 1) := by decide +kernel
theorem dX6_digest_36 : decode cX6_digest 36 = .ok (.bipush 16, 2) := by decide +kernel
theorem dX6_digest_38 : decode cX6_digest 38 = .ok (.putfield 194, 3) := by decide +kernel
theorem dX6_digest_41 : decode cX6_digest 41 = .ok (.iconst 0, 1) := by decide +kernel
theorem dX6_digest_42 : decode cX6_digest 42 = .ok (.istore_n 1, 1) := by decide +kernel
theorem dX6_digest_43 : decode cX6_digest 43 = .ok (.iload_n 1, 1) := by decide +kernel
theorem dX6_digest_44 : decode cX6_digest 44 = .ok (.bipush 16, 2) := by decide +kernel
theorem dX6_digest_46 : decode cX6_digest 46 = .ok (.if_icmp .ge 21, 3) := by decide +kernel
theorem dX6_digest_49 : decode cX6_digest 49 = .ok (.aload_n 0, 1) := by decide +kernel
theorem dX6_digest_50 : decode cX6_digest 50 = .ok (.getfield 13, 3) := by decide +kernel
theorem dX6_digest_53 : decode cX6_digest 53 = .ok (.iload_n 1, 1) := by decide +kernel
theorem dX6_digest_54 : decode cX6_digest 54 = .ok (.aload_n 0, 1) := by decide +kernel
theorem dX6_digest_55 : decode cX6_digest 55 = .ok (.getfield 47, 3) := by decide +kernel
theorem dX6_digest_58 : decode cX6_digest 58 = .ok (.iload_n 1, 1) := by decide +kernel
theorem dX6_digest_59 : decode cX6_digest 59 = .ok (.iaload, 1) := by decide +kernel
theorem dX6_digest_60 : decode cX6_digest 60 = .ok (.iastore, 1) := by decide +kernel
theorem dX6_digest_61 : decode cX6_digest 61 = .ok (.iinc 1 1, 3) := by decide +kernel
theorem dX6_digest_64 : decode cX6_digest 64 = .ok (.goto (-21), 3) := by decide +kernel
theorem dX6_digest_67 : decode cX6_digest 67 = .ok (.return_, 1) := by decide +kernel
theorem dX6_doubled_0 : decode cX6_doubled 0 = .ok (.iload_n 0, 1) := by decide +kernel
theorem dX6_doubled_1 : decode cX6_doubled 1 = .ok (.sipush 128, 3) := by decide +kernel
theorem dX6_doubled_4 : decode cX6_doubled 4 = .ok (.if_icmp .ge 9, 3) := by decide +kernel
theorem dX6_doubled_7 : decode cX6_doubled 7 = .ok (.iconst 2, 1) := by decide +kernel
theorem dX6_doubled_8 : decode cX6_doubled 8 = .ok (.iload_n 0, 1) := by decide +kernel
theorem dX6_doubled_9 : decode cX6_doubled 9 = .ok (.imul, 1) := by decide +kernel
theorem dX6_doubled_10 : decode cX6_doubled 10 = .ok (.goto 13, 3) := by decide +kernel
theorem dX6_doubled_13 : decode cX6_doubled 13 = .ok (.iconst 2, 1) := by decide +kernel
theorem dX6_doubled_14 : decode cX6_doubled 14 = .ok (.iload_n 0, 1) := by decide +kernel
theorem dX6_doubled_15 : decode cX6_doubled 15 = .ok (.imul, 1) := by decide +kernel
theorem dX6_doubled_16 : decode cX6_doubled 16 = .ok (.sipush 256, 3) := by decide +kernel
theorem dX6_doubled_19 : decode cX6_doubled 19 = .ok (.isub, 1) := by decide +kernel
theorem dX6_doubled_20 : decode cX6_doubled 20 = .ok (.bipush 27, 2) := by decide +kernel
theorem dX6_doubled_22 : decode cX6_doubled 22 = .ok (.ixor, 1) := by decide +kernel
theorem dX6_doubled_23 : decode cX6_doubled 23 = .ok (.ireturn, 1) := by decide +kernel
theorem dX6_product_0 : decode cX6_product 0 = .ok (.iconst 0, 1) := by decide +kernel
theorem dX6_product_1 : decode cX6_product 1 = .ok (.istore_n 2, 1) := by decide +kernel
theorem dX6_product_2 : decode cX6_product 2 = .ok (.iload_n 0, 1) := by decide +kernel
theorem dX6_product_3 : decode cX6_product 3 = .ok (.istore_n 3, 1) := by decide +kernel
theorem dX6_product_4 : decode cX6_product 4 = .ok (.iconst 0, 1) := by decide +kernel
theorem dX6_product_5 : decode cX6_product 5 = .ok (.istore 4, 2) := by decide +kernel
theorem dX6_product_7 : decode cX6_product 7 = .ok (.iload 4, 2) := by decide +kernel
theorem dX6_product_9 : decode cX6_product 9 = .ok (.bipush 8, 2) := by decide +kernel
theorem dX6_product_11 : decode cX6_product 11 = .ok (.if_icmp .ge 32, 3) := by decide +kernel
theorem dX6_product_14 : decode cX6_product 14 = .ok (.iload_n 1, 1) := by decide +kernel
theorem dX6_product_15 : decode cX6_product 15 = .ok (.iload 4, 2) := by decide +kernel
theorem dX6_product_17 : decode cX6_product 17 = .ok (.ishr, 1) := by decide +kernel
theorem dX6_product_18 : decode cX6_product 18 = .ok (.iconst 1, 1) := by decide +kernel
theorem dX6_product_19 : decode cX6_product 19 = .ok (.iand, 1) := by decide +kernel
theorem dX6_product_20 : decode cX6_product 20 = .ok (.iconst 1, 1) := by decide +kernel
theorem dX6_product_21 : decode cX6_product 21 = .ok (.if_icmp .ne 9, 3) := by decide +kernel
theorem dX6_product_24 : decode cX6_product 24 = .ok (.iload_n 2, 1) := by decide +kernel
theorem dX6_product_25 : decode cX6_product 25 = .ok (.iload_n 3, 1) := by decide +kernel
theorem dX6_product_26 : decode cX6_product 26 = .ok (.ixor, 1) := by decide +kernel
theorem dX6_product_27 : decode cX6_product 27 = .ok (.goto 4, 3) := by decide +kernel
theorem dX6_product_30 : decode cX6_product 30 = .ok (.iload_n 2, 1) := by decide +kernel
theorem dX6_product_31 : decode cX6_product 31 = .ok (.istore_n 2, 1) := by decide +kernel
theorem dX6_product_32 : decode cX6_product 32 = .ok (.iload_n 3, 1) := by decide +kernel
theorem dX6_product_33 : decode cX6_product 33 = .ok (.invokestatic 245, 3) := by decide +kernel
theorem dX6_product_36 : decode cX6_product 36 = .ok (.istore_n 3, 1) := by decide +kernel
theorem dX6_product_37 : decode cX6_product 37 = .ok (.iinc 4 1, 3) := by decide +kernel
theorem dX6_product_40 : decode cX6_product 40 = .ok (.goto (-33), 3) := by decide +kernel
theorem dX6_product_43 : decode cX6_product 43 = .ok (.iload_n 2, 1) := by decide +kernel
theorem dX6_product_44 : decode cX6_product 44 = .ok (.ireturn, 1) := by decide +kernel
theorem dX6_swapped_0 : decode cX6_swapped 0 = .ok (.iconst 0, 1) := by decide +kernel
theorem dX6_swapped_1 : decode cX6_swapped 1 = .ok (.istore_n 1, 1) := by decide +kernel
theorem dX6_swapped_2 : decode cX6_swapped 2 = .ok (.iconst 1, 1) := by decide +kernel
theorem dX6_swapped_3 : decode cX6_swapped 3 = .ok (.istore_n 2, 1) := by decide +kernel
theorem dX6_swapped_4 : decode cX6_swapped 4 = .ok (.iload_n 2, 1) := by decide +kernel
theorem dX6_swapped_5 : decode cX6_swapped 5 = .ok (.sipush 256, 3) := by decide +kernel
theorem dX6_swapped_8 : decode cX6_swapped 8 = .ok (.if_icmp .ge 32, 3) := by decide +kernel
theorem dX6_swapped_11 : decode cX6_swapped 11 = .ok (.iload_n 0, 1) := by decide +kernel
theorem dX6_swapped_12 : decode cX6_swapped 12 = .ok (.ifCond .le 28, 3) := by decide +kernel
theorem dX6_swapped_15 : decode cX6_swapped 15 = .ok (.iload_n 1, 1) := by decide +kernel
theorem dX6_swapped_16 : decode cX6_swapped 16 = .ok (.ifCond .ne 24, 3) := by decide +kernel
theorem dX6_swapped_19 : decode cX6_swapped 19 = .ok (.iload_n 0, 1) := by decide +kernel
theorem dX6_swapped_20 : decode cX6_swapped 20 = .ok (.iload_n 2, 1) := by decide +kernel
theorem dX6_swapped_21 : decode cX6_swapped 21 = .ok (.invokestatic 248, 3) := by decide +kernel
theorem dX6_swapped_24 : decode cX6_swapped 24 = .ok (.iconst 1, 1) := by decide +kernel
theorem dX6_swapped_25 : decode cX6_swapped 25 = .ok (.if_icmp .ne 7, 3) := by decide +kernel
theorem dX6_swapped_28 : decode cX6_swapped 28 = .ok (.iload_n 2, 1) := by decide +kernel
theorem dX6_swapped_29 : decode cX6_swapped 29 = .ok (.goto 4, 3) := by decide +kernel
theorem dX6_swapped_32 : decode cX6_swapped 32 = .ok (.iconst 0, 1) := by decide +kernel
theorem dX6_swapped_33 : decode cX6_swapped 33 = .ok (.istore_n 1, 1) := by decide +kernel
theorem dX6_swapped_34 : decode cX6_swapped 34 = .ok (.iinc 2 1, 3) := by decide +kernel
theorem dX6_swapped_37 : decode cX6_swapped 37 = .ok (.goto (-33), 3) := by decide +kernel
theorem dX6_swapped_40 : decode cX6_swapped 40 = .ok (.iload_n 1, 1) := by decide +kernel
theorem dX6_swapped_41 : decode cX6_swapped 41 = .ok (.istore_n 2, 1) := by decide +kernel
theorem dX6_swapped_42 : decode cX6_swapped 42 = .ok (.iconst 1, 1) := by decide +kernel
theorem dX6_swapped_43 : decode cX6_swapped 43 = .ok (.istore_n 3, 1) := by decide +kernel
theorem dX6_swapped_44 : decode cX6_swapped 44 = .ok (.iload_n 3, 1) := by decide +kernel
theorem dX6_swapped_45 : decode cX6_swapped 45 = .ok (.iconst 5, 1) := by decide +kernel
theorem dX6_swapped_46 : decode cX6_swapped 46 = .ok (.if_icmp .ge 26, 3) := by decide +kernel
theorem dX6_swapped_49 : decode cX6_swapped 49 = .ok (.iload_n 2, 1) := by decide +kernel
theorem dX6_swapped_50 : decode cX6_swapped 50 = .ok (.iload_n 1, 1) := by decide +kernel
theorem dX6_swapped_51 : decode cX6_swapped 51 = .ok (.iload_n 3, 1) := by decide +kernel
theorem dX6_swapped_52 : decode cX6_swapped 52 = .ok (.ishl, 1) := by decide +kernel
theorem dX6_swapped_53 : decode cX6_swapped 53 = .ok (.iload_n 1, 1) := by decide +kernel
theorem dX6_swapped_54 : decode cX6_swapped 54 = .ok (.bipush 8, 2) := by decide +kernel
theorem dX6_swapped_56 : decode cX6_swapped 56 = .ok (.iload_n 3, 1) := by decide +kernel
theorem dX6_swapped_57 : decode cX6_swapped 57 = .ok (.isub, 1) := by decide +kernel
theorem dX6_swapped_58 : decode cX6_swapped 58 = .ok (.ishr, 1) := by decide +kernel
theorem dX6_swapped_59 : decode cX6_swapped 59 = .ok (.ior, 1) := by decide +kernel
theorem dX6_swapped_60 : decode cX6_swapped 60 = .ok (.sipush 255, 3) := by decide +kernel
theorem dX6_swapped_63 : decode cX6_swapped 63 = .ok (.iand, 1) := by decide +kernel
theorem dX6_swapped_64 : decode cX6_swapped 64 = .ok (.ixor, 1) := by decide +kernel
theorem dX6_swapped_65 : decode cX6_swapped 65 = .ok (.istore_n 2, 1) := by decide +kernel
theorem dX6_swapped_66 : decode cX6_swapped 66 = .ok (.iinc 3 1, 3) := by decide +kernel
theorem dX6_swapped_69 : decode cX6_swapped 69 = .ok (.goto (-25), 3) := by decide +kernel
theorem dX6_swapped_72 : decode cX6_swapped 72 = .ok (.iload_n 2, 1) := by decide +kernel
theorem dX6_swapped_73 : decode cX6_swapped 73 = .ok (.bipush 99, 2) := by decide +kernel
theorem dX6_swapped_75 : decode cX6_swapped 75 = .ok (.ixor, 1) := by decide +kernel
theorem dX6_swapped_76 : decode cX6_swapped 76 = .ok (.ireturn, 1) := by decide +kernel
theorem dX6_unswapped_0 : decode cX6_unswapped 0 = .ok (.aload_n 0, 1) := by decide +kernel
theorem dX6_unswapped_1 : decode cX6_unswapped 1 = .ok (.getfield 150, 3) := by decide +kernel
theorem dX6_unswapped_4 : decode cX6_unswapped 4 = .ok (.iload_n 1, 1) := by decide +kernel
theorem dX6_unswapped_5 : decode cX6_unswapped 5 = .ok (.iaload, 1) := by decide +kernel
theorem dX6_unswapped_6 : decode cX6_unswapped 6 = .ok (.ireturn, 1) := by decide +kernel
theorem dX6_makeSwaps_0 : decode cX6_makeSwaps 0 = .ok (.iconst 0, 1) := by decide +kernel
theorem dX6_makeSwaps_1 : decode cX6_makeSwaps 1 = .ok (.istore_n 1, 1) := by decide +kernel
theorem dX6_makeSwaps_2 : decode cX6_makeSwaps 2 = .ok (.iload_n 1, 1) := by decide +kernel
theorem dX6_makeSwaps_3 : decode cX6_makeSwaps 3 = .ok (.sipush 256, 3) := by decide +kernel
theorem dX6_makeSwaps_6 : decode cX6_makeSwaps 6 = .ok (.if_icmp .ge 31, 3) := by decide +kernel
theorem dX6_makeSwaps_9 : decode cX6_makeSwaps 9 = .ok (.aload_n 0, 1) := by decide +kernel
theorem dX6_makeSwaps_10 : decode cX6_makeSwaps 10 = .ok (.getfield 147, 3) := by decide +kernel
theorem dX6_makeSwaps_13 : decode cX6_makeSwaps 13 = .ok (.iload_n 1, 1) := by decide +kernel
theorem dX6_makeSwaps_14 : decode cX6_makeSwaps 14 = .ok (.iload_n 1, 1) := by decide +kernel
theorem dX6_makeSwaps_15 : decode cX6_makeSwaps 15 = .ok (.invokestatic 251, 3) := by decide +kernel
theorem dX6_makeSwaps_18 : decode cX6_makeSwaps 18 = .ok (.iastore, 1) := by decide +kernel
theorem dX6_makeSwaps_19 : decode cX6_makeSwaps 19 = .ok (.aload_n 0, 1) := by decide +kernel
theorem dX6_makeSwaps_20 : decode cX6_makeSwaps 20 = .ok (.getfield 150, 3) := by decide +kernel
theorem dX6_makeSwaps_23 : decode cX6_makeSwaps 23 = .ok (.aload_n 0, 1) := by decide +kernel
theorem dX6_makeSwaps_24 : decode cX6_makeSwaps 24 = .ok (.getfield 147, 3) := by decide +kernel
theorem dX6_makeSwaps_27 : decode cX6_makeSwaps 27 = .ok (.iload_n 1, 1) := by decide +kernel
theorem dX6_makeSwaps_28 : decode cX6_makeSwaps 28 = .ok (.iaload, 1) := by decide +kernel
theorem dX6_makeSwaps_29 : decode cX6_makeSwaps 29 = .ok (.iload_n 1, 1) := by decide +kernel
theorem dX6_makeSwaps_30 : decode cX6_makeSwaps 30 = .ok (.iastore, 1) := by decide +kernel
theorem dX6_makeSwaps_31 : decode cX6_makeSwaps 31 = .ok (.iinc 1 1, 3) := by decide +kernel
theorem dX6_makeSwaps_34 : decode cX6_makeSwaps 34 = .ok (.goto (-32), 3) := by decide +kernel
theorem dX6_makeSwaps_37 : decode cX6_makeSwaps 37 = .ok (.return_, 1) := by decide +kernel
theorem dX6_makeColumns_0 : decode cX6_makeColumns 0 = .ok (.aload_n 0, 1) := by decide +kernel
theorem dX6_makeColumns_1 : decode cX6_makeColumns 1 = .ok (.invokevirtual 254, 3) := by decide +kernel
theorem dX6_makeColumns_4 : decode cX6_makeColumns 4 = .ok (.iconst 0, 1) := by decide +kernel
theorem dX6_makeColumns_5 : decode cX6_makeColumns 5 = .ok (.istore_n 1, 1) := by decide +kernel
theorem dX6_makeColumns_6 : decode cX6_makeColumns 6 = .ok (.iload_n 1, 1) := by decide +kernel
theorem dX6_makeColumns_7 : decode cX6_makeColumns 7 = .ok (.bipush 16, 2) := by decide +kernel
theorem dX6_makeColumns_9 : decode cX6_makeColumns 9 = .ok (.if_icmp .ge 33, 3) := by decide +kernel
theorem dX6_makeColumns_12 : decode cX6_makeColumns 12 = .ok (.aload_n 0, 1) := by decide +kernel
theorem dX6_makeColumns_13 : decode cX6_makeColumns 13 = .ok (.getfield 138, 3) := by decide +kernel
theorem dX6_makeColumns_16 : decode cX6_makeColumns 16 = .ok (.iload_n 1, 1) := by decide +kernel
theorem dX6_makeColumns_17 : decode cX6_makeColumns 17 = .ok (.iload_n 1, 1) := by decide +kernel
theorem dX6_makeColumns_18 : decode cX6_makeColumns 18 = .ok (.aload_n 0, 1) := by decide +kernel
theorem dX6_makeColumns_19 : decode cX6_makeColumns 19 = .ok (.getfield 188, 3) := by decide +kernel
theorem dX6_makeColumns_22 : decode cX6_makeColumns 22 = .ok (.if_icmp .ge 12, 3) := by decide +kernel
theorem dX6_makeColumns_25 : decode cX6_makeColumns 25 = .ok (.aload_n 0, 1) := by decide +kernel
theorem dX6_makeColumns_26 : decode cX6_makeColumns 26 = .ok (.getfield 126, 3) := by decide +kernel
theorem dX6_makeColumns_29 : decode cX6_makeColumns 29 = .ok (.iload_n 1, 1) := by decide +kernel
theorem dX6_makeColumns_30 : decode cX6_makeColumns 30 = .ok (.iaload, 1) := by decide +kernel
theorem dX6_makeColumns_31 : decode cX6_makeColumns 31 = .ok (.goto 4, 3) := by decide +kernel
theorem dX6_makeColumns_34 : decode cX6_makeColumns 34 = .ok (.iconst 0, 1) := by decide +kernel
theorem dX6_makeColumns_35 : decode cX6_makeColumns 35 = .ok (.iastore, 1) := by decide +kernel
theorem dX6_makeColumns_36 : decode cX6_makeColumns 36 = .ok (.iinc 1 1, 3) := by decide +kernel
theorem dX6_makeColumns_39 : decode cX6_makeColumns 39 = .ok (.goto (-33), 3) := by decide +kernel
theorem dX6_makeColumns_42 : decode cX6_makeColumns 42 = .ok (.iconst 1, 1) := by decide +kernel
theorem dX6_makeColumns_43 : decode cX6_makeColumns 43 = .ok (.istore_n 1, 1) := by decide +kernel
theorem dX6_makeColumns_44 : decode cX6_makeColumns 44 = .ok (.iconst 4, 1) := by decide +kernel
theorem dX6_makeColumns_45 : decode cX6_makeColumns 45 = .ok (.istore_n 2, 1) := by decide +kernel
theorem dX6_makeColumns_46 : decode cX6_makeColumns 46 = .ok (.iload_n 2, 1) := by decide +kernel
theorem dX6_makeColumns_47 : decode cX6_makeColumns 47 = .ok (.bipush 44, 2) := by decide +kernel
theorem dX6_makeColumns_49 : decode cX6_makeColumns 49 = .ok (.if_icmp .ge 128, 3) := by decide +kernel
theorem dX6_makeColumns_52 : decode cX6_makeColumns 52 = .ok (.iconst 0, 1) := by decide +kernel
theorem dX6_makeColumns_53 : decode cX6_makeColumns 53 = .ok (.istore_n 3, 1) := by decide +kernel
theorem dX6_makeColumns_54 : decode cX6_makeColumns 54 = .ok (.iload_n 3, 1) := by decide +kernel
theorem dX6_makeColumns_55 : decode cX6_makeColumns 55 = .ok (.iconst 4, 1) := by decide +kernel
theorem dX6_makeColumns_56 : decode cX6_makeColumns 56 = .ok (.if_icmp .ge 100, 3) := by decide +kernel
theorem dX6_makeColumns_59 : decode cX6_makeColumns 59 = .ok (.iload_n 2, 1) := by decide +kernel
theorem dX6_makeColumns_60 : decode cX6_makeColumns 60 = .ok (.iconst 4, 1) := by decide +kernel
theorem dX6_makeColumns_61 : decode cX6_makeColumns 61 = .ok (.irem, 1) := by decide +kernel
theorem dX6_makeColumns_62 : decode cX6_makeColumns 62 = .ok (.ifCond .ne 27, 3) := by decide +kernel
theorem dX6_makeColumns_65 : decode cX6_makeColumns 65 = .ok (.aload_n 0, 1) := by decide +kernel
theorem dX6_makeColumns_66 : decode cX6_makeColumns 66 = .ok (.getfield 147, 3) := by decide +kernel
theorem dX6_makeColumns_69 : decode cX6_makeColumns 69 = .ok (.aload_n 0, 1) := by decide +kernel
theorem dX6_makeColumns_70 : decode cX6_makeColumns 70 = .ok (.getfield 138, 3) := by decide +kernel
theorem dX6_makeColumns_73 : decode cX6_makeColumns 73 = .ok (.iconst 4, 1) := by decide +kernel
theorem dX6_makeColumns_74 : decode cX6_makeColumns 74 = .ok (.iload_n 2, 1) := by decide +kernel
theorem dX6_makeColumns_75 : decode cX6_makeColumns 75 = .ok (.imul, 1) := by decide +kernel
theorem dX6_makeColumns_76 : decode cX6_makeColumns 76 = .ok (.iconst 4, 1) := by decide +kernel
theorem dX6_makeColumns_77 : decode cX6_makeColumns 77 = .ok (.isub, 1) := by decide +kernel
theorem dX6_makeColumns_78 : decode cX6_makeColumns 78 = .ok (.iload_n 3, 1) := by decide +kernel
theorem dX6_makeColumns_79 : decode cX6_makeColumns 79 = .ok (.iconst 1, 1) := by decide +kernel
theorem dX6_makeColumns_80 : decode cX6_makeColumns 80 = .ok (.iadd, 1) := by decide +kernel
theorem dX6_makeColumns_81 : decode cX6_makeColumns 81 = .ok (.iconst 4, 1) := by decide +kernel
theorem dX6_makeColumns_82 : decode cX6_makeColumns 82 = .ok (.irem, 1) := by decide +kernel
theorem dX6_makeColumns_83 : decode cX6_makeColumns 83 = .ok (.iadd, 1) := by decide +kernel
theorem dX6_makeColumns_84 : decode cX6_makeColumns 84 = .ok (.iaload, 1) := by decide +kernel
theorem dX6_makeColumns_85 : decode cX6_makeColumns 85 = .ok (.iaload, 1) := by decide +kernel
theorem dX6_makeColumns_86 : decode cX6_makeColumns 86 = .ok (.goto 15, 3) := by decide +kernel
theorem dX6_makeColumns_89 : decode cX6_makeColumns 89 = .ok (.aload_n 0, 1) := by decide +kernel
theorem dX6_makeColumns_90 : decode cX6_makeColumns 90 = .ok (.getfield 138, 3) := by decide +kernel
theorem dX6_makeColumns_93 : decode cX6_makeColumns 93 = .ok (.iconst 4, 1) := by decide +kernel
theorem dX6_makeColumns_94 : decode cX6_makeColumns 94 = .ok (.iload_n 2, 1) := by decide +kernel
theorem dX6_makeColumns_95 : decode cX6_makeColumns 95 = .ok (.imul, 1) := by decide +kernel
theorem dX6_makeColumns_96 : decode cX6_makeColumns 96 = .ok (.iconst 4, 1) := by decide +kernel
theorem dX6_makeColumns_97 : decode cX6_makeColumns 97 = .ok (.isub, 1) := by decide +kernel
theorem dX6_makeColumns_98 : decode cX6_makeColumns 98 = .ok (.iload_n 3, 1) := by decide +kernel
theorem dX6_makeColumns_99 : decode cX6_makeColumns 99 = .ok (.iadd, 1) := by decide +kernel
theorem dX6_makeColumns_100 : decode cX6_makeColumns 100 = .ok (.iaload, 1) := by decide +kernel
theorem dX6_makeColumns_101 : decode cX6_makeColumns 101 = .ok (.istore 4, 2) := by decide +kernel
theorem dX6_makeColumns_103 : decode cX6_makeColumns 103 = .ok (.iload_n 2, 1) := by decide +kernel
theorem dX6_makeColumns_104 : decode cX6_makeColumns 104 = .ok (.iconst 4, 1) := by decide +kernel
theorem dX6_makeColumns_105 : decode cX6_makeColumns 105 = .ok (.irem, 1) := by decide +kernel
theorem dX6_makeColumns_106 : decode cX6_makeColumns 106 = .ok (.ifCond .ne 14, 3) := by decide +kernel
theorem dX6_makeColumns_109 : decode cX6_makeColumns 109 = .ok (.iload_n 3, 1) := by decide +kernel
theorem dX6_makeColumns_110 : decode cX6_makeColumns 110 = .ok (.ifCond .ne 10, 3) := by decide +kernel
theorem dX6_makeColumns_113 : decode cX6_makeColumns 113 = .ok (.iload 4, 2) := by decide +kernel
theorem dX6_makeColumns_115 : decode cX6_makeColumns 115 = .ok (.iload_n 1, 1) := by decide +kernel
theorem dX6_makeColumns_116 : decode cX6_makeColumns 116 = .ok (.ixor, 1) := by decide +kernel
theorem dX6_makeColumns_117 : decode cX6_makeColumns 117 = .ok (.goto 5, 3) := by decide +kernel
theorem dX6_makeColumns_120 : decode cX6_makeColumns 120 = .ok (.iload 4, 2) := by decide +kernel
theorem dX6_makeColumns_122 : decode cX6_makeColumns 122 = .ok (.istore 4, 2) := by decide +kernel
theorem dX6_makeColumns_124 : decode cX6_makeColumns 124 = .ok (.aload_n 0, 1) := by decide +kernel
theorem dX6_makeColumns_125 : decode cX6_makeColumns 125 = .ok (.getfield 138, 3) := by decide +kernel
theorem dX6_makeColumns_128 : decode cX6_makeColumns 128 = .ok (.iconst 4, 1) := by decide +kernel
theorem dX6_makeColumns_129 : decode cX6_makeColumns 129 = .ok (.iload_n 2, 1) := by decide +kernel
theorem dX6_makeColumns_130 : decode cX6_makeColumns 130 = .ok (.imul, 1) := by decide +kernel
theorem dX6_makeColumns_131 : decode cX6_makeColumns 131 = .ok (.iload_n 3, 1) := by decide +kernel
theorem dX6_makeColumns_132 : decode cX6_makeColumns 132 = .ok (.iadd, 1) := by decide +kernel
theorem dX6_makeColumns_133 : decode cX6_makeColumns 133 = .ok (.aload_n 0, 1) := by decide +kernel
theorem dX6_makeColumns_134 : decode cX6_makeColumns 134 = .ok (.getfield 138, 3) := by decide +kernel
theorem dX6_makeColumns_137 : decode cX6_makeColumns 137 = .ok (.iconst 4, 1) := by decide +kernel
theorem dX6_makeColumns_138 : decode cX6_makeColumns 138 = .ok (.iload_n 2, 1) := by decide +kernel
theorem dX6_makeColumns_139 : decode cX6_makeColumns 139 = .ok (.imul, 1) := by decide +kernel
theorem dX6_makeColumns_140 : decode cX6_makeColumns 140 = .ok (.bipush 16, 2) := by decide +kernel
theorem dX6_makeColumns_142 : decode cX6_makeColumns 142 = .ok (.isub, 1) := by decide +kernel
theorem dX6_makeColumns_143 : decode cX6_makeColumns 143 = .ok (.iload_n 3, 1) := by decide +kernel
theorem dX6_makeColumns_144 : decode cX6_makeColumns 144 = .ok (.iadd, 1) := by decide +kernel
theorem dX6_makeColumns_145 : decode cX6_makeColumns 145 = .ok (.iaload, 1) := by decide +kernel
theorem dX6_makeColumns_146 : decode cX6_makeColumns 146 = .ok (.iload 4, 2) := by decide +kernel
theorem dX6_makeColumns_148 : decode cX6_makeColumns 148 = .ok (.ixor, 1) := by decide +kernel
theorem dX6_makeColumns_149 : decode cX6_makeColumns 149 = .ok (.iastore, 1) := by decide +kernel
theorem dX6_makeColumns_150 : decode cX6_makeColumns 150 = .ok (.iinc 3 1, 3) := by decide +kernel
theorem dX6_makeColumns_153 : decode cX6_makeColumns 153 = .ok (.goto (-99), 3) := by decide +kernel
theorem dX6_makeColumns_156 : decode cX6_makeColumns 156 = .ok (.iload_n 2, 1) := by decide +kernel
theorem dX6_makeColumns_157 : decode cX6_makeColumns 157 = .ok (.iconst 4, 1) := by decide +kernel
theorem dX6_makeColumns_158 : decode cX6_makeColumns 158 = .ok (.irem, 1) := by decide +kernel
theorem dX6_makeColumns_159 : decode cX6_makeColumns 159 = .ok (.ifCond .ne 10, 3) := by decide +kernel
theorem dX6_makeColumns_162 : decode cX6_makeColumns 162 = .ok (.iload_n 1, 1) := by decide +kernel
theorem dX6_makeColumns_163 : decode cX6_makeColumns 163 = .ok (.invokestatic 245, 3) := by decide +kernel
theorem dX6_makeColumns_166 : decode cX6_makeColumns 166 = .ok (.goto 4, 3) := by decide +kernel
theorem dX6_makeColumns_169 : decode cX6_makeColumns 169 = .ok (.iload_n 1, 1) := by decide +kernel
theorem dX6_makeColumns_170 : decode cX6_makeColumns 170 = .ok (.istore_n 1, 1) := by decide +kernel
theorem dX6_makeColumns_171 : decode cX6_makeColumns 171 = .ok (.iinc 2 1, 3) := by decide +kernel
theorem dX6_makeColumns_174 : decode cX6_makeColumns 174 = .ok (.goto (-128), 3) := by decide +kernel
theorem dX6_makeColumns_177 : decode cX6_makeColumns 177 = .ok (.return_, 1) := by decide +kernel
theorem dX6_addKey_0 : decode cX6_addKey 0 = .ok (.iconst 0, 1) := by decide +kernel
theorem dX6_addKey_1 : decode cX6_addKey 1 = .ok (.istore_n 2, 1) := by decide +kernel
theorem dX6_addKey_2 : decode cX6_addKey 2 = .ok (.iload_n 2, 1) := by decide +kernel
theorem dX6_addKey_3 : decode cX6_addKey 3 = .ok (.bipush 16, 2) := by decide +kernel
theorem dX6_addKey_5 : decode cX6_addKey 5 = .ok (.if_icmp .ge 33, 3) := by decide +kernel
theorem dX6_addKey_8 : decode cX6_addKey 8 = .ok (.aload_n 0, 1) := by decide +kernel
theorem dX6_addKey_9 : decode cX6_addKey 9 = .ok (.getfield 141, 3) := by decide +kernel
theorem dX6_addKey_12 : decode cX6_addKey 12 = .ok (.iload_n 2, 1) := by decide +kernel
theorem dX6_addKey_13 : decode cX6_addKey 13 = .ok (.aload_n 0, 1) := by decide +kernel
theorem dX6_addKey_14 : decode cX6_addKey 14 = .ok (.getfield 141, 3) := by decide +kernel
theorem dX6_addKey_17 : decode cX6_addKey 17 = .ok (.iload_n 2, 1) := by decide +kernel
theorem dX6_addKey_18 : decode cX6_addKey 18 = .ok (.iaload, 1) := by decide +kernel
theorem dX6_addKey_19 : decode cX6_addKey 19 = .ok (.aload_n 0, 1) := by decide +kernel
theorem dX6_addKey_20 : decode cX6_addKey 20 = .ok (.getfield 138, 3) := by decide +kernel
theorem dX6_addKey_23 : decode cX6_addKey 23 = .ok (.bipush 16, 2) := by decide +kernel
theorem dX6_addKey_25 : decode cX6_addKey 25 = .ok (.iload_n 1, 1) := by decide +kernel
theorem dX6_addKey_26 : decode cX6_addKey 26 = .ok (.imul, 1) := by decide +kernel
theorem dX6_addKey_27 : decode cX6_addKey 27 = .ok (.iload_n 2, 1) := by decide +kernel
theorem dX6_addKey_28 : decode cX6_addKey 28 = .ok (.iadd, 1) := by decide +kernel
theorem dX6_addKey_29 : decode cX6_addKey 29 = .ok (.iaload, 1) := by decide +kernel
theorem dX6_addKey_30 : decode cX6_addKey 30 = .ok (.ixor, 1) := by decide +kernel
theorem dX6_addKey_31 : decode cX6_addKey 31 = .ok (.iastore, 1) := by decide +kernel
theorem dX6_addKey_32 : decode cX6_addKey 32 = .ok (.iinc 2 1, 3) := by decide +kernel
theorem dX6_addKey_35 : decode cX6_addKey 35 = .ok (.goto (-33), 3) := by decide +kernel
theorem dX6_addKey_38 : decode cX6_addKey 38 = .ok (.return_, 1) := by decide +kernel
theorem dX6_shift_0 : decode cX6_shift 0 = .ok (.iconst 0, 1) := by decide +kernel
theorem dX6_shift_1 : decode cX6_shift 1 = .ok (.istore_n 2, 1) := by decide +kernel
theorem dX6_shift_2 : decode cX6_shift 2 = .ok (.iload_n 2, 1) := by decide +kernel
theorem dX6_shift_3 : decode cX6_shift 3 = .ok (.bipush 16, 2) := by decide +kernel
theorem dX6_shift_5 : decode cX6_shift 5 = .ok (.if_icmp .ge 40, 3) := by decide +kernel
theorem dX6_shift_8 : decode cX6_shift 8 = .ok (.iload_n 2, 1) := by decide +kernel
theorem dX6_shift_9 : decode cX6_shift 9 = .ok (.iconst 4, 1) := by decide +kernel
theorem dX6_shift_10 : decode cX6_shift 10 = .ok (.irem, 1) := by decide +kernel
theorem dX6_shift_11 : decode cX6_shift 11 = .ok (.istore_n 3, 1) := by decide +kernel
theorem dX6_shift_12 : decode cX6_shift 12 = .ok (.aload_n 0, 1) := by decide +kernel
theorem dX6_shift_13 : decode cX6_shift 13 = .ok (.getfield 144, 3) := by decide +kernel
theorem dX6_shift_16 : decode cX6_shift 16 = .ok (.iload_n 2, 1) := by decide +kernel
theorem dX6_shift_17 : decode cX6_shift 17 = .ok (.aload_n 0, 1) := by decide +kernel
theorem dX6_shift_18 : decode cX6_shift 18 = .ok (.getfield 141, 3) := by decide +kernel
theorem dX6_shift_21 : decode cX6_shift 21 = .ok (.iload_n 3, 1) := by decide +kernel
theorem dX6_shift_22 : decode cX6_shift 22 = .ok (.iconst 4, 1) := by decide +kernel
theorem dX6_shift_23 : decode cX6_shift 23 = .ok (.iload_n 2, 1) := by decide +kernel
theorem dX6_shift_24 : decode cX6_shift 24 = .ok (.iconst 4, 1) := by decide +kernel
theorem dX6_shift_25 : decode cX6_shift 25 = .ok (.idiv, 1) := by decide +kernel
theorem dX6_shift_26 : decode cX6_shift 26 = .ok (.iload_n 1, 1) := by decide +kernel
theorem dX6_shift_27 : decode cX6_shift 27 = .ok (.iload_n 3, 1) := by decide +kernel
theorem dX6_shift_28 : decode cX6_shift 28 = .ok (.imul, 1) := by decide +kernel
theorem dX6_shift_29 : decode cX6_shift 29 = .ok (.iadd, 1) := by decide +kernel
theorem dX6_shift_30 : decode cX6_shift 30 = .ok (.bipush 32, 2) := by decide +kernel
theorem dX6_shift_32 : decode cX6_shift 32 = .ok (.iadd, 1) := by decide +kernel
theorem dX6_shift_33 : decode cX6_shift 33 = .ok (.iconst 4, 1) := by decide +kernel
theorem dX6_shift_34 : decode cX6_shift 34 = .ok (.irem, 1) := by decide +kernel
theorem dX6_shift_35 : decode cX6_shift 35 = .ok (.imul, 1) := by decide +kernel
theorem dX6_shift_36 : decode cX6_shift 36 = .ok (.iadd, 1) := by decide +kernel
theorem dX6_shift_37 : decode cX6_shift 37 = .ok (.iaload, 1) := by decide +kernel
theorem dX6_shift_38 : decode cX6_shift 38 = .ok (.iastore, 1) := by decide +kernel
theorem dX6_shift_39 : decode cX6_shift 39 = .ok (.iinc 2 1, 3) := by decide +kernel
theorem dX6_shift_42 : decode cX6_shift 42 = .ok (.goto (-40), 3) := by decide +kernel
theorem dX6_shift_45 : decode cX6_shift 45 = .ok (.iconst 0, 1) := by decide +kernel
theorem dX6_shift_46 : decode cX6_shift 46 = .ok (.istore_n 2, 1) := by decide +kernel
theorem dX6_shift_47 : decode cX6_shift 47 = .ok (.iload_n 2, 1) := by decide +kernel
theorem dX6_shift_48 : decode cX6_shift 48 = .ok (.bipush 16, 2) := by decide +kernel
theorem dX6_shift_50 : decode cX6_shift 50 = .ok (.if_icmp .ge 21, 3) := by decide +kernel
theorem dX6_shift_53 : decode cX6_shift 53 = .ok (.aload_n 0, 1) := by decide +kernel
theorem dX6_shift_54 : decode cX6_shift 54 = .ok (.getfield 141, 3) := by decide +kernel
theorem dX6_shift_57 : decode cX6_shift 57 = .ok (.iload_n 2, 1) := by decide +kernel
theorem dX6_shift_58 : decode cX6_shift 58 = .ok (.aload_n 0, 1) := by decide +kernel
theorem dX6_shift_59 : decode cX6_shift 59 = .ok (.getfield 144, 3) := by decide +kernel
theorem dX6_shift_62 : decode cX6_shift 62 = .ok (.iload_n 2, 1) := by decide +kernel
theorem dX6_shift_63 : decode cX6_shift 63 = .ok (.iaload, 1) := by decide +kernel
theorem dX6_shift_64 : decode cX6_shift 64 = .ok (.iastore, 1) := by decide +kernel
theorem dX6_shift_65 : decode cX6_shift 65 = .ok (.iinc 2 1, 3) := by decide +kernel
theorem dX6_shift_68 : decode cX6_shift 68 = .ok (.goto (-21), 3) := by decide +kernel
theorem dX6_shift_71 : decode cX6_shift 71 = .ok (.return_, 1) := by decide +kernel
theorem dX6_mixColumns_0 : decode cX6_mixColumns 0 = .ok (.iconst 0, 1) := by decide +kernel
theorem dX6_mixColumns_1 : decode cX6_mixColumns 1 = .ok (.istore 5, 2) := by decide +kernel
theorem dX6_mixColumns_3 : decode cX6_mixColumns 3 = .ok (.iload 5, 2) := by decide +kernel
theorem dX6_mixColumns_5 : decode cX6_mixColumns 5 = .ok (.bipush 16, 2) := by decide +kernel
theorem dX6_mixColumns_7 : decode cX6_mixColumns 7 = .ok (.if_icmp .ge 103, 3) := by decide +kernel
theorem dX6_mixColumns_10 : decode cX6_mixColumns 10 = .ok (.iload 5, 2) := by decide +kernel
theorem dX6_mixColumns_12 : decode cX6_mixColumns 12 = .ok (.iload 5, 2) := by decide +kernel
theorem dX6_mixColumns_14 : decode cX6_mixColumns 14 = .ok (.iconst 4, 1) := by decide +kernel
theorem dX6_mixColumns_15 : decode cX6_mixColumns 15 = .ok (.irem, 1) := by decide +kernel
theorem dX6_mixColumns_16 : decode cX6_mixColumns 16 = .ok (.isub, 1) := by decide +kernel
theorem dX6_mixColumns_17 : decode cX6_mixColumns 17 = .ok (.istore 6, 2) := by decide +kernel
theorem dX6_mixColumns_19 : decode cX6_mixColumns 19 = .ok (.iload 5, 2) := by decide +kernel
theorem dX6_mixColumns_21 : decode cX6_mixColumns 21 = .ok (.iconst 4, 1) := by decide +kernel
theorem dX6_mixColumns_22 : decode cX6_mixColumns 22 = .ok (.irem, 1) := by decide +kernel
theorem dX6_mixColumns_23 : decode cX6_mixColumns 23 = .ok (.istore 7, 2) := by decide +kernel
theorem dX6_mixColumns_25 : decode cX6_mixColumns 25 = .ok (.aload_n 0, 1) := by decide +kernel
theorem dX6_mixColumns_26 : decode cX6_mixColumns 26 = .ok (.getfield 144, 3) := by decide +kernel
theorem dX6_mixColumns_29 : decode cX6_mixColumns 29 = .ok (.iload 5, 2) := by decide +kernel
theorem dX6_mixColumns_31 : decode cX6_mixColumns 31 = .ok (.aload_n 0, 1) := by decide +kernel
theorem dX6_mixColumns_32 : decode cX6_mixColumns 32 = .ok (.getfield 141, 3) := by decide +kernel
theorem dX6_mixColumns_35 : decode cX6_mixColumns 35 = .ok (.iload 6, 2) := by decide +kernel
theorem dX6_mixColumns_37 : decode cX6_mixColumns 37 = .ok (.iload 7, 2) := by decide +kernel
theorem dX6_mixColumns_39 : decode cX6_mixColumns 39 = .ok (.iadd, 1) := by decide +kernel
theorem dX6_mixColumns_40 : decode cX6_mixColumns 40 = .ok (.iaload, 1) := by decide +kernel
theorem dX6_mixColumns_41 : decode cX6_mixColumns 41 = .ok (.iload_n 1, 1) := by decide +kernel
theorem dX6_mixColumns_42 : decode cX6_mixColumns 42 = .ok (.invokestatic 248, 3) := by decide +kernel
theorem dX6_mixColumns_45 : decode cX6_mixColumns 45 = .ok (.aload_n 0, 1) := by decide +kernel
theorem dX6_mixColumns_46 : decode cX6_mixColumns 46 = .ok (.getfield 141, 3) := by decide +kernel
theorem dX6_mixColumns_49 : decode cX6_mixColumns 49 = .ok (.iload 6, 2) := by decide +kernel
theorem dX6_mixColumns_51 : decode cX6_mixColumns 51 = .ok (.iload 7, 2) := by decide +kernel
theorem dX6_mixColumns_53 : decode cX6_mixColumns 53 = .ok (.iconst 1, 1) := by decide +kernel
theorem dX6_mixColumns_54 : decode cX6_mixColumns 54 = .ok (.iadd, 1) := by decide +kernel
theorem dX6_mixColumns_55 : decode cX6_mixColumns 55 = .ok (.iconst 4, 1) := by decide +kernel
theorem dX6_mixColumns_56 : decode cX6_mixColumns 56 = .ok (.irem, 1) := by decide +kernel
theorem dX6_mixColumns_57 : decode cX6_mixColumns 57 = .ok (.iadd, 1) := by decide +kernel
theorem dX6_mixColumns_58 : decode cX6_mixColumns 58 = .ok (.iaload, 1) := by decide +kernel
theorem dX6_mixColumns_59 : decode cX6_mixColumns 59 = .ok (.iload_n 2, 1) := by decide +kernel
theorem dX6_mixColumns_60 : decode cX6_mixColumns 60 = .ok (.invokestatic 248, 3) := by decide +kernel
theorem dX6_mixColumns_63 : decode cX6_mixColumns 63 = .ok (.ixor, 1) := by decide +kernel
theorem dX6_mixColumns_64 : decode cX6_mixColumns 64 = .ok (.aload_n 0, 1) := by decide +kernel
theorem dX6_mixColumns_65 : decode cX6_mixColumns 65 = .ok (.getfield 141, 3) := by decide +kernel
theorem dX6_mixColumns_68 : decode cX6_mixColumns 68 = .ok (.iload 6, 2) := by decide +kernel
theorem dX6_mixColumns_70 : decode cX6_mixColumns 70 = .ok (.iload 7, 2) := by decide +kernel
theorem dX6_mixColumns_72 : decode cX6_mixColumns 72 = .ok (.iconst 2, 1) := by decide +kernel
theorem dX6_mixColumns_73 : decode cX6_mixColumns 73 = .ok (.iadd, 1) := by decide +kernel
theorem dX6_mixColumns_74 : decode cX6_mixColumns 74 = .ok (.iconst 4, 1) := by decide +kernel
theorem dX6_mixColumns_75 : decode cX6_mixColumns 75 = .ok (.irem, 1) := by decide +kernel
theorem dX6_mixColumns_76 : decode cX6_mixColumns 76 = .ok (.iadd, 1) := by decide +kernel
theorem dX6_mixColumns_77 : decode cX6_mixColumns 77 = .ok (.iaload, 1) := by decide +kernel
theorem dX6_mixColumns_78 : decode cX6_mixColumns 78 = .ok (.iload_n 3, 1) := by decide +kernel
theorem dX6_mixColumns_79 : decode cX6_mixColumns 79 = .ok (.invokestatic 248, 3) := by decide +kernel
theorem dX6_mixColumns_82 : decode cX6_mixColumns 82 = .ok (.ixor, 1) := by decide +kernel
theorem dX6_mixColumns_83 : decode cX6_mixColumns 83 = .ok (.aload_n 0, 1) := by decide +kernel
theorem dX6_mixColumns_84 : decode cX6_mixColumns 84 = .ok (.getfield 141, 3) := by decide +kernel
theorem dX6_mixColumns_87 : decode cX6_mixColumns 87 = .ok (.iload 6, 2) := by decide +kernel
theorem dX6_mixColumns_89 : decode cX6_mixColumns 89 = .ok (.iload 7, 2) := by decide +kernel
theorem dX6_mixColumns_91 : decode cX6_mixColumns 91 = .ok (.iconst 3, 1) := by decide +kernel
theorem dX6_mixColumns_92 : decode cX6_mixColumns 92 = .ok (.iadd, 1) := by decide +kernel
theorem dX6_mixColumns_93 : decode cX6_mixColumns 93 = .ok (.iconst 4, 1) := by decide +kernel
theorem dX6_mixColumns_94 : decode cX6_mixColumns 94 = .ok (.irem, 1) := by decide +kernel
theorem dX6_mixColumns_95 : decode cX6_mixColumns 95 = .ok (.iadd, 1) := by decide +kernel
theorem dX6_mixColumns_96 : decode cX6_mixColumns 96 = .ok (.iaload, 1) := by decide +kernel
theorem dX6_mixColumns_97 : decode cX6_mixColumns 97 = .ok (.iload 4, 2) := by decide +kernel
theorem dX6_mixColumns_99 : decode cX6_mixColumns 99 = .ok (.invokestatic 248, 3) := by decide +kernel
theorem dX6_mixColumns_102 : decode cX6_mixColumns 102 = .ok (.ixor, 1) := by decide +kernel
theorem dX6_mixColumns_103 : decode cX6_mixColumns 103 = .ok (.iastore, 1) := by decide +kernel
theorem dX6_mixColumns_104 : decode cX6_mixColumns 104 = .ok (.iinc 5 1, 3) := by decide +kernel
theorem dX6_mixColumns_107 : decode cX6_mixColumns 107 = .ok (.goto (-104), 3) := by decide +kernel
theorem dX6_mixColumns_110 : decode cX6_mixColumns 110 = .ok (.iconst 0, 1) := by decide +kernel
theorem dX6_mixColumns_111 : decode cX6_mixColumns 111 = .ok (.istore 5, 2) := by decide +kernel
theorem dX6_mixColumns_113 : decode cX6_mixColumns 113 = .ok (.iload 5, 2) := by decide +kernel
theorem dX6_mixColumns_115 : decode cX6_mixColumns 115 = .ok (.bipush 16, 2) := by decide +kernel
theorem dX6_mixColumns_117 : decode cX6_mixColumns 117 = .ok (.if_icmp .ge 23, 3) := by decide +kernel
theorem dX6_mixColumns_120 : decode cX6_mixColumns 120 = .ok (.aload_n 0, 1) := by decide +kernel
theorem dX6_mixColumns_121 : decode cX6_mixColumns 121 = .ok (.getfield 141, 3) := by decide +kernel
theorem dX6_mixColumns_124 : decode cX6_mixColumns 124 = .ok (.iload 5, 2) := by decide +kernel
theorem dX6_mixColumns_126 : decode cX6_mixColumns 126 = .ok (.aload_n 0, 1) := by decide +kernel
theorem dX6_mixColumns_127 : decode cX6_mixColumns 127 = .ok (.getfield 144, 3) := by decide +kernel
theorem dX6_mixColumns_130 : decode cX6_mixColumns 130 = .ok (.iload 5, 2) := by decide +kernel
theorem dX6_mixColumns_132 : decode cX6_mixColumns 132 = .ok (.iaload, 1) := by decide +kernel
theorem dX6_mixColumns_133 : decode cX6_mixColumns 133 = .ok (.iastore, 1) := by decide +kernel
theorem dX6_mixColumns_134 : decode cX6_mixColumns 134 = .ok (.iinc 5 1, 3) := by decide +kernel
theorem dX6_mixColumns_137 : decode cX6_mixColumns 137 = .ok (.goto (-24), 3) := by decide +kernel
theorem dX6_mixColumns_140 : decode cX6_mixColumns 140 = .ok (.return_, 1) := by decide +kernel
theorem dX6_makeBlock_0 : decode cX6_makeBlock 0 = .ok (.aload_n 0, 1) := by decide +kernel
theorem dX6_makeBlock_1 : decode cX6_makeBlock 1 = .ok (.iconst 0, 1) := by decide +kernel
theorem dX6_makeBlock_2 : decode cX6_makeBlock 2 = .ok (.invokevirtual 257, 3) := by decide +kernel
theorem dX6_makeBlock_5 : decode cX6_makeBlock 5 = .ok (.iconst 1, 1) := by decide +kernel
theorem dX6_makeBlock_6 : decode cX6_makeBlock 6 = .ok (.istore_n 1, 1) := by decide +kernel
theorem dX6_makeBlock_7 : decode cX6_makeBlock 7 = .ok (.iload_n 1, 1) := by decide +kernel
theorem dX6_makeBlock_8 : decode cX6_makeBlock 8 = .ok (.bipush 10, 2) := by decide +kernel
theorem dX6_makeBlock_10 : decode cX6_makeBlock 10 = .ok (.if_icmp .gt 64, 3) := by decide +kernel
theorem dX6_makeBlock_13 : decode cX6_makeBlock 13 = .ok (.iconst 0, 1) := by decide +kernel
theorem dX6_makeBlock_14 : decode cX6_makeBlock 14 = .ok (.istore_n 2, 1) := by decide +kernel
theorem dX6_makeBlock_15 : decode cX6_makeBlock 15 = .ok (.iload_n 2, 1) := by decide +kernel
theorem dX6_makeBlock_16 : decode cX6_makeBlock 16 = .ok (.bipush 16, 2) := by decide +kernel
theorem dX6_makeBlock_18 : decode cX6_makeBlock 18 = .ok (.if_icmp .ge 26, 3) := by decide +kernel
theorem dX6_makeBlock_21 : decode cX6_makeBlock 21 = .ok (.aload_n 0, 1) := by decide +kernel
theorem dX6_makeBlock_22 : decode cX6_makeBlock 22 = .ok (.getfield 141, 3) := by decide +kernel
theorem dX6_makeBlock_25 : decode cX6_makeBlock 25 = .ok (.iload_n 2, 1) := by decide +kernel
theorem dX6_makeBlock_26 : decode cX6_makeBlock 26 = .ok (.aload_n 0, 1) := by decide +kernel
theorem dX6_makeBlock_27 : decode cX6_makeBlock 27 = .ok (.getfield 147, 3) := by decide +kernel
theorem dX6_makeBlock_30 : decode cX6_makeBlock 30 = .ok (.aload_n 0, 1) := by decide +kernel
theorem dX6_makeBlock_31 : decode cX6_makeBlock 31 = .ok (.getfield 141, 3) := by decide +kernel
theorem dX6_makeBlock_34 : decode cX6_makeBlock 34 = .ok (.iload_n 2, 1) := by decide +kernel
theorem dX6_makeBlock_35 : decode cX6_makeBlock 35 = .ok (.iaload, 1) := by decide +kernel
theorem dX6_makeBlock_36 : decode cX6_makeBlock 36 = .ok (.iaload, 1) := by decide +kernel
theorem dX6_makeBlock_37 : decode cX6_makeBlock 37 = .ok (.iastore, 1) := by decide +kernel
theorem dX6_makeBlock_38 : decode cX6_makeBlock 38 = .ok (.iinc 2 1, 3) := by decide +kernel
theorem dX6_makeBlock_41 : decode cX6_makeBlock 41 = .ok (.goto (-26), 3) := by decide +kernel
theorem dX6_makeBlock_44 : decode cX6_makeBlock 44 = .ok (.aload_n 0, 1) := by decide +kernel
theorem dX6_makeBlock_45 : decode cX6_makeBlock 45 = .ok (.iconst 1, 1) := by decide +kernel
theorem dX6_makeBlock_46 : decode cX6_makeBlock 46 = .ok (.invokevirtual 260, 3) := by decide +kernel
theorem dX6_makeBlock_49 : decode cX6_makeBlock 49 = .ok (.iload_n 1, 1) := by decide +kernel
theorem dX6_makeBlock_50 : decode cX6_makeBlock 50 = .ok (.bipush 10, 2) := by decide +kernel
theorem dX6_makeBlock_52 : decode cX6_makeBlock 52 = .ok (.if_icmp .ge 11, 3) := by decide +kernel
theorem dX6_makeBlock_55 : decode cX6_makeBlock 55 = .ok (.aload_n 0, 1) := by decide +kernel
theorem dX6_makeBlock_56 : decode cX6_makeBlock 56 = .ok (.iconst 2, 1) := by decide +kernel
theorem dX6_makeBlock_57 : decode cX6_makeBlock 57 = .ok (.iconst 3, 1) := by decide +kernel
theorem dX6_makeBlock_58 : decode cX6_makeBlock 58 = .ok (.iconst 1, 1) := by decide +kernel
theorem dX6_makeBlock_59 : decode cX6_makeBlock 59 = .ok (.iconst 1, 1) := by decide +kernel
theorem dX6_makeBlock_60 : decode cX6_makeBlock 60 = .ok (.invokevirtual 263, 3) := by decide +kernel
theorem dX6_makeBlock_63 : decode cX6_makeBlock 63 = .ok (.aload_n 0, 1) := by decide +kernel
theorem dX6_makeBlock_64 : decode cX6_makeBlock 64 = .ok (.iload_n 1, 1) := by decide +kernel
theorem dX6_makeBlock_65 : decode cX6_makeBlock 65 = .ok (.invokevirtual 257, 3) := by decide +kernel
theorem dX6_makeBlock_68 : decode cX6_makeBlock 68 = .ok (.iinc 1 1, 3) := by decide +kernel
theorem dX6_makeBlock_71 : decode cX6_makeBlock 71 = .ok (.goto (-64), 3) := by decide +kernel
theorem dX6_makeBlock_74 : decode cX6_makeBlock 74 = .ok (.return_, 1) := by decide +kernel
theorem dX6_undoBlock_0 : decode cX6_undoBlock 0 = .ok (.bipush 10, 2) := by decide +kernel
theorem dX6_undoBlock_2 : decode cX6_undoBlock 2 = .ok (.istore_n 1, 1) := by decide +kernel
theorem dX6_undoBlock_3 : decode cX6_undoBlock 3 = .ok (.iload_n 1, 1) := by decide +kernel
theorem dX6_undoBlock_4 : decode cX6_undoBlock 4 = .ok (.iconst 1, 1) := by decide +kernel
theorem dX6_undoBlock_5 : decode cX6_undoBlock 5 = .ok (.if_icmp .lt 67, 3) := by decide +kernel
theorem dX6_undoBlock_8 : decode cX6_undoBlock 8 = .ok (.aload_n 0, 1) := by decide +kernel
theorem dX6_undoBlock_9 : decode cX6_undoBlock 9 = .ok (.iload_n 1, 1) := by decide +kernel
theorem dX6_undoBlock_10 : decode cX6_undoBlock 10 = .ok (.invokevirtual 257, 3) := by decide +kernel
theorem dX6_undoBlock_13 : decode cX6_undoBlock 13 = .ok (.iload_n 1, 1) := by decide +kernel
theorem dX6_undoBlock_14 : decode cX6_undoBlock 14 = .ok (.bipush 10, 2) := by decide +kernel
theorem dX6_undoBlock_16 : decode cX6_undoBlock 16 = .ok (.if_icmp .ge 15, 3) := by decide +kernel
theorem dX6_undoBlock_19 : decode cX6_undoBlock 19 = .ok (.aload_n 0, 1) := by decide +kernel
theorem dX6_undoBlock_20 : decode cX6_undoBlock 20 = .ok (.bipush 14, 2) := by decide +kernel
theorem dX6_undoBlock_22 : decode cX6_undoBlock 22 = .ok (.bipush 11, 2) := by decide +kernel
theorem dX6_undoBlock_24 : decode cX6_undoBlock 24 = .ok (.bipush 13, 2) := by decide +kernel
theorem dX6_undoBlock_26 : decode cX6_undoBlock 26 = .ok (.bipush 9, 2) := by decide +kernel
theorem dX6_undoBlock_28 : decode cX6_undoBlock 28 = .ok (.invokevirtual 263, 3) := by decide +kernel
theorem dX6_undoBlock_31 : decode cX6_undoBlock 31 = .ok (.aload_n 0, 1) := by decide +kernel
theorem dX6_undoBlock_32 : decode cX6_undoBlock 32 = .ok (.iconst (-1), 1) := by decide +kernel
theorem dX6_undoBlock_33 : decode cX6_undoBlock 33 = .ok (.invokevirtual 260, 3) := by decide +kernel
theorem dX6_undoBlock_36 : decode cX6_undoBlock 36 = .ok (.iconst 0, 1) := by decide +kernel
theorem dX6_undoBlock_37 : decode cX6_undoBlock 37 = .ok (.istore_n 2, 1) := by decide +kernel
theorem dX6_undoBlock_38 : decode cX6_undoBlock 38 = .ok (.iload_n 2, 1) := by decide +kernel
theorem dX6_undoBlock_39 : decode cX6_undoBlock 39 = .ok (.bipush 16, 2) := by decide +kernel
theorem dX6_undoBlock_41 : decode cX6_undoBlock 41 = .ok (.if_icmp .ge 25, 3) := by decide +kernel
theorem dX6_undoBlock_44 : decode cX6_undoBlock 44 = .ok (.aload_n 0, 1) := by decide +kernel
theorem dX6_undoBlock_45 : decode cX6_undoBlock 45 = .ok (.getfield 141, 3) := by decide +kernel
theorem dX6_undoBlock_48 : decode cX6_undoBlock 48 = .ok (.iload_n 2, 1) := by decide +kernel
theorem dX6_undoBlock_49 : decode cX6_undoBlock 49 = .ok (.aload_n 0, 1) := by decide +kernel
theorem dX6_undoBlock_50 : decode cX6_undoBlock 50 = .ok (.aload_n 0, 1) := by decide +kernel
theorem dX6_undoBlock_51 : decode cX6_undoBlock 51 = .ok (.getfield 141, 3) := by decide +kernel
theorem dX6_undoBlock_54 : decode cX6_undoBlock 54 = .ok (.iload_n 2, 1) := by decide +kernel
theorem dX6_undoBlock_55 : decode cX6_undoBlock 55 = .ok (.iaload, 1) := by decide +kernel
theorem dX6_undoBlock_56 : decode cX6_undoBlock 56 = .ok (.invokevirtual 267, 3) := by decide +kernel
theorem dX6_undoBlock_59 : decode cX6_undoBlock 59 = .ok (.iastore, 1) := by decide +kernel
theorem dX6_undoBlock_60 : decode cX6_undoBlock 60 = .ok (.iinc 2 1, 3) := by decide +kernel
theorem dX6_undoBlock_63 : decode cX6_undoBlock 63 = .ok (.goto (-25), 3) := by decide +kernel
theorem dX6_undoBlock_66 : decode cX6_undoBlock 66 = .ok (.iinc 1 (-1), 3) := by decide +kernel
theorem dX6_undoBlock_69 : decode cX6_undoBlock 69 = .ok (.goto (-66), 3) := by decide +kernel
theorem dX6_undoBlock_72 : decode cX6_undoBlock 72 = .ok (.aload_n 0, 1) := by decide +kernel
theorem dX6_undoBlock_73 : decode cX6_undoBlock 73 = .ok (.iconst 0, 1) := by decide +kernel
theorem dX6_undoBlock_74 : decode cX6_undoBlock 74 = .ok (.invokevirtual 257, 3) := by decide +kernel
theorem dX6_undoBlock_77 : decode cX6_undoBlock 77 = .ok (.return_, 1) := by decide +kernel
theorem dX6_makeObjectKey_0 : decode cX6_makeObjectKey 0 = .ok (.iconst 0, 1) := by decide +kernel
theorem dX6_makeObjectKey_1 : decode cX6_makeObjectKey 1 = .ok (.istore 4, 2) := by decide +kernel
theorem dX6_makeObjectKey_3 : decode cX6_makeObjectKey 3 = .ok (.iload 4, 2) := by decide +kernel
theorem dX6_makeObjectKey_5 : decode cX6_makeObjectKey 5 = .ok (.aload_n 0, 1) := by decide +kernel
theorem dX6_makeObjectKey_6 : decode cX6_makeObjectKey 6 = .ok (.getfield 20, 3) := by decide +kernel
theorem dX6_makeObjectKey_9 : decode cX6_makeObjectKey 9 = .ok (.if_icmp .ge 20, 3) := by decide +kernel
theorem dX6_makeObjectKey_12 : decode cX6_makeObjectKey 12 = .ok (.aload_n 0, 1) := by decide +kernel
theorem dX6_makeObjectKey_13 : decode cX6_makeObjectKey 13 = .ok (.aload_n 0, 1) := by decide +kernel
theorem dX6_makeObjectKey_14 : decode cX6_makeObjectKey 14 = .ok (.getfield 41, 3) := by decide +kernel
theorem dX6_makeObjectKey_17 : decode cX6_makeObjectKey 17 = .ok (.iload 4, 2) := by decide +kernel
theorem dX6_makeObjectKey_19 : decode cX6_makeObjectKey 19 = .ok (.iaload, 1) := by decide +kernel
theorem dX6_makeObjectKey_20 : decode cX6_makeObjectKey 20 = .ok (.invokevirtual 174, 3) := by decide +kernel
theorem dX6_makeObjectKey_23 : decode cX6_makeObjectKey 23 = .ok (.iinc 4 1, 3) := by decide +kernel
theorem dX6_makeObjectKey_26 : decode cX6_makeObjectKey 26 = .ok (.goto (-23), 3) := by decide +kernel
theorem dX6_makeObjectKey_29 : decode cX6_makeObjectKey 29 = .ok (.iconst 0, 1) := by decide +kernel
theorem dX6_makeObjectKey_30 : decode cX6_makeObjectKey 30 = .ok (.istore 4, 2) := by decide +kernel
theorem dX6_makeObjectKey_32 : decode cX6_makeObjectKey 32 = .ok (.iload 4, 2) := by decide +kernel
theorem dX6_makeObjectKey_34 : decode cX6_makeObjectKey 34 = .ok (.iconst 3, 1) := by decide +kernel
theorem dX6_makeObjectKey_35 : decode cX6_makeObjectKey 35 = .ok (.if_icmp .ge 24, 3) := by decide +kernel
theorem dX6_makeObjectKey_38 : decode cX6_makeObjectKey 38 = .ok (.aload_n 0, 1) := by decide +kernel
theorem dX6_makeObjectKey_39 : decode cX6_makeObjectKey 39 = .ok (.iload_n 1, 1) := by decide +kernel
theorem dX6_makeObjectKey_40 : decode cX6_makeObjectKey 40 = .ok (.bipush 8, 2) := by decide +kernel
theorem dX6_makeObjectKey_42 : decode cX6_makeObjectKey 42 = .ok (.iload 4, 2) := by decide +kernel
theorem dX6_makeObjectKey_44 : decode cX6_makeObjectKey 44 = .ok (.imul, 1) := by decide +kernel
theorem dX6_makeObjectKey_45 : decode cX6_makeObjectKey 45 = .ok (.ishr, 1) := by decide +kernel
theorem dX6_makeObjectKey_46 : decode cX6_makeObjectKey 46 = .ok (.sipush 255, 3) := by decide +kernel
theorem dX6_makeObjectKey_49 : decode cX6_makeObjectKey 49 = .ok (.iand, 1) := by decide +kernel
theorem dX6_makeObjectKey_50 : decode cX6_makeObjectKey 50 = .ok (.invokevirtual 174, 3) := by decide +kernel
theorem dX6_makeObjectKey_53 : decode cX6_makeObjectKey 53 = .ok (.iinc 4 1, 3) := by decide +kernel
theorem dX6_makeObjectKey_56 : decode cX6_makeObjectKey 56 = .ok (.goto (-24), 3) := by decide +kernel
theorem dX6_makeObjectKey_59 : decode cX6_makeObjectKey 59 = .ok (.aload_n 0, 1) := by decide +kernel
theorem dX6_makeObjectKey_60 : decode cX6_makeObjectKey 60 = .ok (.iload_n 2, 1) := by decide +kernel
theorem dX6_makeObjectKey_61 : decode cX6_makeObjectKey 61 = .ok (.sipush 255, 3) := by decide +kernel
theorem dX6_makeObjectKey_64 : decode cX6_makeObjectKey 64 = .ok (.iand, 1) := by decide +kernel
theorem dX6_makeObjectKey_65 : decode cX6_makeObjectKey 65 = .ok (.invokevirtual 174, 3) := by decide +kernel
theorem dX6_makeObjectKey_68 : decode cX6_makeObjectKey 68 = .ok (.aload_n 0, 1) := by decide +kernel
theorem dX6_makeObjectKey_69 : decode cX6_makeObjectKey 69 = .ok (.iload_n 2, 1) := by decide +kernel
theorem dX6_makeObjectKey_70 : decode cX6_makeObjectKey 70 = .ok (.bipush 8, 2) := by decide +kernel
theorem dX6_makeObjectKey_72 : decode cX6_makeObjectKey 72 = .ok (.ishr, 1) := by decide +kernel
theorem dX6_makeObjectKey_73 : decode cX6_makeObjectKey 73 = .ok (.sipush 255, 3) := by decide +kernel
theorem dX6_makeObjectKey_76 : decode cX6_makeObjectKey 76 = .ok (.iand, 1) := by decide +kernel
theorem dX6_makeObjectKey_77 : decode cX6_makeObjectKey 77 = .ok (.invokevirtual 174, 3) := by decide +kernel
theorem dX6_makeObjectKey_80 : decode cX6_makeObjectKey 80 = .ok (.iload_n 3, 1) := by decide +kernel
theorem dX6_makeObjectKey_81 : decode cX6_makeObjectKey 81 = .ok (.iconst 2, 1) := by decide +kernel
theorem dX6_makeObjectKey_82 : decode cX6_makeObjectKey 82 = .ok (.if_icmp .ne 27, 3) := by decide +kernel
theorem dX6_makeObjectKey_85 : decode cX6_makeObjectKey 85 = .ok (.aload_n 0, 1) := by decide +kernel
theorem dX6_makeObjectKey_86 : decode cX6_makeObjectKey 86 = .ok (.bipush 115, 2) := by decide +kernel
theorem dX6_makeObjectKey_88 : decode cX6_makeObjectKey 88 = .ok (.invokevirtual 174, 3) := by decide +kernel
theorem dX6_makeObjectKey_91 : decode cX6_makeObjectKey 91 = .ok (.aload_n 0, 1) := by decide +kernel
theorem dX6_makeObjectKey_92 : decode cX6_makeObjectKey 92 = .ok (.bipush 65, 2) := by decide +kernel
theorem dX6_makeObjectKey_94 : decode cX6_makeObjectKey 94 = .ok (.invokevirtual 174, 3) := by decide +kernel
theorem dX6_makeObjectKey_97 : decode cX6_makeObjectKey 97 = .ok (.aload_n 0, 1) := by decide +kernel
theorem dX6_makeObjectKey_98 : decode cX6_makeObjectKey 98 = .ok (.bipush 108, 2) := by decide +kernel
theorem dX6_makeObjectKey_100 : decode cX6_makeObjectKey 100 = .ok (.invokevirtual 174, 3) := by decide +kernel
theorem dX6_makeObjectKey_103 : decode cX6_makeObjectKey 103 = .ok (.aload_n 0, 1) := by decide +kernel
theorem dX6_makeObjectKey_104 : decode cX6_makeObjectKey 104 = .ok (.bipush 84, 2) := by decide +kernel
theorem dX6_makeObjectKey_106 : decode cX6_makeObjectKey 106 = .ok (.invokevirtual 174, 3) := by decide +kernel
theorem dX6_makeObjectKey_109 : decode cX6_makeObjectKey 109 = .ok (.aload_n 0, 1) := by decide +kernel
theorem dX6_makeObjectKey_110 : decode cX6_makeObjectKey 110 = .ok (.invokevirtual 185, 3) := by decide +kernel
theorem dX6_makeObjectKey_113 : decode cX6_makeObjectKey 113 = .ok (.aload_n 0, 1) := by decide +kernel
theorem dX6_makeObjectKey_114 : decode cX6_makeObjectKey 114 = .ok (.aload_n 0, 1) := by decide +kernel
theorem dX6_makeObjectKey_115 : decode cX6_makeObjectKey 115 = .ok (.getfield 20, 3) := by decide +kernel
theorem dX6_makeObjectKey_118 : decode cX6_makeObjectKey 118 = .ok (.iconst 5, 1) := by decide +kernel
theorem dX6_makeObjectKey_119 : decode cX6_makeObjectKey 119 = .ok (.iadd, 1) := by decide +kernel
theorem dX6_makeObjectKey_120 : decode cX6_makeObjectKey 120 = .ok (.bipush 16, 2) := by decide +kernel
theorem dX6_makeObjectKey_122 : decode cX6_makeObjectKey 122 = .ok (.if_icmp .le 8, 3) := by decide +kernel
theorem dX6_makeObjectKey_125 : decode cX6_makeObjectKey 125 = .ok (.bipush 16, 2) := by decide +kernel
theorem dX6_makeObjectKey_127 : decode cX6_makeObjectKey 127 = .ok (.goto 9, 3) := by decide +kernel
theorem dX6_makeObjectKey_130 : decode cX6_makeObjectKey 130 = .ok (.aload_n 0, 1) := by decide +kernel
theorem dX6_makeObjectKey_131 : decode cX6_makeObjectKey 131 = .ok (.getfield 20, 3) := by decide +kernel
theorem dX6_makeObjectKey_134 : decode cX6_makeObjectKey 134 = .ok (.iconst 5, 1) := by decide +kernel
theorem dX6_makeObjectKey_135 : decode cX6_makeObjectKey 135 = .ok (.iadd, 1) := by decide +kernel
theorem dX6_makeObjectKey_136 : decode cX6_makeObjectKey 136 = .ok (.invokevirtual 214, 3) := by decide +kernel
theorem dX6_makeObjectKey_139 : decode cX6_makeObjectKey 139 = .ok (.return_, 1) := by decide +kernel
theorem dX6_isSound_0 : decode cX6_isSound 0 = .ok (.iload_n 1, 1) := by decide +kernel
theorem dX6_isSound_1 : decode cX6_isSound 1 = .ok (.ifCond .lt 34, 3) := by decide +kernel
theorem dX6_isSound_4 : decode cX6_isSound 4 = .ok (.iload_n 1, 1) := by decide +kernel
theorem dX6_isSound_5 : decode cX6_isSound 5 = .ok (.ldc_w 270, 3) := by decide +kernel
theorem dX6_isSound_8 : decode cX6_isSound 8 = .ok (.if_icmp .gt 27, 3) := by decide +kernel
theorem dX6_isSound_11 : decode cX6_isSound 11 = .ok (.iload_n 2, 1) := by decide +kernel
theorem dX6_isSound_12 : decode cX6_isSound 12 = .ok (.ifCond .lt 23, 3) := by decide +kernel
theorem dX6_isSound_15 : decode cX6_isSound 15 = .ok (.iload_n 2, 1) := by decide +kernel
theorem dX6_isSound_16 : decode cX6_isSound 16 = .ok (.ldc_w 271, 3) := by decide +kernel
theorem dX6_isSound_19 : decode cX6_isSound 19 = .ok (.if_icmp .gt 16, 3) := by decide +kernel
theorem dX6_isSound_22 : decode cX6_isSound 22 = .ok (.iload_n 3, 1) := by decide +kernel
theorem dX6_isSound_23 : decode cX6_isSound 23 = .ok (.ifCond .lt 12, 3) := by decide +kernel
theorem dX6_isSound_26 : decode cX6_isSound 26 = .ok (.iload_n 3, 1) := by decide +kernel
theorem dX6_isSound_27 : decode cX6_isSound 27 = .ok (.iconst 2, 1) := by decide +kernel
theorem dX6_isSound_28 : decode cX6_isSound 28 = .ok (.if_icmp .gt 7, 3) := by decide +kernel
theorem dX6_isSound_31 : decode cX6_isSound 31 = .ok (.iconst 1, 1) := by decide +kernel
theorem dX6_isSound_32 : decode cX6_isSound 32 = .ok (.goto 4, 3) := by decide +kernel
theorem dX6_isSound_35 : decode cX6_isSound 35 = .ok (.iconst 0, 1) := by decide +kernel
theorem dX6_isSound_36 : decode cX6_isSound 36 = .ok (.ireturn, 1) := by decide +kernel
theorem dX6_copy_0 : decode cX6_copy 0 = .ok (.aload_n 0, 1) := by decide +kernel
theorem dX6_copy_1 : decode cX6_copy 1 = .ok (.aload_n 0, 1) := by decide +kernel
theorem dX6_copy_2 : decode cX6_copy 2 = .ok (.getfield 156, 3) := by decide +kernel
theorem dX6_copy_5 : decode cX6_copy 5 = .ok (.putfield 194, 3) := by decide +kernel
theorem dX6_copy_8 : decode cX6_copy 8 = .ok (.iconst 0, 1) := by decide +kernel
theorem dX6_copy_9 : decode cX6_copy 9 = .ok (.istore_n 1, 1) := by decide +kernel
theorem dX6_copy_10 : decode cX6_copy 10 = .ok (.iload_n 1, 1) := by decide +kernel
theorem dX6_copy_11 : decode cX6_copy 11 = .ok (.aload_n 0, 1) := by decide +kernel
theorem dX6_copy_12 : decode cX6_copy 12 = .ok (.getfield 156, 3) := by decide +kernel
theorem dX6_copy_15 : decode cX6_copy 15 = .ok (.if_icmp .ge 21, 3) := by decide +kernel
theorem dX6_copy_18 : decode cX6_copy 18 = .ok (.aload_n 0, 1) := by decide +kernel
theorem dX6_copy_19 : decode cX6_copy 19 = .ok (.getfield 13, 3) := by decide +kernel
theorem dX6_copy_22 : decode cX6_copy 22 = .ok (.iload_n 1, 1) := by decide +kernel
theorem dX6_copy_23 : decode cX6_copy 23 = .ok (.aload_n 0, 1) := by decide +kernel
theorem dX6_copy_24 : decode cX6_copy 24 = .ok (.getfield 7, 3) := by decide +kernel
theorem dX6_copy_27 : decode cX6_copy 27 = .ok (.iload_n 1, 1) := by decide +kernel
theorem dX6_copy_28 : decode cX6_copy 28 = .ok (.iaload, 1) := by decide +kernel
theorem dX6_copy_29 : decode cX6_copy 29 = .ok (.iastore, 1) := by decide +kernel
theorem dX6_copy_30 : decode cX6_copy 30 = .ok (.iinc 1 1, 3) := by decide +kernel
theorem dX6_copy_33 : decode cX6_copy 33 = .ok (.goto (-23), 3) := by decide +kernel
theorem dX6_copy_36 : decode cX6_copy 36 = .ok (.return_, 1) := by decide +kernel
theorem dX6_filling_0 : decode cX6_filling 0 = .ok (.aload_n 0, 1) := by decide +kernel
theorem dX6_filling_1 : decode cX6_filling 1 = .ok (.aload_n 0, 1) := by decide +kernel
theorem dX6_filling_2 : decode cX6_filling 2 = .ok (.getfield 156, 3) := by decide +kernel
theorem dX6_filling_5 : decode cX6_filling 5 = .ok (.bipush 16, 2) := by decide +kernel
theorem dX6_filling_7 : decode cX6_filling 7 = .ok (.isub, 1) := by decide +kernel
theorem dX6_filling_8 : decode cX6_filling 8 = .ok (.invokevirtual 272, 3) := by decide +kernel
theorem dX6_filling_11 : decode cX6_filling 11 = .ok (.aload_n 0, 1) := by decide +kernel
theorem dX6_filling_12 : decode cX6_filling 12 = .ok (.getfield 141, 3) := by decide +kernel
theorem dX6_filling_15 : decode cX6_filling 15 = .ok (.bipush 15, 2) := by decide +kernel
theorem dX6_filling_17 : decode cX6_filling 17 = .ok (.iaload, 1) := by decide +kernel
theorem dX6_filling_18 : decode cX6_filling 18 = .ok (.istore_n 1, 1) := by decide +kernel
theorem dX6_filling_19 : decode cX6_filling 19 = .ok (.iload_n 1, 1) := by decide +kernel
theorem dX6_filling_20 : decode cX6_filling 20 = .ok (.iconst 1, 1) := by decide +kernel
theorem dX6_filling_21 : decode cX6_filling 21 = .ok (.if_icmp .lt 13, 3) := by decide +kernel
theorem dX6_filling_24 : decode cX6_filling 24 = .ok (.iload_n 1, 1) := by decide +kernel
theorem dX6_filling_25 : decode cX6_filling 25 = .ok (.bipush 16, 2) := by decide +kernel
theorem dX6_filling_27 : decode cX6_filling 27 = .ok (.if_icmp .gt 7, 3) := by decide +kernel
theorem dX6_filling_30 : decode cX6_filling 30 = .ok (.iconst 1, 1) := by decide +kernel
theorem dX6_filling_31 : decode cX6_filling 31 = .ok (.goto 4, 3) := by decide +kernel
theorem dX6_filling_34 : decode cX6_filling 34 = .ok (.iconst 0, 1) := by decide +kernel
theorem dX6_filling_35 : decode cX6_filling 35 = .ok (.istore_n 2, 1) := by decide +kernel
theorem dX6_filling_36 : decode cX6_filling 36 = .ok (.bipush 16, 2) := by decide +kernel
theorem dX6_filling_38 : decode cX6_filling 38 = .ok (.iload_n 1, 1) := by decide +kernel
theorem dX6_filling_39 : decode cX6_filling 39 = .ok (.isub, 1) := by decide +kernel
theorem dX6_filling_40 : decode cX6_filling 40 = .ok (.istore_n 3, 1) := by decide +kernel
theorem dX6_filling_41 : decode cX6_filling 41 = .ok (.iload_n 2, 1) := by decide +kernel
theorem dX6_filling_42 : decode cX6_filling 42 = .ok (.ifCond .eq 31, 3) := by decide +kernel
theorem dX6_filling_45 : decode cX6_filling 45 = .ok (.iload_n 3, 1) := by decide +kernel
theorem dX6_filling_46 : decode cX6_filling 46 = .ok (.bipush 16, 2) := by decide +kernel
theorem dX6_filling_48 : decode cX6_filling 48 = .ok (.if_icmp .ge 25, 3) := by decide +kernel
theorem dX6_filling_51 : decode cX6_filling 51 = .ok (.aload_n 0, 1) := by decide +kernel
theorem dX6_filling_52 : decode cX6_filling 52 = .ok (.getfield 141, 3) := by decide +kernel
theorem dX6_filling_55 : decode cX6_filling 55 = .ok (.iload_n 3, 1) := by decide +kernel
theorem dX6_filling_56 : decode cX6_filling 56 = .ok (.iaload, 1) := by decide +kernel
theorem dX6_filling_57 : decode cX6_filling 57 = .ok (.iload_n 1, 1) := by decide +kernel
theorem dX6_filling_58 : decode cX6_filling 58 = .ok (.if_icmp .ne 7, 3) := by decide +kernel
theorem dX6_filling_61 : decode cX6_filling 61 = .ok (.iconst 1, 1) := by decide +kernel
theorem dX6_filling_62 : decode cX6_filling 62 = .ok (.goto 4, 3) := by decide +kernel
theorem dX6_filling_65 : decode cX6_filling 65 = .ok (.iconst 0, 1) := by decide +kernel
theorem dX6_filling_66 : decode cX6_filling 66 = .ok (.istore_n 2, 1) := by decide +kernel
theorem dX6_filling_67 : decode cX6_filling 67 = .ok (.iinc 3 1, 3) := by decide +kernel
theorem dX6_filling_70 : decode cX6_filling 70 = .ok (.goto (-29), 3) := by decide +kernel
theorem dX6_filling_73 : decode cX6_filling 73 = .ok (.iload_n 2, 1) := by decide +kernel
theorem dX6_filling_74 : decode cX6_filling 74 = .ok (.ifCond .eq 7, 3) := by decide +kernel
theorem dX6_filling_77 : decode cX6_filling 77 = .ok (.iload_n 1, 1) := by decide +kernel
theorem dX6_filling_78 : decode cX6_filling 78 = .ok (.goto 4, 3) := by decide +kernel
theorem dX6_filling_81 : decode cX6_filling 81 = .ok (.iconst 0, 1) := by decide +kernel
theorem dX6_filling_82 : decode cX6_filling 82 = .ok (.ireturn, 1) := by decide +kernel
theorem dX6_undoAt_0 : decode cX6_undoAt 0 = .ok (.iconst 0, 1) := by decide +kernel
theorem dX6_undoAt_1 : decode cX6_undoAt 1 = .ok (.istore_n 2, 1) := by decide +kernel
theorem dX6_undoAt_2 : decode cX6_undoAt 2 = .ok (.iload_n 2, 1) := by decide +kernel
theorem dX6_undoAt_3 : decode cX6_undoAt 3 = .ok (.bipush 16, 2) := by decide +kernel
theorem dX6_undoAt_5 : decode cX6_undoAt 5 = .ok (.if_icmp .ge 23, 3) := by decide +kernel
theorem dX6_undoAt_8 : decode cX6_undoAt 8 = .ok (.aload_n 0, 1) := by decide +kernel
theorem dX6_undoAt_9 : decode cX6_undoAt 9 = .ok (.getfield 141, 3) := by decide +kernel
theorem dX6_undoAt_12 : decode cX6_undoAt 12 = .ok (.iload_n 2, 1) := by decide +kernel
theorem dX6_undoAt_13 : decode cX6_undoAt 13 = .ok (.aload_n 0, 1) := by decide +kernel
theorem dX6_undoAt_14 : decode cX6_undoAt 14 = .ok (.getfield 7, 3) := by decide +kernel
theorem dX6_undoAt_17 : decode cX6_undoAt 17 = .ok (.iload_n 1, 1) := by decide +kernel
theorem dX6_undoAt_18 : decode cX6_undoAt 18 = .ok (.iload_n 2, 1) := by decide +kernel
theorem dX6_undoAt_19 : decode cX6_undoAt 19 = .ok (.iadd, 1) := by decide +kernel
theorem dX6_undoAt_20 : decode cX6_undoAt 20 = .ok (.iaload, 1) := by decide +kernel
theorem dX6_undoAt_21 : decode cX6_undoAt 21 = .ok (.iastore, 1) := by decide +kernel
theorem dX6_undoAt_22 : decode cX6_undoAt 22 = .ok (.iinc 2 1, 3) := by decide +kernel
theorem dX6_undoAt_25 : decode cX6_undoAt 25 = .ok (.goto (-23), 3) := by decide +kernel
theorem dX6_undoAt_28 : decode cX6_undoAt 28 = .ok (.aload_n 0, 1) := by decide +kernel
theorem dX6_undoAt_29 : decode cX6_undoAt 29 = .ok (.invokevirtual 275, 3) := by decide +kernel
theorem dX6_undoAt_32 : decode cX6_undoAt 32 = .ok (.iconst 0, 1) := by decide +kernel
theorem dX6_undoAt_33 : decode cX6_undoAt 33 = .ok (.istore_n 2, 1) := by decide +kernel
theorem dX6_undoAt_34 : decode cX6_undoAt 34 = .ok (.iload_n 2, 1) := by decide +kernel
theorem dX6_undoAt_35 : decode cX6_undoAt 35 = .ok (.bipush 16, 2) := by decide +kernel
theorem dX6_undoAt_37 : decode cX6_undoAt 37 = .ok (.if_icmp .ge 33, 3) := by decide +kernel
theorem dX6_undoAt_40 : decode cX6_undoAt 40 = .ok (.aload_n 0, 1) := by decide +kernel
theorem dX6_undoAt_41 : decode cX6_undoAt 41 = .ok (.getfield 141, 3) := by decide +kernel
theorem dX6_undoAt_44 : decode cX6_undoAt 44 = .ok (.iload_n 2, 1) := by decide +kernel
theorem dX6_undoAt_45 : decode cX6_undoAt 45 = .ok (.aload_n 0, 1) := by decide +kernel
theorem dX6_undoAt_46 : decode cX6_undoAt 46 = .ok (.getfield 141, 3) := by decide +kernel
theorem dX6_undoAt_49 : decode cX6_undoAt 49 = .ok (.iload_n 2, 1) := by decide +kernel
theorem dX6_undoAt_50 : decode cX6_undoAt 50 = .ok (.iaload, 1) := by decide +kernel
theorem dX6_undoAt_51 : decode cX6_undoAt 51 = .ok (.aload_n 0, 1) := by decide +kernel
theorem dX6_undoAt_52 : decode cX6_undoAt 52 = .ok (.getfield 7, 3) := by decide +kernel
theorem dX6_undoAt_55 : decode cX6_undoAt 55 = .ok (.iload_n 1, 1) := by decide +kernel
theorem dX6_undoAt_56 : decode cX6_undoAt 56 = .ok (.bipush 16, 2) := by decide +kernel
theorem dX6_undoAt_58 : decode cX6_undoAt 58 = .ok (.isub, 1) := by decide +kernel
theorem dX6_undoAt_59 : decode cX6_undoAt 59 = .ok (.iload_n 2, 1) := by decide +kernel
theorem dX6_undoAt_60 : decode cX6_undoAt 60 = .ok (.iadd, 1) := by decide +kernel
theorem dX6_undoAt_61 : decode cX6_undoAt 61 = .ok (.iaload, 1) := by decide +kernel
theorem dX6_undoAt_62 : decode cX6_undoAt 62 = .ok (.ixor, 1) := by decide +kernel
theorem dX6_undoAt_63 : decode cX6_undoAt 63 = .ok (.iastore, 1) := by decide +kernel
theorem dX6_undoAt_64 : decode cX6_undoAt 64 = .ok (.iinc 2 1, 3) := by decide +kernel
theorem dX6_undoAt_67 : decode cX6_undoAt 67 = .ok (.goto (-33), 3) := by decide +kernel
theorem dX6_undoAt_70 : decode cX6_undoAt 70 = .ok (.return_, 1) := by decide +kernel
theorem dX6_undoBlocks_0 : decode cX6_undoBlocks 0 = .ok (.aload_n 0, 1) := by decide +kernel
theorem dX6_undoBlocks_1 : decode cX6_undoBlocks 1 = .ok (.getfield 156, 3) := by decide +kernel
theorem dX6_undoBlocks_4 : decode cX6_undoBlocks 4 = .ok (.bipush 16, 2) := by decide +kernel
theorem dX6_undoBlocks_6 : decode cX6_undoBlocks 6 = .ok (.irem, 1) := by decide +kernel
theorem dX6_undoBlocks_7 : decode cX6_undoBlocks 7 = .ok (.ifCond .ne 12, 3) := by decide +kernel
theorem dX6_undoBlocks_10 : decode cX6_undoBlocks 10 = .ok (.aload_n 0, 1) := by decide +kernel
theorem dX6_undoBlocks_11 : decode cX6_undoBlocks 11 = .ok (.getfield 156, 3) := by decide +kernel
theorem dX6_undoBlocks_14 : decode cX6_undoBlocks 14 = .ok (.bipush 32, 2) := by decide +kernel
theorem dX6_undoBlocks_16 : decode cX6_undoBlocks 16 = .ok (.if_icmp .ge 6, 3) := by decide +kernel
theorem dX6_undoBlocks_19 : decode cX6_undoBlocks 19 = .ok (.bipush (-2), 2) := by decide +kernel
theorem dX6_undoBlocks_21 : decode cX6_undoBlocks 21 = .ok (.ireturn, 1) := by decide +kernel
theorem dX6_undoBlocks_22 : decode cX6_undoBlocks 22 = .ok (.aload_n 0, 1) := by decide +kernel
theorem dX6_undoBlocks_23 : decode cX6_undoBlocks 23 = .ok (.invokevirtual 278, 3) := by decide +kernel
theorem dX6_undoBlocks_26 : decode cX6_undoBlocks 26 = .ok (.aload_n 0, 1) := by decide +kernel
theorem dX6_undoBlocks_27 : decode cX6_undoBlocks 27 = .ok (.invokevirtual 281, 3) := by decide +kernel
theorem dX6_undoBlocks_30 : decode cX6_undoBlocks 30 = .ok (.istore_n 1, 1) := by decide +kernel
theorem dX6_undoBlocks_31 : decode cX6_undoBlocks 31 = .ok (.iload_n 1, 1) := by decide +kernel
theorem dX6_undoBlocks_32 : decode cX6_undoBlocks 32 = .ok (.ifCond .ne 6, 3) := by decide +kernel
theorem dX6_undoBlocks_35 : decode cX6_undoBlocks 35 = .ok (.bipush (-3), 2) := by decide +kernel
theorem dX6_undoBlocks_37 : decode cX6_undoBlocks 37 = .ok (.ireturn, 1) := by decide +kernel
theorem dX6_undoBlocks_38 : decode cX6_undoBlocks 38 = .ok (.bipush 16, 2) := by decide +kernel
theorem dX6_undoBlocks_40 : decode cX6_undoBlocks 40 = .ok (.istore_n 2, 1) := by decide +kernel
theorem dX6_undoBlocks_41 : decode cX6_undoBlocks 41 = .ok (.iload_n 2, 1) := by decide +kernel
theorem dX6_undoBlocks_42 : decode cX6_undoBlocks 42 = .ok (.aload_n 0, 1) := by decide +kernel
theorem dX6_undoBlocks_43 : decode cX6_undoBlocks 43 = .ok (.getfield 156, 3) := by decide +kernel
theorem dX6_undoBlocks_46 : decode cX6_undoBlocks 46 = .ok (.if_icmp .ge 45, 3) := by decide +kernel
theorem dX6_undoBlocks_49 : decode cX6_undoBlocks 49 = .ok (.aload_n 0, 1) := by decide +kernel
theorem dX6_undoBlocks_50 : decode cX6_undoBlocks 50 = .ok (.iload_n 2, 1) := by decide +kernel
theorem dX6_undoBlocks_51 : decode cX6_undoBlocks 51 = .ok (.invokevirtual 272, 3) := by decide +kernel
theorem dX6_undoBlocks_54 : decode cX6_undoBlocks 54 = .ok (.iconst 0, 1) := by decide +kernel
theorem dX6_undoBlocks_55 : decode cX6_undoBlocks 55 = .ok (.istore_n 3, 1) := by decide +kernel
theorem dX6_undoBlocks_56 : decode cX6_undoBlocks 56 = .ok (.iload_n 3, 1) := by decide +kernel
theorem dX6_undoBlocks_57 : decode cX6_undoBlocks 57 = .ok (.bipush 16, 2) := by decide +kernel
theorem dX6_undoBlocks_59 : decode cX6_undoBlocks 59 = .ok (.if_icmp .ge 26, 3) := by decide +kernel
theorem dX6_undoBlocks_62 : decode cX6_undoBlocks 62 = .ok (.aload_n 0, 1) := by decide +kernel
theorem dX6_undoBlocks_63 : decode cX6_undoBlocks 63 = .ok (.getfield 13, 3) := by decide +kernel
theorem dX6_undoBlocks_66 : decode cX6_undoBlocks 66 = .ok (.iload_n 2, 1) := by decide +kernel
theorem dX6_undoBlocks_67 : decode cX6_undoBlocks 67 = .ok (.bipush 16, 2) := by decide +kernel
theorem dX6_undoBlocks_69 : decode cX6_undoBlocks 69 = .ok (.isub, 1) := by decide +kernel
theorem dX6_undoBlocks_70 : decode cX6_undoBlocks 70 = .ok (.iload_n 3, 1) := by decide +kernel
theorem dX6_undoBlocks_71 : decode cX6_undoBlocks 71 = .ok (.iadd, 1) := by decide +kernel
theorem dX6_undoBlocks_72 : decode cX6_undoBlocks 72 = .ok (.aload_n 0, 1) := by decide +kernel
theorem dX6_undoBlocks_73 : decode cX6_undoBlocks 73 = .ok (.getfield 141, 3) := by decide +kernel
theorem dX6_undoBlocks_76 : decode cX6_undoBlocks 76 = .ok (.iload_n 3, 1) := by decide +kernel
theorem dX6_undoBlocks_77 : decode cX6_undoBlocks 77 = .ok (.iaload, 1) := by decide +kernel
theorem dX6_undoBlocks_78 : decode cX6_undoBlocks 78 = .ok (.iastore, 1) := by decide +kernel
theorem dX6_undoBlocks_79 : decode cX6_undoBlocks 79 = .ok (.iinc 3 1, 3) := by decide +kernel
theorem dX6_undoBlocks_82 : decode cX6_undoBlocks 82 = .ok (.goto (-26), 3) := by decide +kernel
theorem dX6_undoBlocks_85 : decode cX6_undoBlocks 85 = .ok (.iinc 2 16, 3) := by decide +kernel
theorem dX6_undoBlocks_88 : decode cX6_undoBlocks 88 = .ok (.goto (-47), 3) := by decide +kernel
theorem dX6_undoBlocks_91 : decode cX6_undoBlocks 91 = .ok (.aload_n 0, 1) := by decide +kernel
theorem dX6_undoBlocks_92 : decode cX6_undoBlocks 92 = .ok (.aload_n 0, 1) := by decide +kernel
theorem dX6_undoBlocks_93 : decode cX6_undoBlocks 93 = .ok (.getfield 156, 3) := by decide +kernel
theorem dX6_undoBlocks_96 : decode cX6_undoBlocks 96 = .ok (.bipush 16, 2) := by decide +kernel
theorem dX6_undoBlocks_98 : decode cX6_undoBlocks 98 = .ok (.isub, 1) := by decide +kernel
theorem dX6_undoBlocks_99 : decode cX6_undoBlocks 99 = .ok (.iload_n 1, 1) := by decide +kernel
theorem dX6_undoBlocks_100 : decode cX6_undoBlocks 100 = .ok (.isub, 1) := by decide +kernel
theorem dX6_undoBlocks_101 : decode cX6_undoBlocks 101 = .ok (.putfield 194, 3) := by decide +kernel
theorem dX6_undoBlocks_104 : decode cX6_undoBlocks 104 = .ok (.aload_n 0, 1) := by decide +kernel
theorem dX6_undoBlocks_105 : decode cX6_undoBlocks 105 = .ok (.getfield 194, 3) := by decide +kernel
theorem dX6_undoBlocks_108 : decode cX6_undoBlocks 108 = .ok (.ireturn, 1) := by decide +kernel
theorem dX6_undo_0 : decode cX6_undo 0 = .ok (.aload_n 0, 1) := by decide +kernel
theorem dX6_undo_1 : decode cX6_undo 1 = .ok (.aload_n 0, 1) := by decide +kernel
theorem dX6_undo_2 : decode cX6_undo 2 = .ok (.iload_n 1, 1) := by decide +kernel
theorem dX6_undo_3 : decode cX6_undo 3 = .ok (.iload_n 2, 1) := by decide +kernel
theorem dX6_undo_4 : decode cX6_undo 4 = .ok (.iload_n 3, 1) := by decide +kernel
theorem dX6_undo_5 : decode cX6_undo 5 = .ok (.invokevirtual 285, 3) := by decide +kernel
theorem dX6_undo_8 : decode cX6_undo 8 = .ok (.ifCond .ne 7, 3) := by decide +kernel
theorem dX6_undo_11 : decode cX6_undo 11 = .ok (.iconst 1, 1) := by decide +kernel
theorem dX6_undo_12 : decode cX6_undo 12 = .ok (.goto 15, 3) := by decide +kernel
theorem dX6_undo_15 : decode cX6_undo 15 = .ok (.aload_n 0, 1) := by decide +kernel
theorem dX6_undo_16 : decode cX6_undo 16 = .ok (.getfield 220, 3) := by decide +kernel
theorem dX6_undo_19 : decode cX6_undo 19 = .ok (.ifCond .ne 7, 3) := by decide +kernel
theorem dX6_undo_22 : decode cX6_undo 22 = .ok (.iconst 2, 1) := by decide +kernel
theorem dX6_undo_23 : decode cX6_undo 23 = .ok (.goto 4, 3) := by decide +kernel
theorem dX6_undo_26 : decode cX6_undo 26 = .ok (.iconst 0, 1) := by decide +kernel
theorem dX6_undo_27 : decode cX6_undo 27 = .ok (.invokevirtual 159, 3) := by decide +kernel
theorem dX6_undo_30 : decode cX6_undo 30 = .ok (.ifCond .eq 5, 3) := by decide +kernel
theorem dX6_undo_33 : decode cX6_undo 33 = .ok (.iconst 0, 1) := by decide +kernel
theorem dX6_undo_34 : decode cX6_undo 34 = .ok (.ireturn, 1) := by decide +kernel
theorem dX6_undo_35 : decode cX6_undo 35 = .ok (.aload_n 0, 1) := by decide +kernel
theorem dX6_undo_36 : decode cX6_undo 36 = .ok (.iload_n 1, 1) := by decide +kernel
theorem dX6_undo_37 : decode cX6_undo 37 = .ok (.iload_n 2, 1) := by decide +kernel
theorem dX6_undo_38 : decode cX6_undo 38 = .ok (.iload_n 3, 1) := by decide +kernel
theorem dX6_undo_39 : decode cX6_undo 39 = .ok (.invokevirtual 289, 3) := by decide +kernel
theorem dX6_undo_42 : decode cX6_undo 42 = .ok (.iload_n 3, 1) := by decide +kernel
theorem dX6_undo_43 : decode cX6_undo 43 = .ok (.iconst 2, 1) := by decide +kernel
theorem dX6_undo_44 : decode cX6_undo 44 = .ok (.if_icmp .ne 8, 3) := by decide +kernel
theorem dX6_undo_47 : decode cX6_undo 47 = .ok (.aload_n 0, 1) := by decide +kernel
theorem dX6_undo_48 : decode cX6_undo 48 = .ok (.invokevirtual 293, 3) := by decide +kernel
theorem dX6_undo_51 : decode cX6_undo 51 = .ok (.ireturn, 1) := by decide +kernel
theorem dX6_undo_52 : decode cX6_undo 52 = .ok (.iload_n 3, 1) := by decide +kernel
theorem dX6_undo_53 : decode cX6_undo 53 = .ok (.iconst 1, 1) := by decide +kernel
theorem dX6_undo_54 : decode cX6_undo 54 = .ok (.if_icmp .ne 10, 3) := by decide +kernel
theorem dX6_undo_57 : decode cX6_undo 57 = .ok (.aload_n 0, 1) := by decide +kernel
theorem dX6_undo_58 : decode cX6_undo 58 = .ok (.invokevirtual 296, 3) := by decide +kernel
theorem dX6_undo_61 : decode cX6_undo 61 = .ok (.goto 7, 3) := by decide +kernel
theorem dX6_undo_64 : decode cX6_undo 64 = .ok (.aload_n 0, 1) := by decide +kernel
theorem dX6_undo_65 : decode cX6_undo 65 = .ok (.invokevirtual 299, 3) := by decide +kernel
theorem dX6_undo_68 : decode cX6_undo 68 = .ok (.aload_n 0, 1) := by decide +kernel
theorem dX6_undo_69 : decode cX6_undo 69 = .ok (.getfield 194, 3) := by decide +kernel
theorem dX6_undo_72 : decode cX6_undo 72 = .ok (.ireturn, 1) := by decide +kernel
theorem dX6_sealBlocks_0 : decode cX6_sealBlocks 0 = .ok (.aload_n 0, 1) := by decide +kernel
theorem dX6_sealBlocks_1 : decode cX6_sealBlocks 1 = .ok (.invokevirtual 278, 3) := by decide +kernel
theorem dX6_sealBlocks_4 : decode cX6_sealBlocks 4 = .ok (.bipush 16, 2) := by decide +kernel
theorem dX6_sealBlocks_6 : decode cX6_sealBlocks 6 = .ok (.aload_n 0, 1) := by decide +kernel
theorem dX6_sealBlocks_7 : decode cX6_sealBlocks 7 = .ok (.getfield 156, 3) := by decide +kernel
theorem dX6_sealBlocks_10 : decode cX6_sealBlocks 10 = .ok (.bipush 16, 2) := by decide +kernel
theorem dX6_sealBlocks_12 : decode cX6_sealBlocks 12 = .ok (.irem, 1) := by decide +kernel
theorem dX6_sealBlocks_13 : decode cX6_sealBlocks 13 = .ok (.isub, 1) := by decide +kernel
theorem dX6_sealBlocks_14 : decode cX6_sealBlocks 14 = .ok (.istore_n 3, 1) := by decide +kernel
theorem dX6_sealBlocks_15 : decode cX6_sealBlocks 15 = .ok (.iconst 0, 1) := by decide +kernel
theorem dX6_sealBlocks_16 : decode cX6_sealBlocks 16 = .ok (.istore 4, 2) := by decide +kernel
theorem dX6_sealBlocks_18 : decode cX6_sealBlocks 18 = .ok (.iload 4, 2) := by decide +kernel
theorem dX6_sealBlocks_20 : decode cX6_sealBlocks 20 = .ok (.bipush 16, 2) := by decide +kernel
theorem dX6_sealBlocks_22 : decode cX6_sealBlocks 22 = .ok (.if_icmp .ge 72, 3) := by decide +kernel
theorem dX6_sealBlocks_25 : decode cX6_sealBlocks 25 = .ok (.iload 4, 2) := by decide +kernel
theorem dX6_sealBlocks_27 : decode cX6_sealBlocks 27 = .ok (.iconst 4, 1) := by decide +kernel
theorem dX6_sealBlocks_28 : decode cX6_sealBlocks 28 = .ok (.if_icmp .ge 7, 3) := by decide +kernel
theorem dX6_sealBlocks_31 : decode cX6_sealBlocks 31 = .ok (.iload_n 1, 1) := by decide +kernel
theorem dX6_sealBlocks_32 : decode cX6_sealBlocks 32 = .ok (.goto 30, 3) := by decide +kernel
theorem dX6_sealBlocks_35 : decode cX6_sealBlocks 35 = .ok (.iload 4, 2) := by decide +kernel
theorem dX6_sealBlocks_37 : decode cX6_sealBlocks 37 = .ok (.bipush 8, 2) := by decide +kernel
theorem dX6_sealBlocks_39 : decode cX6_sealBlocks 39 = .ok (.if_icmp .ge 7, 3) := by decide +kernel
theorem dX6_sealBlocks_42 : decode cX6_sealBlocks 42 = .ok (.iload_n 2, 1) := by decide +kernel
theorem dX6_sealBlocks_43 : decode cX6_sealBlocks 43 = .ok (.goto 19, 3) := by decide +kernel
theorem dX6_sealBlocks_46 : decode cX6_sealBlocks 46 = .ok (.iload 4, 2) := by decide +kernel
theorem dX6_sealBlocks_48 : decode cX6_sealBlocks 48 = .ok (.bipush 12, 2) := by decide +kernel
theorem dX6_sealBlocks_50 : decode cX6_sealBlocks 50 = .ok (.if_icmp .ge 9, 3) := by decide +kernel
theorem dX6_sealBlocks_53 : decode cX6_sealBlocks 53 = .ok (.iload_n 1, 1) := by decide +kernel
theorem dX6_sealBlocks_54 : decode cX6_sealBlocks 54 = .ok (.iconst (-1), 1) := by decide +kernel
theorem dX6_sealBlocks_55 : decode cX6_sealBlocks 55 = .ok (.ixor, 1) := by decide +kernel
theorem dX6_sealBlocks_56 : decode cX6_sealBlocks 56 = .ok (.goto 6, 3) := by decide +kernel
theorem dX6_sealBlocks_59 : decode cX6_sealBlocks 59 = .ok (.iload_n 2, 1) := by decide +kernel
theorem dX6_sealBlocks_60 : decode cX6_sealBlocks 60 = .ok (.iconst (-1), 1) := by decide +kernel
theorem dX6_sealBlocks_61 : decode cX6_sealBlocks 61 = .ok (.ixor, 1) := by decide +kernel
theorem dX6_sealBlocks_62 : decode cX6_sealBlocks 62 = .ok (.istore 5, 2) := by decide +kernel
theorem dX6_sealBlocks_64 : decode cX6_sealBlocks 64 = .ok (.aload_n 0, 1) := by decide +kernel
theorem dX6_sealBlocks_65 : decode cX6_sealBlocks 65 = .ok (.getfield 13, 3) := by decide +kernel
theorem dX6_sealBlocks_68 : decode cX6_sealBlocks 68 = .ok (.iload 4, 2) := by decide +kernel
theorem dX6_sealBlocks_70 : decode cX6_sealBlocks 70 = .ok (.iload 5, 2) := by decide +kernel
theorem dX6_sealBlocks_72 : decode cX6_sealBlocks 72 = .ok (.bipush 24, 2) := by decide +kernel
theorem dX6_sealBlocks_74 : decode cX6_sealBlocks 74 = .ok (.bipush 8, 2) := by decide +kernel
theorem dX6_sealBlocks_76 : decode cX6_sealBlocks 76 = .ok (.iload 4, 2) := by decide +kernel
theorem dX6_sealBlocks_78 : decode cX6_sealBlocks 78 = .ok (.iconst 4, 1) := by decide +kernel
theorem dX6_sealBlocks_79 : decode cX6_sealBlocks 79 = .ok (.irem, 1) := by decide +kernel
theorem dX6_sealBlocks_80 : decode cX6_sealBlocks 80 = .ok (.imul, 1) := by decide +kernel
theorem dX6_sealBlocks_81 : decode cX6_sealBlocks 81 = .ok (.isub, 1) := by decide +kernel
theorem dX6_sealBlocks_82 : decode cX6_sealBlocks 82 = .ok (.ishr, 1) := by decide +kernel
theorem dX6_sealBlocks_83 : decode cX6_sealBlocks 83 = .ok (.sipush 255, 3) := by decide +kernel
theorem dX6_sealBlocks_86 : decode cX6_sealBlocks 86 = .ok (.iand, 1) := by decide +kernel
theorem dX6_sealBlocks_87 : decode cX6_sealBlocks 87 = .ok (.iastore, 1) := by decide +kernel
theorem dX6_sealBlocks_88 : decode cX6_sealBlocks 88 = .ok (.iinc 4 1, 3) := by decide +kernel
theorem dX6_sealBlocks_91 : decode cX6_sealBlocks 91 = .ok (.goto (-73), 3) := by decide +kernel
theorem dX6_sealBlocks_94 : decode cX6_sealBlocks 94 = .ok (.aload_n 0, 1) := by decide +kernel
theorem dX6_sealBlocks_95 : decode cX6_sealBlocks 95 = .ok (.bipush 16, 2) := by decide +kernel
theorem dX6_sealBlocks_97 : decode cX6_sealBlocks 97 = .ok (.putfield 194, 3) := by decide +kernel
theorem dX6_sealBlocks_100 : decode cX6_sealBlocks 100 = .ok (.iconst 0, 1) := by decide +kernel
theorem dX6_sealBlocks_101 : decode cX6_sealBlocks 101 = .ok (.istore 4, 2) := by decide +kernel
theorem dX6_sealBlocks_103 : decode cX6_sealBlocks 103 = .ok (.iload 4, 2) := by decide +kernel
theorem dX6_sealBlocks_105 : decode cX6_sealBlocks 105 = .ok (.aload_n 0, 1) := by decide +kernel
theorem dX6_sealBlocks_106 : decode cX6_sealBlocks 106 = .ok (.getfield 156, 3) := by decide +kernel
theorem dX6_sealBlocks_109 : decode cX6_sealBlocks 109 = .ok (.iload_n 3, 1) := by decide +kernel
theorem dX6_sealBlocks_110 : decode cX6_sealBlocks 110 = .ok (.iadd, 1) := by decide +kernel
theorem dX6_sealBlocks_111 : decode cX6_sealBlocks 111 = .ok (.if_icmp .ge 119, 3) := by decide +kernel
theorem dX6_sealBlocks_114 : decode cX6_sealBlocks 114 = .ok (.iconst 0, 1) := by decide +kernel
theorem dX6_sealBlocks_115 : decode cX6_sealBlocks 115 = .ok (.istore 5, 2) := by decide +kernel
theorem dX6_sealBlocks_117 : decode cX6_sealBlocks 117 = .ok (.iload 5, 2) := by decide +kernel
theorem dX6_sealBlocks_119 : decode cX6_sealBlocks 119 = .ok (.bipush 16, 2) := by decide +kernel
theorem dX6_sealBlocks_121 : decode cX6_sealBlocks 121 = .ok (.if_icmp .ge 57, 3) := by decide +kernel
theorem dX6_sealBlocks_124 : decode cX6_sealBlocks 124 = .ok (.iload 4, 2) := by decide +kernel
theorem dX6_sealBlocks_126 : decode cX6_sealBlocks 126 = .ok (.iload 5, 2) := by decide +kernel
theorem dX6_sealBlocks_128 : decode cX6_sealBlocks 128 = .ok (.iadd, 1) := by decide +kernel
theorem dX6_sealBlocks_129 : decode cX6_sealBlocks 129 = .ok (.aload_n 0, 1) := by decide +kernel
theorem dX6_sealBlocks_130 : decode cX6_sealBlocks 130 = .ok (.getfield 156, 3) := by decide +kernel
theorem dX6_sealBlocks_133 : decode cX6_sealBlocks 133 = .ok (.if_icmp .ge 16, 3) := by decide +kernel
theorem dX6_sealBlocks_136 : decode cX6_sealBlocks 136 = .ok (.aload_n 0, 1) := by decide +kernel
theorem dX6_sealBlocks_137 : decode cX6_sealBlocks 137 = .ok (.getfield 7, 3) := by decide +kernel
theorem dX6_sealBlocks_140 : decode cX6_sealBlocks 140 = .ok (.iload 4, 2) := by decide +kernel
theorem dX6_sealBlocks_142 : decode cX6_sealBlocks 142 = .ok (.iload 5, 2) := by decide +kernel
theorem dX6_sealBlocks_144 : decode cX6_sealBlocks 144 = .ok (.iadd, 1) := by decide +kernel
theorem dX6_sealBlocks_145 : decode cX6_sealBlocks 145 = .ok (.iaload, 1) := by decide +kernel
theorem dX6_sealBlocks_146 : decode cX6_sealBlocks 146 = .ok (.goto 4, 3) := by decide +kernel
theorem dX6_sealBlocks_149 : decode cX6_sealBlocks 149 = .ok (.iload_n 3, 1) := by decide +kernel
theorem dX6_sealBlocks_150 : decode cX6_sealBlocks 150 = .ok (.istore 6, 2) := by decide +kernel
theorem dX6_sealBlocks_152 : decode cX6_sealBlocks 152 = .ok (.aload_n 0, 1) := by decide +kernel
theorem dX6_sealBlocks_153 : decode cX6_sealBlocks 153 = .ok (.getfield 141, 3) := by decide +kernel
theorem dX6_sealBlocks_156 : decode cX6_sealBlocks 156 = .ok (.iload 5, 2) := by decide +kernel
theorem dX6_sealBlocks_158 : decode cX6_sealBlocks 158 = .ok (.iload 6, 2) := by decide +kernel
theorem dX6_sealBlocks_160 : decode cX6_sealBlocks 160 = .ok (.aload_n 0, 1) := by decide +kernel
theorem dX6_sealBlocks_161 : decode cX6_sealBlocks 161 = .ok (.getfield 13, 3) := by decide +kernel
theorem dX6_sealBlocks_164 : decode cX6_sealBlocks 164 = .ok (.iload 4, 2) := by decide +kernel
theorem dX6_sealBlocks_166 : decode cX6_sealBlocks 166 = .ok (.iload 5, 2) := by decide +kernel
theorem dX6_sealBlocks_168 : decode cX6_sealBlocks 168 = .ok (.iadd, 1) := by decide +kernel
theorem dX6_sealBlocks_169 : decode cX6_sealBlocks 169 = .ok (.iaload, 1) := by decide +kernel
theorem dX6_sealBlocks_170 : decode cX6_sealBlocks 170 = .ok (.ixor, 1) := by decide +kernel
theorem dX6_sealBlocks_171 : decode cX6_sealBlocks 171 = .ok (.iastore, 1) := by decide +kernel
theorem dX6_sealBlocks_172 : decode cX6_sealBlocks 172 = .ok (.iinc 5 1, 3) := by decide +kernel
theorem dX6_sealBlocks_175 : decode cX6_sealBlocks 175 = .ok (.goto (-58), 3) := by decide +kernel
theorem dX6_sealBlocks_178 : decode cX6_sealBlocks 178 = .ok (.aload_n 0, 1) := by decide +kernel
theorem dX6_sealBlocks_179 : decode cX6_sealBlocks 179 = .ok (.invokevirtual 302, 3) := by decide +kernel
theorem dX6_sealBlocks_182 : decode cX6_sealBlocks 182 = .ok (.iconst 0, 1) := by decide +kernel
theorem dX6_sealBlocks_183 : decode cX6_sealBlocks 183 = .ok (.istore 5, 2) := by decide +kernel
theorem dX6_sealBlocks_185 : decode cX6_sealBlocks 185 = .ok (.iload 5, 2) := by decide +kernel
theorem dX6_sealBlocks_187 : decode cX6_sealBlocks 187 = .ok (.bipush 16, 2) := by decide +kernel
theorem dX6_sealBlocks_189 : decode cX6_sealBlocks 189 = .ok (.if_icmp .ge 35, 3) := by decide +kernel
theorem dX6_sealBlocks_192 : decode cX6_sealBlocks 192 = .ok (.aload_n 0, 1) := by decide +kernel
theorem dX6_sealBlocks_193 : decode cX6_sealBlocks 193 = .ok (.getfield 13, 3) := by decide +kernel
theorem dX6_sealBlocks_196 : decode cX6_sealBlocks 196 = .ok (.aload_n 0, 1) := by decide +kernel
theorem dX6_sealBlocks_197 : decode cX6_sealBlocks 197 = .ok (.getfield 194, 3) := by decide +kernel
theorem dX6_sealBlocks_200 : decode cX6_sealBlocks 200 = .ok (.aload_n 0, 1) := by decide +kernel
theorem dX6_sealBlocks_201 : decode cX6_sealBlocks 201 = .ok (.getfield 141, 3) := by decide +kernel
theorem dX6_sealBlocks_204 : decode cX6_sealBlocks 204 = .ok (.iload 5, 2) := by decide +kernel
theorem dX6_sealBlocks_206 : decode cX6_sealBlocks 206 = .ok (.iaload, 1) := by decide +kernel
theorem dX6_sealBlocks_207 : decode cX6_sealBlocks 207 = .ok (.iastore, 1) := by decide +kernel
theorem dX6_sealBlocks_208 : decode cX6_sealBlocks 208 = .ok (.aload_n 0, 1) := by decide +kernel
theorem dX6_sealBlocks_209 : decode cX6_sealBlocks 209 = .ok (.dup, 1) := by decide +kernel
theorem dX6_sealBlocks_210 : decode cX6_sealBlocks 210 = .ok (.getfield 194, 3) := by decide +kernel
theorem dX6_sealBlocks_213 : decode cX6_sealBlocks 213 = .ok (.iconst 1, 1) := by decide +kernel
theorem dX6_sealBlocks_214 : decode cX6_sealBlocks 214 = .ok (.iadd, 1) := by decide +kernel
theorem dX6_sealBlocks_215 : decode cX6_sealBlocks 215 = .ok (.putfield 194, 3) := by decide +kernel
theorem dX6_sealBlocks_218 : decode cX6_sealBlocks 218 = .ok (.iinc 5 1, 3) := by decide +kernel
theorem dX6_sealBlocks_221 : decode cX6_sealBlocks 221 = .ok (.goto (-36), 3) := by decide +kernel
theorem dX6_sealBlocks_224 : decode cX6_sealBlocks 224 = .ok (.iinc 4 16, 3) := by decide +kernel
theorem dX6_sealBlocks_227 : decode cX6_sealBlocks 227 = .ok (.goto (-124), 3) := by decide +kernel
theorem dX6_sealBlocks_230 : decode cX6_sealBlocks 230 = .ok (.return_, 1) := by decide +kernel
theorem dX6_seal_0 : decode cX6_seal 0 = .ok (.iload_n 3, 1) := by decide +kernel
theorem dX6_seal_1 : decode cX6_seal 1 = .ok (.iconst 2, 1) := by decide +kernel
theorem dX6_seal_2 : decode cX6_seal 2 = .ok (.if_icmp .ne 24, 3) := by decide +kernel
theorem dX6_seal_5 : decode cX6_seal 5 = .ok (.aload_n 0, 1) := by decide +kernel
theorem dX6_seal_6 : decode cX6_seal 6 = .ok (.getfield 156, 3) := by decide +kernel
theorem dX6_seal_9 : decode cX6_seal 9 = .ok (.bipush 32, 2) := by decide +kernel
theorem dX6_seal_11 : decode cX6_seal 11 = .ok (.iadd, 1) := by decide +kernel
theorem dX6_seal_12 : decode cX6_seal 12 = .ok (.aload_n 0, 1) := by decide +kernel
theorem dX6_seal_13 : decode cX6_seal 13 = .ok (.getfield 156, 3) := by decide +kernel
theorem dX6_seal_16 : decode cX6_seal 16 = .ok (.bipush 16, 2) := by decide +kernel
theorem dX6_seal_18 : decode cX6_seal 18 = .ok (.irem, 1) := by decide +kernel
theorem dX6_seal_19 : decode cX6_seal 19 = .ok (.isub, 1) := by decide +kernel
theorem dX6_seal_20 : decode cX6_seal 20 = .ok (.sipush 16384, 3) := by decide +kernel
theorem dX6_seal_23 : decode cX6_seal 23 = .ok (.if_icmp .gt 7, 3) := by decide +kernel
theorem dX6_seal_26 : decode cX6_seal 26 = .ok (.iconst 1, 1) := by decide +kernel
theorem dX6_seal_27 : decode cX6_seal 27 = .ok (.goto 4, 3) := by decide +kernel
theorem dX6_seal_30 : decode cX6_seal 30 = .ok (.iconst 0, 1) := by decide +kernel
theorem dX6_seal_31 : decode cX6_seal 31 = .ok (.istore 6, 2) := by decide +kernel
theorem dX6_seal_33 : decode cX6_seal 33 = .ok (.aload_n 0, 1) := by decide +kernel
theorem dX6_seal_34 : decode cX6_seal 34 = .ok (.aload_n 0, 1) := by decide +kernel
theorem dX6_seal_35 : decode cX6_seal 35 = .ok (.iload_n 1, 1) := by decide +kernel
theorem dX6_seal_36 : decode cX6_seal 36 = .ok (.iload_n 2, 1) := by decide +kernel
theorem dX6_seal_37 : decode cX6_seal 37 = .ok (.iload_n 3, 1) := by decide +kernel
theorem dX6_seal_38 : decode cX6_seal 38 = .ok (.invokevirtual 285, 3) := by decide +kernel
theorem dX6_seal_41 : decode cX6_seal 41 = .ok (.ifCond .ne 7, 3) := by decide +kernel
theorem dX6_seal_44 : decode cX6_seal 44 = .ok (.iconst 1, 1) := by decide +kernel
theorem dX6_seal_45 : decode cX6_seal 45 = .ok (.goto 20, 3) := by decide +kernel
theorem dX6_seal_48 : decode cX6_seal 48 = .ok (.aload_n 0, 1) := by decide +kernel
theorem dX6_seal_49 : decode cX6_seal 49 = .ok (.getfield 220, 3) := by decide +kernel
theorem dX6_seal_52 : decode cX6_seal 52 = .ok (.ifCond .eq 8, 3) := by decide +kernel
theorem dX6_seal_55 : decode cX6_seal 55 = .ok (.iload 6, 2) := by decide +kernel
theorem dX6_seal_57 : decode cX6_seal 57 = .ok (.ifCond .ne 7, 3) := by decide +kernel
theorem dX6_seal_60 : decode cX6_seal 60 = .ok (.iconst 2, 1) := by decide +kernel
theorem dX6_seal_61 : decode cX6_seal 61 = .ok (.goto 4, 3) := by decide +kernel
theorem dX6_seal_64 : decode cX6_seal 64 = .ok (.iconst 0, 1) := by decide +kernel
theorem dX6_seal_65 : decode cX6_seal 65 = .ok (.invokevirtual 159, 3) := by decide +kernel
theorem dX6_seal_68 : decode cX6_seal 68 = .ok (.ifCond .eq 5, 3) := by decide +kernel
theorem dX6_seal_71 : decode cX6_seal 71 = .ok (.iconst 0, 1) := by decide +kernel
theorem dX6_seal_72 : decode cX6_seal 72 = .ok (.ireturn, 1) := by decide +kernel
theorem dX6_seal_73 : decode cX6_seal 73 = .ok (.aload_n 0, 1) := by decide +kernel
theorem dX6_seal_74 : decode cX6_seal 74 = .ok (.iload_n 1, 1) := by decide +kernel
theorem dX6_seal_75 : decode cX6_seal 75 = .ok (.iload_n 2, 1) := by decide +kernel
theorem dX6_seal_76 : decode cX6_seal 76 = .ok (.iload_n 3, 1) := by decide +kernel
theorem dX6_seal_77 : decode cX6_seal 77 = .ok (.invokevirtual 289, 3) := by decide +kernel
theorem dX6_seal_80 : decode cX6_seal 80 = .ok (.iload_n 3, 1) := by decide +kernel
theorem dX6_seal_81 : decode cX6_seal 81 = .ok (.iconst 2, 1) := by decide +kernel
theorem dX6_seal_82 : decode cX6_seal 82 = .ok (.if_icmp .ne 14, 3) := by decide +kernel
theorem dX6_seal_85 : decode cX6_seal 85 = .ok (.aload_n 0, 1) := by decide +kernel
theorem dX6_seal_86 : decode cX6_seal 86 = .ok (.iload 4, 2) := by decide +kernel
theorem dX6_seal_88 : decode cX6_seal 88 = .ok (.iload 5, 2) := by decide +kernel
theorem dX6_seal_90 : decode cX6_seal 90 = .ok (.invokevirtual 305, 3) := by decide +kernel
theorem dX6_seal_93 : decode cX6_seal 93 = .ok (.goto 19, 3) := by decide +kernel
theorem dX6_seal_96 : decode cX6_seal 96 = .ok (.iload_n 3, 1) := by decide +kernel
theorem dX6_seal_97 : decode cX6_seal 97 = .ok (.iconst 1, 1) := by decide +kernel
theorem dX6_seal_98 : decode cX6_seal 98 = .ok (.if_icmp .ne 10, 3) := by decide +kernel
theorem dX6_seal_101 : decode cX6_seal 101 = .ok (.aload_n 0, 1) := by decide +kernel
theorem dX6_seal_102 : decode cX6_seal 102 = .ok (.invokevirtual 296, 3) := by decide +kernel
theorem dX6_seal_105 : decode cX6_seal 105 = .ok (.goto 7, 3) := by decide +kernel
theorem dX6_seal_108 : decode cX6_seal 108 = .ok (.aload_n 0, 1) := by decide +kernel
theorem dX6_seal_109 : decode cX6_seal 109 = .ok (.invokevirtual 299, 3) := by decide +kernel
theorem dX6_seal_112 : decode cX6_seal 112 = .ok (.aload_n 0, 1) := by decide +kernel
theorem dX6_seal_113 : decode cX6_seal 113 = .ok (.getfield 194, 3) := by decide +kernel
theorem dX6_seal_116 : decode cX6_seal 116 = .ok (.ireturn, 1) := by decide +kernel
theorem dX6_count_0 : decode cX6_count 0 = .ok (.aload_n 0, 1) := by decide +kernel
theorem dX6_count_1 : decode cX6_count 1 = .ok (.iconst 0, 1) := by decide +kernel
theorem dX6_count_2 : decode cX6_count 2 = .ok (.putfield 153, 3) := by decide +kernel
theorem dX6_count_5 : decode cX6_count 5 = .ok (.iload_n 1, 1) := by decide +kernel
theorem dX6_count_6 : decode cX6_count 6 = .ok (.ifCond .ne 10, 3) := by decide +kernel
theorem dX6_count_9 : decode cX6_count 9 = .ok (.aload_n 0, 1) := by decide +kernel
theorem dX6_count_10 : decode cX6_count 10 = .ok (.getfield 194, 3) := by decide +kernel
theorem dX6_count_13 : decode cX6_count 13 = .ok (.goto 16, 3) := by decide +kernel
theorem dX6_count_16 : decode cX6_count 16 = .ok (.iload_n 1, 1) := by decide +kernel
theorem dX6_count_17 : decode cX6_count 17 = .ok (.iconst 1, 1) := by decide +kernel
theorem dX6_count_18 : decode cX6_count 18 = .ok (.if_icmp .ne 10, 3) := by decide +kernel
theorem dX6_count_21 : decode cX6_count 21 = .ok (.aload_n 0, 1) := by decide +kernel
theorem dX6_count_22 : decode cX6_count 22 = .ok (.getfield 156, 3) := by decide +kernel
theorem dX6_count_25 : decode cX6_count 25 = .ok (.goto 4, 3) := by decide +kernel
theorem dX6_count_28 : decode cX6_count 28 = .ok (.iconst (-1), 1) := by decide +kernel
theorem dX6_count_29 : decode cX6_count 29 = .ok (.ireturn, 1) := by decide +kernel
theorem dX6_at_0 : decode cX6_at 0 = .ok (.aload_n 0, 1) := by decide +kernel
theorem dX6_at_1 : decode cX6_at 1 = .ok (.iconst 0, 1) := by decide +kernel
theorem dX6_at_2 : decode cX6_at 2 = .ok (.putfield 153, 3) := by decide +kernel
theorem dX6_at_5 : decode cX6_at 5 = .ok (.iload_n 1, 1) := by decide +kernel
theorem dX6_at_6 : decode cX6_at 6 = .ok (.ifCond .lt 20, 3) := by decide +kernel
theorem dX6_at_9 : decode cX6_at 9 = .ok (.iload_n 1, 1) := by decide +kernel
theorem dX6_at_10 : decode cX6_at 10 = .ok (.aload_n 0, 1) := by decide +kernel
theorem dX6_at_11 : decode cX6_at 11 = .ok (.getfield 194, 3) := by decide +kernel
theorem dX6_at_14 : decode cX6_at 14 = .ok (.if_icmp .ge 12, 3) := by decide +kernel
theorem dX6_at_17 : decode cX6_at 17 = .ok (.aload_n 0, 1) := by decide +kernel
theorem dX6_at_18 : decode cX6_at 18 = .ok (.getfield 13, 3) := by decide +kernel
theorem dX6_at_21 : decode cX6_at 21 = .ok (.iload_n 1, 1) := by decide +kernel
theorem dX6_at_22 : decode cX6_at 22 = .ok (.iaload, 1) := by decide +kernel
theorem dX6_at_23 : decode cX6_at 23 = .ok (.goto 4, 3) := by decide +kernel
theorem dX6_at_26 : decode cX6_at 26 = .ok (.iconst (-1), 1) := by decide +kernel
theorem dX6_at_27 : decode cX6_at 27 = .ok (.ireturn, 1) := by decide +kernel
theorem dX6_entry_0 : decode cX6_entry 0 = .ok (.aload_n 0, 1) := by decide +kernel
theorem dX6_entry_1 : decode cX6_entry 1 = .ok (.iconst 0, 1) := by decide +kernel
theorem dX6_entry_2 : decode cX6_entry 2 = .ok (.putfield 153, 3) := by decide +kernel
theorem dX6_entry_5 : decode cX6_entry 5 = .ok (.iload_n 2, 1) := by decide +kernel
theorem dX6_entry_6 : decode cX6_entry 6 = .ok (.ifCond .lt 13, 3) := by decide +kernel
theorem dX6_entry_9 : decode cX6_entry 9 = .ok (.iload_n 2, 1) := by decide +kernel
theorem dX6_entry_10 : decode cX6_entry 10 = .ok (.bipush 32, 2) := by decide +kernel
theorem dX6_entry_12 : decode cX6_entry 12 = .ok (.if_icmp .ge 7, 3) := by decide +kernel
theorem dX6_entry_15 : decode cX6_entry 15 = .ok (.iconst 1, 1) := by decide +kernel
theorem dX6_entry_16 : decode cX6_entry 16 = .ok (.goto 4, 3) := by decide +kernel
theorem dX6_entry_19 : decode cX6_entry 19 = .ok (.iconst 0, 1) := by decide +kernel
theorem dX6_entry_20 : decode cX6_entry 20 = .ok (.istore_n 3, 1) := by decide +kernel
theorem dX6_entry_21 : decode cX6_entry 21 = .ok (.iload_n 3, 1) := by decide +kernel
theorem dX6_entry_22 : decode cX6_entry 22 = .ok (.ifCond .ne 7, 3) := by decide +kernel
theorem dX6_entry_25 : decode cX6_entry 25 = .ok (.iconst (-1), 1) := by decide +kernel
theorem dX6_entry_26 : decode cX6_entry 26 = .ok (.goto 31, 3) := by decide +kernel
theorem dX6_entry_29 : decode cX6_entry 29 = .ok (.iload_n 1, 1) := by decide +kernel
theorem dX6_entry_30 : decode cX6_entry 30 = .ok (.ifCond .ne 12, 3) := by decide +kernel
theorem dX6_entry_33 : decode cX6_entry 33 = .ok (.aload_n 0, 1) := by decide +kernel
theorem dX6_entry_34 : decode cX6_entry 34 = .ok (.getfield 26, 3) := by decide +kernel
theorem dX6_entry_37 : decode cX6_entry 37 = .ok (.iload_n 2, 1) := by decide +kernel
theorem dX6_entry_38 : decode cX6_entry 38 = .ok (.iaload, 1) := by decide +kernel
theorem dX6_entry_39 : decode cX6_entry 39 = .ok (.goto 18, 3) := by decide +kernel
theorem dX6_entry_42 : decode cX6_entry 42 = .ok (.iload_n 1, 1) := by decide +kernel
theorem dX6_entry_43 : decode cX6_entry 43 = .ok (.iconst 1, 1) := by decide +kernel
theorem dX6_entry_44 : decode cX6_entry 44 = .ok (.if_icmp .ne 12, 3) := by decide +kernel
theorem dX6_entry_47 : decode cX6_entry 47 = .ok (.aload_n 0, 1) := by decide +kernel
theorem dX6_entry_48 : decode cX6_entry 48 = .ok (.getfield 29, 3) := by decide +kernel
theorem dX6_entry_51 : decode cX6_entry 51 = .ok (.iload_n 2, 1) := by decide +kernel
theorem dX6_entry_52 : decode cX6_entry 52 = .ok (.iaload, 1) := by decide +kernel
theorem dX6_entry_53 : decode cX6_entry 53 = .ok (.goto 4, 3) := by decide +kernel
theorem dX6_entry_56 : decode cX6_entry 56 = .ok (.iconst (-1), 1) := by decide +kernel
theorem dX6_entry_57 : decode cX6_entry 57 = .ok (.ireturn, 1) := by decide +kernel
theorem dX6_keep_0 : decode cX6_keep 0 = .ok (.aload_n 0, 1) := by decide +kernel
theorem dX6_keep_1 : decode cX6_keep 1 = .ok (.iconst 0, 1) := by decide +kernel
theorem dX6_keep_2 : decode cX6_keep 2 = .ok (.putfield 153, 3) := by decide +kernel
theorem dX6_keep_5 : decode cX6_keep 5 = .ok (.aload_n 0, 1) := by decide +kernel
theorem dX6_keep_6 : decode cX6_keep 6 = .ok (.aload_n 0, 1) := by decide +kernel
theorem dX6_keep_7 : decode cX6_keep 7 = .ok (.getfield 194, 3) := by decide +kernel
theorem dX6_keep_10 : decode cX6_keep 10 = .ok (.putfield 156, 3) := by decide +kernel
theorem dX6_keep_13 : decode cX6_keep 13 = .ok (.iconst 0, 1) := by decide +kernel
theorem dX6_keep_14 : decode cX6_keep 14 = .ok (.istore_n 1, 1) := by decide +kernel
theorem dX6_keep_15 : decode cX6_keep 15 = .ok (.iload_n 1, 1) := by decide +kernel
theorem dX6_keep_16 : decode cX6_keep 16 = .ok (.aload_n 0, 1) := by decide +kernel
theorem dX6_keep_17 : decode cX6_keep 17 = .ok (.getfield 156, 3) := by decide +kernel
theorem dX6_keep_20 : decode cX6_keep 20 = .ok (.if_icmp .ge 21, 3) := by decide +kernel
theorem dX6_keep_23 : decode cX6_keep 23 = .ok (.aload_n 0, 1) := by decide +kernel
theorem dX6_keep_24 : decode cX6_keep 24 = .ok (.getfield 7, 3) := by decide +kernel
theorem dX6_keep_27 : decode cX6_keep 27 = .ok (.iload_n 1, 1) := by decide +kernel
theorem dX6_keep_28 : decode cX6_keep 28 = .ok (.aload_n 0, 1) := by decide +kernel
theorem dX6_keep_29 : decode cX6_keep 29 = .ok (.getfield 13, 3) := by decide +kernel
theorem dX6_keep_32 : decode cX6_keep 32 = .ok (.iload_n 1, 1) := by decide +kernel
theorem dX6_keep_33 : decode cX6_keep 33 = .ok (.iaload, 1) := by decide +kernel
theorem dX6_keep_34 : decode cX6_keep 34 = .ok (.iastore, 1) := by decide +kernel
theorem dX6_keep_35 : decode cX6_keep 35 = .ok (.iinc 1 1, 3) := by decide +kernel
theorem dX6_keep_38 : decode cX6_keep 38 = .ok (.goto (-23), 3) := by decide +kernel
theorem dX6_keep_41 : decode cX6_keep 41 = .ok (.aload_n 0, 1) := by decide +kernel
theorem dX6_keep_42 : decode cX6_keep 42 = .ok (.getfield 156, 3) := by decide +kernel
theorem dX6_keep_45 : decode cX6_keep 45 = .ok (.ireturn, 1) := by decide +kernel
end
section
theorem dL_put_0 : decode cL_put 0 = .ok (.aload_n 3, 1) := by decide +kernel
theorem dL_put_1 : decode cL_put 1 = .ok (.iconst 0, 1) := by decide +kernel
theorem dL_put_2 : decode cL_put 2 = .ok (.aload_n 0, 1) := by decide +kernel
theorem dL_put_3 : decode cL_put 3 = .ok (.iload_n 1, 1) := by decide +kernel
theorem dL_put_4 : decode cL_put 4 = .ok (.iload_n 2, 1) := by decide +kernel
theorem dL_put_5 : decode cL_put 5 = .ok (.invokevirtual 7, 3) := by decide +kernel
theorem dL_put_8 : decode cL_put 8 = .ok (.i2l, 1) := by decide +kernel
theorem dL_put_9 : decode cL_put 9 = .ok (.lastore, 1) := by decide +kernel
theorem dL_put_10 : decode cL_put 10 = .ok (.goto 11, 3) := by decide +kernel
theorem dL_put_13 : decode cL_put 13 = .ok (.astore 4, 2) := by decide +kernel
theorem dL_put_15 : decode cL_put 15 = .ok (.iconst 1, 1) := by decide +kernel
theorem dL_put_16 : decode cL_put 16 = .ok (.ireturn, 1) := by decide +kernel
theorem dL_put_17 : decode cL_put 17 = .ok (.astore 4, 2) := by decide +kernel
theorem dL_put_19 : decode cL_put 19 = .ok (.iconst 2, 1) := by decide +kernel
theorem dL_put_20 : decode cL_put 20 = .ok (.ireturn, 1) := by decide +kernel
theorem dL_put_21 : decode cL_put 21 = .ok (.iconst 0, 1) := by decide +kernel
theorem dL_put_22 : decode cL_put 22 = .ok (.ireturn, 1) := by decide +kernel
theorem dL_cut_0 : decode cL_cut 0 = .ok (.aload_n 2, 1) := by decide +kernel
theorem dL_cut_1 : decode cL_cut 1 = .ok (.iconst 0, 1) := by decide +kernel
theorem dL_cut_2 : decode cL_cut 2 = .ok (.aload_n 0, 1) := by decide +kernel
theorem dL_cut_3 : decode cL_cut 3 = .ok (.iload_n 1, 1) := by decide +kernel
theorem dL_cut_4 : decode cL_cut 4 = .ok (.invokevirtual 17, 3) := by decide +kernel
theorem dL_cut_7 : decode cL_cut 7 = .ok (.i2l, 1) := by decide +kernel
theorem dL_cut_8 : decode cL_cut 8 = .ok (.lastore, 1) := by decide +kernel
theorem dL_cut_9 : decode cL_cut 9 = .ok (.goto 6, 3) := by decide +kernel
theorem dL_cut_12 : decode cL_cut 12 = .ok (.astore_n 3, 1) := by decide +kernel
theorem dL_cut_13 : decode cL_cut 13 = .ok (.iconst 1, 1) := by decide +kernel
theorem dL_cut_14 : decode cL_cut 14 = .ok (.ireturn, 1) := by decide +kernel
theorem dL_cut_15 : decode cL_cut 15 = .ok (.iconst 0, 1) := by decide +kernel
theorem dL_cut_16 : decode cL_cut 16 = .ok (.ireturn, 1) := by decide +kernel
theorem dL_handler_0 : decode cL_handler 0 = .ok (.aload_n 0, 1) := by decide +kernel
theorem dL_handler_1 : decode cL_handler 1 = .ok (.iload_n 1, 1) := by decide +kernel
theorem dL_handler_2 : decode cL_handler 2 = .ok (.iload_n 2, 1) := by decide +kernel
theorem dL_handler_3 : decode cL_handler 3 = .ok (.iload_n 3, 1) := by decide +kernel
theorem dL_handler_4 : decode cL_handler 4 = .ok (.iload 4, 2) := by decide +kernel
theorem dL_handler_6 : decode cL_handler 6 = .ok (.invokevirtual 21, 3) := by decide +kernel
theorem dL_handler_9 : decode cL_handler 9 = .ok (.goto 7, 3) := by decide +kernel
theorem dL_handler_12 : decode cL_handler 12 = .ok (.astore 5, 2) := by decide +kernel
theorem dL_handler_14 : decode cL_handler 14 = .ok (.iconst 1, 1) := by decide +kernel
theorem dL_handler_15 : decode cL_handler 15 = .ok (.ireturn, 1) := by decide +kernel
theorem dL_handler_16 : decode cL_handler 16 = .ok (.iconst 0, 1) := by decide +kernel
theorem dL_handler_17 : decode cL_handler 17 = .ok (.ireturn, 1) := by decide +kernel
theorem dL_take_0 : decode cL_take 0 = .ok (.aload_n 2, 1) := by decide +kernel
theorem dL_take_1 : decode cL_take 1 = .ok (.iconst 0, 1) := by decide +kernel
theorem dL_take_2 : decode cL_take 2 = .ok (.aload_n 0, 1) := by decide +kernel
theorem dL_take_3 : decode cL_take 3 = .ok (.iload_n 1, 1) := by decide +kernel
theorem dL_take_4 : decode cL_take 4 = .ok (.invokevirtual 25, 3) := by decide +kernel
theorem dL_take_7 : decode cL_take 7 = .ok (.i2l, 1) := by decide +kernel
theorem dL_take_8 : decode cL_take 8 = .ok (.lastore, 1) := by decide +kernel
theorem dL_take_9 : decode cL_take 9 = .ok (.goto 9, 3) := by decide +kernel
theorem dL_take_12 : decode cL_take 12 = .ok (.astore_n 3, 1) := by decide +kernel
theorem dL_take_13 : decode cL_take 13 = .ok (.iconst 1, 1) := by decide +kernel
theorem dL_take_14 : decode cL_take 14 = .ok (.ireturn, 1) := by decide +kernel
theorem dL_take_15 : decode cL_take 15 = .ok (.astore_n 3, 1) := by decide +kernel
theorem dL_take_16 : decode cL_take 16 = .ok (.iconst 2, 1) := by decide +kernel
theorem dL_take_17 : decode cL_take 17 = .ok (.ireturn, 1) := by decide +kernel
theorem dL_take_18 : decode cL_take 18 = .ok (.iconst 0, 1) := by decide +kernel
theorem dL_take_19 : decode cL_take 19 = .ok (.ireturn, 1) := by decide +kernel
theorem dL_enter_0 : decode cL_enter 0 = .ok (.aload_n 0, 1) := by decide +kernel
theorem dL_enter_1 : decode cL_enter 1 = .ok (.iload_n 1, 1) := by decide +kernel
theorem dL_enter_2 : decode cL_enter 2 = .ok (.invokevirtual 30, 3) := by decide +kernel
theorem dL_enter_5 : decode cL_enter 5 = .ok (.goto 6, 3) := by decide +kernel
theorem dL_enter_8 : decode cL_enter 8 = .ok (.astore_n 2, 1) := by decide +kernel
theorem dL_enter_9 : decode cL_enter 9 = .ok (.iconst 1, 1) := by decide +kernel
theorem dL_enter_10 : decode cL_enter 10 = .ok (.ireturn, 1) := by decide +kernel
theorem dL_enter_11 : decode cL_enter 11 = .ok (.iconst 0, 1) := by decide +kernel
theorem dL_enter_12 : decode cL_enter 12 = .ok (.ireturn, 1) := by decide +kernel
theorem dL_undo_0 : decode cL_undo 0 = .ok (.aload 4, 2) := by decide +kernel
theorem dL_undo_2 : decode cL_undo 2 = .ok (.iconst 0, 1) := by decide +kernel
theorem dL_undo_3 : decode cL_undo 3 = .ok (.aload_n 0, 1) := by decide +kernel
theorem dL_undo_4 : decode cL_undo 4 = .ok (.iload_n 1, 1) := by decide +kernel
theorem dL_undo_5 : decode cL_undo 5 = .ok (.iload_n 2, 1) := by decide +kernel
theorem dL_undo_6 : decode cL_undo 6 = .ok (.iload_n 3, 1) := by decide +kernel
theorem dL_undo_7 : decode cL_undo 7 = .ok (.invokevirtual 34, 3) := by decide +kernel
theorem dL_undo_10 : decode cL_undo 10 = .ok (.i2l, 1) := by decide +kernel
theorem dL_undo_11 : decode cL_undo 11 = .ok (.lastore, 1) := by decide +kernel
theorem dL_undo_12 : decode cL_undo 12 = .ok (.goto 11, 3) := by decide +kernel
theorem dL_undo_15 : decode cL_undo 15 = .ok (.astore 5, 2) := by decide +kernel
theorem dL_undo_17 : decode cL_undo 17 = .ok (.iconst 1, 1) := by decide +kernel
theorem dL_undo_18 : decode cL_undo 18 = .ok (.ireturn, 1) := by decide +kernel
theorem dL_undo_19 : decode cL_undo 19 = .ok (.astore 5, 2) := by decide +kernel
theorem dL_undo_21 : decode cL_undo 21 = .ok (.iconst 2, 1) := by decide +kernel
theorem dL_undo_22 : decode cL_undo 22 = .ok (.ireturn, 1) := by decide +kernel
theorem dL_undo_23 : decode cL_undo 23 = .ok (.iconst 0, 1) := by decide +kernel
theorem dL_undo_24 : decode cL_undo 24 = .ok (.ireturn, 1) := by decide +kernel
theorem dL_seal_0 : decode cL_seal 0 = .ok (.aload 6, 2) := by decide +kernel
theorem dL_seal_2 : decode cL_seal 2 = .ok (.iconst 0, 1) := by decide +kernel
theorem dL_seal_3 : decode cL_seal 3 = .ok (.aload_n 0, 1) := by decide +kernel
theorem dL_seal_4 : decode cL_seal 4 = .ok (.iload_n 1, 1) := by decide +kernel
theorem dL_seal_5 : decode cL_seal 5 = .ok (.iload_n 2, 1) := by decide +kernel
theorem dL_seal_6 : decode cL_seal 6 = .ok (.iload_n 3, 1) := by decide +kernel
theorem dL_seal_7 : decode cL_seal 7 = .ok (.iload 4, 2) := by decide +kernel
theorem dL_seal_9 : decode cL_seal 9 = .ok (.iload 5, 2) := by decide +kernel
theorem dL_seal_11 : decode cL_seal 11 = .ok (.invokevirtual 38, 3) := by decide +kernel
theorem dL_seal_14 : decode cL_seal 14 = .ok (.i2l, 1) := by decide +kernel
theorem dL_seal_15 : decode cL_seal 15 = .ok (.lastore, 1) := by decide +kernel
theorem dL_seal_16 : decode cL_seal 16 = .ok (.goto 11, 3) := by decide +kernel
theorem dL_seal_19 : decode cL_seal 19 = .ok (.astore 7, 2) := by decide +kernel
theorem dL_seal_21 : decode cL_seal 21 = .ok (.iconst 1, 1) := by decide +kernel
theorem dL_seal_22 : decode cL_seal 22 = .ok (.ireturn, 1) := by decide +kernel
theorem dL_seal_23 : decode cL_seal 23 = .ok (.astore 7, 2) := by decide +kernel
theorem dL_seal_25 : decode cL_seal 25 = .ok (.iconst 2, 1) := by decide +kernel
theorem dL_seal_26 : decode cL_seal 26 = .ok (.ireturn, 1) := by decide +kernel
theorem dL_seal_27 : decode cL_seal 27 = .ok (.iconst 0, 1) := by decide +kernel
theorem dL_seal_28 : decode cL_seal 28 = .ok (.ireturn, 1) := by decide +kernel
theorem dL_law_0 : decode cL_law 0 = .ok (.new 8, 3) := by decide +kernel
theorem dL_law_3 : decode cL_law 3 = .ok (.dup, 1) := by decide +kernel
theorem dL_law_4 : decode cL_law 4 = .ok (.invokespecial 42, 3) := by decide +kernel
theorem dL_law_7 : decode cL_law 7 = .ok (.astore_n 1, 1) := by decide +kernel
theorem dL_law_8 : decode cL_law 8 = .ok (.new 43, 3) := by decide +kernel
theorem dL_law_11 : decode cL_law 11 = .ok (.dup, 1) := by decide +kernel
theorem dL_law_12 : decode cL_law 12 = .ok (.invokespecial 45, 3) := by decide +kernel
theorem dL_law_15 : decode cL_law 15 = .ok (.astore_n 2, 1) := by decide +kernel
theorem dL_law_16 : decode cL_law 16 = .ok (.iconst 1, 1) := by decide +kernel
theorem dL_law_17 : decode cL_law 17 = .ok (.newarray .long, 2) := by decide +kernel
theorem dL_law_19 : decode cL_law 19 = .ok (.astore_n 3, 1) := by decide +kernel
theorem dL_law_20 : decode cL_law 20 = .ok (.iconst 0, 1) := by decide +kernel
theorem dL_law_21 : decode cL_law 21 = .ok (.istore 4, 2) := by decide +kernel
theorem dL_law_23 : decode cL_law 23 = .ok (.iload 4, 2) := by decide +kernel
theorem dL_law_25 : decode cL_law 25 = .ok (.aload_n 0, 1) := by decide +kernel
theorem dL_law_26 : decode cL_law 26 = .ok (.arraylength, 1) := by decide +kernel
theorem dL_law_27 : decode cL_law 27 = .ok (.bipush 6, 2) := by decide +kernel
theorem dL_law_29 : decode cL_law 29 = .ok (.isub, 1) := by decide +kernel
theorem dL_law_30 : decode cL_law 30 = .ok (.if_icmp .gt 802, 3) := by decide +kernel
theorem dL_law_33 : decode cL_law 33 = .ok (.aload_n 0, 1) := by decide +kernel
theorem dL_law_34 : decode cL_law 34 = .ok (.iload 4, 2) := by decide +kernel
theorem dL_law_36 : decode cL_law 36 = .ok (.iaload, 1) := by decide +kernel
theorem dL_law_37 : decode cL_law 37 = .ok (.bipush 15, 2) := by decide +kernel
theorem dL_law_39 : decode cL_law 39 = .ok (.iand, 1) := by decide +kernel
theorem dL_law_40 : decode cL_law 40 = .ok (.tableswitch 786 0 14 #[76, 149, 217, 273, 361, 417, 453, 466, 491, 502, 582, 686, 711, 736, 773], 76) := by decide +kernel
theorem dL_law_116 : decode cL_law 116 = .ok (.aload_n 1, 1) := by decide +kernel
theorem dL_law_117 : decode cL_law 117 = .ok (.aload_n 0, 1) := by decide +kernel
theorem dL_law_118 : decode cL_law 118 = .ok (.iload 4, 2) := by decide +kernel
theorem dL_law_120 : decode cL_law 120 = .ok (.iconst 1, 1) := by decide +kernel
theorem dL_law_121 : decode cL_law 121 = .ok (.iadd, 1) := by decide +kernel
theorem dL_law_122 : decode cL_law 122 = .ok (.iaload, 1) := by decide +kernel
theorem dL_law_123 : decode cL_law 123 = .ok (.aload_n 0, 1) := by decide +kernel
theorem dL_law_124 : decode cL_law 124 = .ok (.iload 4, 2) := by decide +kernel
theorem dL_law_126 : decode cL_law 126 = .ok (.iconst 2, 1) := by decide +kernel
theorem dL_law_127 : decode cL_law 127 = .ok (.iadd, 1) := by decide +kernel
theorem dL_law_128 : decode cL_law 128 = .ok (.iaload, 1) := by decide +kernel
theorem dL_law_129 : decode cL_law 129 = .ok (.aload_n 0, 1) := by decide +kernel
theorem dL_law_130 : decode cL_law 130 = .ok (.iload 4, 2) := by decide +kernel
theorem dL_law_132 : decode cL_law 132 = .ok (.iconst 3, 1) := by decide +kernel
theorem dL_law_133 : decode cL_law 133 = .ok (.iadd, 1) := by decide +kernel
theorem dL_law_134 : decode cL_law 134 = .ok (.iaload, 1) := by decide +kernel
theorem dL_law_135 : decode cL_law 135 = .ok (.aload_n 0, 1) := by decide +kernel
theorem dL_law_136 : decode cL_law 136 = .ok (.iload 4, 2) := by decide +kernel
theorem dL_law_138 : decode cL_law 138 = .ok (.iconst 4, 1) := by decide +kernel
theorem dL_law_139 : decode cL_law 139 = .ok (.iadd, 1) := by decide +kernel
theorem dL_law_140 : decode cL_law 140 = .ok (.iaload, 1) := by decide +kernel
theorem dL_law_141 : decode cL_law 141 = .ok (.aload_n 0, 1) := by decide +kernel
theorem dL_law_142 : decode cL_law 142 = .ok (.iload 4, 2) := by decide +kernel
theorem dL_law_144 : decode cL_law 144 = .ok (.iconst 5, 1) := by decide +kernel
theorem dL_law_145 : decode cL_law 145 = .ok (.iadd, 1) := by decide +kernel
theorem dL_law_146 : decode cL_law 146 = .ok (.iaload, 1) := by decide +kernel
theorem dL_law_147 : decode cL_law 147 = .ok (.invokevirtual 46, 3) := by decide +kernel
theorem dL_law_150 : decode cL_law 150 = .ok (.aload_n 2, 1) := by decide +kernel
theorem dL_law_151 : decode cL_law 151 = .ok (.aload_n 0, 1) := by decide +kernel
theorem dL_law_152 : decode cL_law 152 = .ok (.iload 4, 2) := by decide +kernel
theorem dL_law_154 : decode cL_law 154 = .ok (.iconst 1, 1) := by decide +kernel
theorem dL_law_155 : decode cL_law 155 = .ok (.iadd, 1) := by decide +kernel
theorem dL_law_156 : decode cL_law 156 = .ok (.iaload, 1) := by decide +kernel
theorem dL_law_157 : decode cL_law 157 = .ok (.aload_n 0, 1) := by decide +kernel
theorem dL_law_158 : decode cL_law 158 = .ok (.iload 4, 2) := by decide +kernel
theorem dL_law_160 : decode cL_law 160 = .ok (.iconst 2, 1) := by decide +kernel
theorem dL_law_161 : decode cL_law 161 = .ok (.iadd, 1) := by decide +kernel
theorem dL_law_162 : decode cL_law 162 = .ok (.iaload, 1) := by decide +kernel
theorem dL_law_163 : decode cL_law 163 = .ok (.aload_n 0, 1) := by decide +kernel
theorem dL_law_164 : decode cL_law 164 = .ok (.iload 4, 2) := by decide +kernel
theorem dL_law_166 : decode cL_law 166 = .ok (.iconst 3, 1) := by decide +kernel
theorem dL_law_167 : decode cL_law 167 = .ok (.iadd, 1) := by decide +kernel
theorem dL_law_168 : decode cL_law 168 = .ok (.iaload, 1) := by decide +kernel
theorem dL_law_169 : decode cL_law 169 = .ok (.aload_n 0, 1) := by decide +kernel
theorem dL_law_170 : decode cL_law 170 = .ok (.iload 4, 2) := by decide +kernel
theorem dL_law_172 : decode cL_law 172 = .ok (.iconst 4, 1) := by decide +kernel
theorem dL_law_173 : decode cL_law 173 = .ok (.iadd, 1) := by decide +kernel
theorem dL_law_174 : decode cL_law 174 = .ok (.iaload, 1) := by decide +kernel
theorem dL_law_175 : decode cL_law 175 = .ok (.aload_n 0, 1) := by decide +kernel
theorem dL_law_176 : decode cL_law 176 = .ok (.iload 4, 2) := by decide +kernel
theorem dL_law_178 : decode cL_law 178 = .ok (.iconst 5, 1) := by decide +kernel
theorem dL_law_179 : decode cL_law 179 = .ok (.iadd, 1) := by decide +kernel
theorem dL_law_180 : decode cL_law 180 = .ok (.iaload, 1) := by decide +kernel
theorem dL_law_181 : decode cL_law 181 = .ok (.invokevirtual 49, 3) := by decide +kernel
theorem dL_law_184 : decode cL_law 184 = .ok (.if_icmp .eq 642, 3) := by decide +kernel
theorem dL_law_187 : decode cL_law 187 = .ok (.iconst 0, 1) := by decide +kernel
theorem dL_law_188 : decode cL_law 188 = .ok (.ireturn, 1) := by decide +kernel
theorem dL_law_189 : decode cL_law 189 = .ok (.aload_n 1, 1) := by decide +kernel
theorem dL_law_190 : decode cL_law 190 = .ok (.aload_n 0, 1) := by decide +kernel
theorem dL_law_191 : decode cL_law 191 = .ok (.iload 4, 2) := by decide +kernel
theorem dL_law_193 : decode cL_law 193 = .ok (.iconst 1, 1) := by decide +kernel
theorem dL_law_194 : decode cL_law 194 = .ok (.iadd, 1) := by decide +kernel
theorem dL_law_195 : decode cL_law 195 = .ok (.iaload, 1) := by decide +kernel
theorem dL_law_196 : decode cL_law 196 = .ok (.aload_n 0, 1) := by decide +kernel
theorem dL_law_197 : decode cL_law 197 = .ok (.iload 4, 2) := by decide +kernel
theorem dL_law_199 : decode cL_law 199 = .ok (.iconst 2, 1) := by decide +kernel
theorem dL_law_200 : decode cL_law 200 = .ok (.iadd, 1) := by decide +kernel
theorem dL_law_201 : decode cL_law 201 = .ok (.iaload, 1) := by decide +kernel
theorem dL_law_202 : decode cL_law 202 = .ok (.aload_n 3, 1) := by decide +kernel
theorem dL_law_203 : decode cL_law 203 = .ok (.invokestatic 50, 3) := by decide +kernel
theorem dL_law_206 : decode cL_law 206 = .ok (.istore 5, 2) := by decide +kernel
theorem dL_law_208 : decode cL_law 208 = .ok (.aload_n 2, 1) := by decide +kernel
theorem dL_law_209 : decode cL_law 209 = .ok (.aload_n 0, 1) := by decide +kernel
theorem dL_law_210 : decode cL_law 210 = .ok (.iload 4, 2) := by decide +kernel
theorem dL_law_212 : decode cL_law 212 = .ok (.iconst 1, 1) := by decide +kernel
theorem dL_law_213 : decode cL_law 213 = .ok (.iadd, 1) := by decide +kernel
theorem dL_law_214 : decode cL_law 214 = .ok (.iaload, 1) := by decide +kernel
theorem dL_law_215 : decode cL_law 215 = .ok (.aload_n 0, 1) := by decide +kernel
theorem dL_law_216 : decode cL_law 216 = .ok (.iload 4, 2) := by decide +kernel
theorem dL_law_218 : decode cL_law 218 = .ok (.iconst 2, 1) := by decide +kernel
theorem dL_law_219 : decode cL_law 219 = .ok (.iadd, 1) := by decide +kernel
theorem dL_law_220 : decode cL_law 220 = .ok (.iaload, 1) := by decide +kernel
theorem dL_law_221 : decode cL_law 221 = .ok (.invokevirtual 55, 3) := by decide +kernel
theorem dL_law_224 : decode cL_law 224 = .ok (.istore 6, 2) := by decide +kernel
theorem dL_law_226 : decode cL_law 226 = .ok (.aload_n 2, 1) := by decide +kernel
theorem dL_law_227 : decode cL_law 227 = .ok (.invokevirtual 56, 3) := by decide +kernel
theorem dL_law_230 : decode cL_law 230 = .ok (.iload 5, 2) := by decide +kernel
theorem dL_law_232 : decode cL_law 232 = .ok (.if_icmp .eq 5, 3) := by decide +kernel
theorem dL_law_235 : decode cL_law 235 = .ok (.iconst 0, 1) := by decide +kernel
theorem dL_law_236 : decode cL_law 236 = .ok (.ireturn, 1) := by decide +kernel
theorem dL_law_237 : decode cL_law 237 = .ok (.iload 5, 2) := by decide +kernel
theorem dL_law_239 : decode cL_law 239 = .ok (.ifCond .ne 15, 3) := by decide +kernel
theorem dL_law_242 : decode cL_law 242 = .ok (.aload_n 3, 1) := by decide +kernel
theorem dL_law_243 : decode cL_law 243 = .ok (.iconst 0, 1) := by decide +kernel
theorem dL_law_244 : decode cL_law 244 = .ok (.laload, 1) := by decide +kernel
theorem dL_law_245 : decode cL_law 245 = .ok (.iload 6, 2) := by decide +kernel
theorem dL_law_247 : decode cL_law 247 = .ok (.i2l, 1) := by decide +kernel
theorem dL_law_248 : decode cL_law 248 = .ok (.lcmp, 1) := by decide +kernel
theorem dL_law_249 : decode cL_law 249 = .ok (.ifCond .eq 5, 3) := by decide +kernel
theorem dL_law_252 : decode cL_law 252 = .ok (.iconst 0, 1) := by decide +kernel
theorem dL_law_253 : decode cL_law 253 = .ok (.ireturn, 1) := by decide +kernel
theorem dL_law_254 : decode cL_law 254 = .ok (.goto 572, 3) := by decide +kernel
theorem dL_law_257 : decode cL_law 257 = .ok (.aload_n 1, 1) := by decide +kernel
theorem dL_law_258 : decode cL_law 258 = .ok (.aload_n 0, 1) := by decide +kernel
theorem dL_law_259 : decode cL_law 259 = .ok (.iload 4, 2) := by decide +kernel
theorem dL_law_261 : decode cL_law 261 = .ok (.iconst 1, 1) := by decide +kernel
theorem dL_law_262 : decode cL_law 262 = .ok (.iadd, 1) := by decide +kernel
theorem dL_law_263 : decode cL_law 263 = .ok (.iaload, 1) := by decide +kernel
theorem dL_law_264 : decode cL_law 264 = .ok (.aload_n 3, 1) := by decide +kernel
theorem dL_law_265 : decode cL_law 265 = .ok (.invokestatic 60, 3) := by decide +kernel
theorem dL_law_268 : decode cL_law 268 = .ok (.istore 5, 2) := by decide +kernel
theorem dL_law_270 : decode cL_law 270 = .ok (.aload_n 2, 1) := by decide +kernel
theorem dL_law_271 : decode cL_law 271 = .ok (.aload_n 0, 1) := by decide +kernel
theorem dL_law_272 : decode cL_law 272 = .ok (.iload 4, 2) := by decide +kernel
theorem dL_law_274 : decode cL_law 274 = .ok (.iconst 1, 1) := by decide +kernel
theorem dL_law_275 : decode cL_law 275 = .ok (.iadd, 1) := by decide +kernel
theorem dL_law_276 : decode cL_law 276 = .ok (.iaload, 1) := by decide +kernel
theorem dL_law_277 : decode cL_law 277 = .ok (.invokevirtual 63, 3) := by decide +kernel
theorem dL_law_280 : decode cL_law 280 = .ok (.istore 6, 2) := by decide +kernel
theorem dL_law_282 : decode cL_law 282 = .ok (.aload_n 2, 1) := by decide +kernel
theorem dL_law_283 : decode cL_law 283 = .ok (.invokevirtual 56, 3) := by decide +kernel
theorem dL_law_286 : decode cL_law 286 = .ok (.iload 5, 2) := by decide +kernel
theorem dL_law_288 : decode cL_law 288 = .ok (.if_icmp .eq 5, 3) := by decide +kernel
theorem dL_law_291 : decode cL_law 291 = .ok (.iconst 0, 1) := by decide +kernel
theorem dL_law_292 : decode cL_law 292 = .ok (.ireturn, 1) := by decide +kernel
theorem dL_law_293 : decode cL_law 293 = .ok (.iload 5, 2) := by decide +kernel
theorem dL_law_295 : decode cL_law 295 = .ok (.ifCond .ne 15, 3) := by decide +kernel
theorem dL_law_298 : decode cL_law 298 = .ok (.aload_n 3, 1) := by decide +kernel
theorem dL_law_299 : decode cL_law 299 = .ok (.iconst 0, 1) := by decide +kernel
theorem dL_law_300 : decode cL_law 300 = .ok (.laload, 1) := by decide +kernel
theorem dL_law_301 : decode cL_law 301 = .ok (.iload 6, 2) := by decide +kernel
theorem dL_law_303 : decode cL_law 303 = .ok (.i2l, 1) := by decide +kernel
theorem dL_law_304 : decode cL_law 304 = .ok (.lcmp, 1) := by decide +kernel
theorem dL_law_305 : decode cL_law 305 = .ok (.ifCond .eq 5, 3) := by decide +kernel
theorem dL_law_308 : decode cL_law 308 = .ok (.iconst 0, 1) := by decide +kernel
theorem dL_law_309 : decode cL_law 309 = .ok (.ireturn, 1) := by decide +kernel
theorem dL_law_310 : decode cL_law 310 = .ok (.goto 516, 3) := by decide +kernel
theorem dL_law_313 : decode cL_law 313 = .ok (.aload_n 1, 1) := by decide +kernel
theorem dL_law_314 : decode cL_law 314 = .ok (.aload_n 0, 1) := by decide +kernel
theorem dL_law_315 : decode cL_law 315 = .ok (.iload 4, 2) := by decide +kernel
theorem dL_law_317 : decode cL_law 317 = .ok (.iconst 1, 1) := by decide +kernel
theorem dL_law_318 : decode cL_law 318 = .ok (.iadd, 1) := by decide +kernel
theorem dL_law_319 : decode cL_law 319 = .ok (.iaload, 1) := by decide +kernel
theorem dL_law_320 : decode cL_law 320 = .ok (.aload_n 0, 1) := by decide +kernel
theorem dL_law_321 : decode cL_law 321 = .ok (.iload 4, 2) := by decide +kernel
theorem dL_law_323 : decode cL_law 323 = .ok (.iconst 2, 1) := by decide +kernel
theorem dL_law_324 : decode cL_law 324 = .ok (.iadd, 1) := by decide +kernel
theorem dL_law_325 : decode cL_law 325 = .ok (.iaload, 1) := by decide +kernel
theorem dL_law_326 : decode cL_law 326 = .ok (.aload_n 0, 1) := by decide +kernel
theorem dL_law_327 : decode cL_law 327 = .ok (.iload 4, 2) := by decide +kernel
theorem dL_law_329 : decode cL_law 329 = .ok (.iconst 3, 1) := by decide +kernel
theorem dL_law_330 : decode cL_law 330 = .ok (.iadd, 1) := by decide +kernel
theorem dL_law_331 : decode cL_law 331 = .ok (.iaload, 1) := by decide +kernel
theorem dL_law_332 : decode cL_law 332 = .ok (.aload_n 0, 1) := by decide +kernel
theorem dL_law_333 : decode cL_law 333 = .ok (.iload 4, 2) := by decide +kernel
theorem dL_law_335 : decode cL_law 335 = .ok (.iconst 4, 1) := by decide +kernel
theorem dL_law_336 : decode cL_law 336 = .ok (.iadd, 1) := by decide +kernel
theorem dL_law_337 : decode cL_law 337 = .ok (.iaload, 1) := by decide +kernel
theorem dL_law_338 : decode cL_law 338 = .ok (.ifCond .eq 7, 3) := by decide +kernel
theorem dL_law_341 : decode cL_law 341 = .ok (.iconst 1, 1) := by decide +kernel
theorem dL_law_342 : decode cL_law 342 = .ok (.goto 4, 3) := by decide +kernel
theorem dL_law_345 : decode cL_law 345 = .ok (.iconst 0, 1) := by decide +kernel
theorem dL_law_346 : decode cL_law 346 = .ok (.invokestatic 64, 3) := by decide +kernel
theorem dL_law_349 : decode cL_law 349 = .ok (.istore 5, 2) := by decide +kernel
theorem dL_law_351 : decode cL_law 351 = .ok (.aload_n 2, 1) := by decide +kernel
theorem dL_law_352 : decode cL_law 352 = .ok (.aload_n 0, 1) := by decide +kernel
theorem dL_law_353 : decode cL_law 353 = .ok (.iload 4, 2) := by decide +kernel
theorem dL_law_355 : decode cL_law 355 = .ok (.iconst 1, 1) := by decide +kernel
theorem dL_law_356 : decode cL_law 356 = .ok (.iadd, 1) := by decide +kernel
theorem dL_law_357 : decode cL_law 357 = .ok (.iaload, 1) := by decide +kernel
theorem dL_law_358 : decode cL_law 358 = .ok (.aload_n 0, 1) := by decide +kernel
theorem dL_law_359 : decode cL_law 359 = .ok (.iload 4, 2) := by decide +kernel
theorem dL_law_361 : decode cL_law 361 = .ok (.iconst 2, 1) := by decide +kernel
theorem dL_law_362 : decode cL_law 362 = .ok (.iadd, 1) := by decide +kernel
theorem dL_law_363 : decode cL_law 363 = .ok (.iaload, 1) := by decide +kernel
theorem dL_law_364 : decode cL_law 364 = .ok (.aload_n 0, 1) := by decide +kernel
theorem dL_law_365 : decode cL_law 365 = .ok (.iload 4, 2) := by decide +kernel
theorem dL_law_367 : decode cL_law 367 = .ok (.iconst 3, 1) := by decide +kernel
theorem dL_law_368 : decode cL_law 368 = .ok (.iadd, 1) := by decide +kernel
theorem dL_law_369 : decode cL_law 369 = .ok (.iaload, 1) := by decide +kernel
theorem dL_law_370 : decode cL_law 370 = .ok (.aload_n 0, 1) := by decide +kernel
theorem dL_law_371 : decode cL_law 371 = .ok (.iload 4, 2) := by decide +kernel
theorem dL_law_373 : decode cL_law 373 = .ok (.iconst 4, 1) := by decide +kernel
theorem dL_law_374 : decode cL_law 374 = .ok (.iadd, 1) := by decide +kernel
theorem dL_law_375 : decode cL_law 375 = .ok (.iaload, 1) := by decide +kernel
theorem dL_law_376 : decode cL_law 376 = .ok (.ifCond .eq 7, 3) := by decide +kernel
theorem dL_law_379 : decode cL_law 379 = .ok (.iconst 1, 1) := by decide +kernel
theorem dL_law_380 : decode cL_law 380 = .ok (.goto 4, 3) := by decide +kernel
theorem dL_law_383 : decode cL_law 383 = .ok (.iconst 0, 1) := by decide +kernel
theorem dL_law_384 : decode cL_law 384 = .ok (.invokevirtual 67, 3) := by decide +kernel
theorem dL_law_387 : decode cL_law 387 = .ok (.aload_n 2, 1) := by decide +kernel
theorem dL_law_388 : decode cL_law 388 = .ok (.invokevirtual 56, 3) := by decide +kernel
theorem dL_law_391 : decode cL_law 391 = .ok (.iload 5, 2) := by decide +kernel
theorem dL_law_393 : decode cL_law 393 = .ok (.if_icmp .eq 5, 3) := by decide +kernel
theorem dL_law_396 : decode cL_law 396 = .ok (.iconst 0, 1) := by decide +kernel
theorem dL_law_397 : decode cL_law 397 = .ok (.ireturn, 1) := by decide +kernel
theorem dL_law_398 : decode cL_law 398 = .ok (.goto 428, 3) := by decide +kernel
theorem dL_law_401 : decode cL_law 401 = .ok (.aload_n 1, 1) := by decide +kernel
theorem dL_law_402 : decode cL_law 402 = .ok (.aload_n 0, 1) := by decide +kernel
theorem dL_law_403 : decode cL_law 403 = .ok (.iload 4, 2) := by decide +kernel
theorem dL_law_405 : decode cL_law 405 = .ok (.iconst 1, 1) := by decide +kernel
theorem dL_law_406 : decode cL_law 406 = .ok (.iadd, 1) := by decide +kernel
theorem dL_law_407 : decode cL_law 407 = .ok (.iaload, 1) := by decide +kernel
theorem dL_law_408 : decode cL_law 408 = .ok (.aload_n 3, 1) := by decide +kernel
theorem dL_law_409 : decode cL_law 409 = .ok (.invokestatic 68, 3) := by decide +kernel
theorem dL_law_412 : decode cL_law 412 = .ok (.istore 5, 2) := by decide +kernel
theorem dL_law_414 : decode cL_law 414 = .ok (.aload_n 2, 1) := by decide +kernel
theorem dL_law_415 : decode cL_law 415 = .ok (.aload_n 0, 1) := by decide +kernel
theorem dL_law_416 : decode cL_law 416 = .ok (.iload 4, 2) := by decide +kernel
theorem dL_law_418 : decode cL_law 418 = .ok (.iconst 1, 1) := by decide +kernel
theorem dL_law_419 : decode cL_law 419 = .ok (.iadd, 1) := by decide +kernel
theorem dL_law_420 : decode cL_law 420 = .ok (.iaload, 1) := by decide +kernel
theorem dL_law_421 : decode cL_law 421 = .ok (.invokevirtual 70, 3) := by decide +kernel
theorem dL_law_424 : decode cL_law 424 = .ok (.istore 6, 2) := by decide +kernel
theorem dL_law_426 : decode cL_law 426 = .ok (.aload_n 2, 1) := by decide +kernel
theorem dL_law_427 : decode cL_law 427 = .ok (.invokevirtual 56, 3) := by decide +kernel
theorem dL_law_430 : decode cL_law 430 = .ok (.iload 5, 2) := by decide +kernel
theorem dL_law_432 : decode cL_law 432 = .ok (.if_icmp .eq 5, 3) := by decide +kernel
theorem dL_law_435 : decode cL_law 435 = .ok (.iconst 0, 1) := by decide +kernel
theorem dL_law_436 : decode cL_law 436 = .ok (.ireturn, 1) := by decide +kernel
theorem dL_law_437 : decode cL_law 437 = .ok (.iload 5, 2) := by decide +kernel
theorem dL_law_439 : decode cL_law 439 = .ok (.ifCond .ne 15, 3) := by decide +kernel
theorem dL_law_442 : decode cL_law 442 = .ok (.aload_n 3, 1) := by decide +kernel
theorem dL_law_443 : decode cL_law 443 = .ok (.iconst 0, 1) := by decide +kernel
theorem dL_law_444 : decode cL_law 444 = .ok (.laload, 1) := by decide +kernel
theorem dL_law_445 : decode cL_law 445 = .ok (.iload 6, 2) := by decide +kernel
theorem dL_law_447 : decode cL_law 447 = .ok (.i2l, 1) := by decide +kernel
theorem dL_law_448 : decode cL_law 448 = .ok (.lcmp, 1) := by decide +kernel
theorem dL_law_449 : decode cL_law 449 = .ok (.ifCond .eq 5, 3) := by decide +kernel
theorem dL_law_452 : decode cL_law 452 = .ok (.iconst 0, 1) := by decide +kernel
theorem dL_law_453 : decode cL_law 453 = .ok (.ireturn, 1) := by decide +kernel
theorem dL_law_454 : decode cL_law 454 = .ok (.goto 372, 3) := by decide +kernel
theorem dL_law_457 : decode cL_law 457 = .ok (.aload_n 1, 1) := by decide +kernel
theorem dL_law_458 : decode cL_law 458 = .ok (.aload_n 0, 1) := by decide +kernel
theorem dL_law_459 : decode cL_law 459 = .ok (.iload 4, 2) := by decide +kernel
theorem dL_law_461 : decode cL_law 461 = .ok (.iconst 1, 1) := by decide +kernel
theorem dL_law_462 : decode cL_law 462 = .ok (.iadd, 1) := by decide +kernel
theorem dL_law_463 : decode cL_law 463 = .ok (.iaload, 1) := by decide +kernel
theorem dL_law_464 : decode cL_law 464 = .ok (.invokestatic 71, 3) := by decide +kernel
theorem dL_law_467 : decode cL_law 467 = .ok (.istore 5, 2) := by decide +kernel
theorem dL_law_469 : decode cL_law 469 = .ok (.aload_n 2, 1) := by decide +kernel
theorem dL_law_470 : decode cL_law 470 = .ok (.aload_n 0, 1) := by decide +kernel
theorem dL_law_471 : decode cL_law 471 = .ok (.iload 4, 2) := by decide +kernel
theorem dL_law_473 : decode cL_law 473 = .ok (.iconst 1, 1) := by decide +kernel
theorem dL_law_474 : decode cL_law 474 = .ok (.iadd, 1) := by decide +kernel
theorem dL_law_475 : decode cL_law 475 = .ok (.iaload, 1) := by decide +kernel
theorem dL_law_476 : decode cL_law 476 = .ok (.invokevirtual 74, 3) := by decide +kernel
theorem dL_law_479 : decode cL_law 479 = .ok (.aload_n 2, 1) := by decide +kernel
theorem dL_law_480 : decode cL_law 480 = .ok (.invokevirtual 56, 3) := by decide +kernel
theorem dL_law_483 : decode cL_law 483 = .ok (.iload 5, 2) := by decide +kernel
theorem dL_law_485 : decode cL_law 485 = .ok (.if_icmp .eq 5, 3) := by decide +kernel
theorem dL_law_488 : decode cL_law 488 = .ok (.iconst 0, 1) := by decide +kernel
theorem dL_law_489 : decode cL_law 489 = .ok (.ireturn, 1) := by decide +kernel
theorem dL_law_490 : decode cL_law 490 = .ok (.goto 336, 3) := by decide +kernel
theorem dL_law_493 : decode cL_law 493 = .ok (.aload_n 1, 1) := by decide +kernel
theorem dL_law_494 : decode cL_law 494 = .ok (.invokevirtual 75, 3) := by decide +kernel
theorem dL_law_497 : decode cL_law 497 = .ok (.aload_n 2, 1) := by decide +kernel
theorem dL_law_498 : decode cL_law 498 = .ok (.invokevirtual 78, 3) := by decide +kernel
theorem dL_law_501 : decode cL_law 501 = .ok (.if_icmp .eq 325, 3) := by decide +kernel
theorem dL_law_504 : decode cL_law 504 = .ok (.iconst 0, 1) := by decide +kernel
theorem dL_law_505 : decode cL_law 505 = .ok (.ireturn, 1) := by decide +kernel
theorem dL_law_506 : decode cL_law 506 = .ok (.aload_n 1, 1) := by decide +kernel
theorem dL_law_507 : decode cL_law 507 = .ok (.aload_n 0, 1) := by decide +kernel
theorem dL_law_508 : decode cL_law 508 = .ok (.iload 4, 2) := by decide +kernel
theorem dL_law_510 : decode cL_law 510 = .ok (.iconst 1, 1) := by decide +kernel
theorem dL_law_511 : decode cL_law 511 = .ok (.iadd, 1) := by decide +kernel
theorem dL_law_512 : decode cL_law 512 = .ok (.iaload, 1) := by decide +kernel
theorem dL_law_513 : decode cL_law 513 = .ok (.invokevirtual 79, 3) := by decide +kernel
theorem dL_law_516 : decode cL_law 516 = .ok (.aload_n 2, 1) := by decide +kernel
theorem dL_law_517 : decode cL_law 517 = .ok (.aload_n 0, 1) := by decide +kernel
theorem dL_law_518 : decode cL_law 518 = .ok (.iload 4, 2) := by decide +kernel
theorem dL_law_520 : decode cL_law 520 = .ok (.iconst 1, 1) := by decide +kernel
theorem dL_law_521 : decode cL_law 521 = .ok (.iadd, 1) := by decide +kernel
theorem dL_law_522 : decode cL_law 522 = .ok (.iaload, 1) := by decide +kernel
theorem dL_law_523 : decode cL_law 523 = .ok (.invokevirtual 82, 3) := by decide +kernel
theorem dL_law_526 : decode cL_law 526 = .ok (.if_icmp .eq 300, 3) := by decide +kernel
theorem dL_law_529 : decode cL_law 529 = .ok (.iconst 0, 1) := by decide +kernel
theorem dL_law_530 : decode cL_law 530 = .ok (.ireturn, 1) := by decide +kernel
theorem dL_law_531 : decode cL_law 531 = .ok (.aload_n 1, 1) := by decide +kernel
theorem dL_law_532 : decode cL_law 532 = .ok (.invokevirtual 83, 3) := by decide +kernel
theorem dL_law_535 : decode cL_law 535 = .ok (.aload_n 2, 1) := by decide +kernel
theorem dL_law_536 : decode cL_law 536 = .ok (.invokevirtual 86, 3) := by decide +kernel
theorem dL_law_539 : decode cL_law 539 = .ok (.goto 287, 3) := by decide +kernel
theorem dL_law_542 : decode cL_law 542 = .ok (.aload_n 1, 1) := by decide +kernel
theorem dL_law_543 : decode cL_law 543 = .ok (.aload_n 0, 1) := by decide +kernel
theorem dL_law_544 : decode cL_law 544 = .ok (.iload 4, 2) := by decide +kernel
theorem dL_law_546 : decode cL_law 546 = .ok (.iconst 1, 1) := by decide +kernel
theorem dL_law_547 : decode cL_law 547 = .ok (.iadd, 1) := by decide +kernel
theorem dL_law_548 : decode cL_law 548 = .ok (.iaload, 1) := by decide +kernel
theorem dL_law_549 : decode cL_law 549 = .ok (.aload_n 0, 1) := by decide +kernel
theorem dL_law_550 : decode cL_law 550 = .ok (.iload 4, 2) := by decide +kernel
theorem dL_law_552 : decode cL_law 552 = .ok (.iconst 2, 1) := by decide +kernel
theorem dL_law_553 : decode cL_law 553 = .ok (.iadd, 1) := by decide +kernel
theorem dL_law_554 : decode cL_law 554 = .ok (.iaload, 1) := by decide +kernel
theorem dL_law_555 : decode cL_law 555 = .ok (.aload_n 0, 1) := by decide +kernel
theorem dL_law_556 : decode cL_law 556 = .ok (.iload 4, 2) := by decide +kernel
theorem dL_law_558 : decode cL_law 558 = .ok (.iconst 3, 1) := by decide +kernel
theorem dL_law_559 : decode cL_law 559 = .ok (.iadd, 1) := by decide +kernel
theorem dL_law_560 : decode cL_law 560 = .ok (.iaload, 1) := by decide +kernel
theorem dL_law_561 : decode cL_law 561 = .ok (.aload_n 3, 1) := by decide +kernel
theorem dL_law_562 : decode cL_law 562 = .ok (.invokestatic 87, 3) := by decide +kernel
theorem dL_law_565 : decode cL_law 565 = .ok (.istore 5, 2) := by decide +kernel
theorem dL_law_567 : decode cL_law 567 = .ok (.aload_n 2, 1) := by decide +kernel
theorem dL_law_568 : decode cL_law 568 = .ok (.aload_n 0, 1) := by decide +kernel
theorem dL_law_569 : decode cL_law 569 = .ok (.iload 4, 2) := by decide +kernel
theorem dL_law_571 : decode cL_law 571 = .ok (.iconst 1, 1) := by decide +kernel
theorem dL_law_572 : decode cL_law 572 = .ok (.iadd, 1) := by decide +kernel
theorem dL_law_573 : decode cL_law 573 = .ok (.iaload, 1) := by decide +kernel
theorem dL_law_574 : decode cL_law 574 = .ok (.aload_n 0, 1) := by decide +kernel
theorem dL_law_575 : decode cL_law 575 = .ok (.iload 4, 2) := by decide +kernel
theorem dL_law_577 : decode cL_law 577 = .ok (.iconst 2, 1) := by decide +kernel
theorem dL_law_578 : decode cL_law 578 = .ok (.iadd, 1) := by decide +kernel
theorem dL_law_579 : decode cL_law 579 = .ok (.iaload, 1) := by decide +kernel
theorem dL_law_580 : decode cL_law 580 = .ok (.aload_n 0, 1) := by decide +kernel
theorem dL_law_581 : decode cL_law 581 = .ok (.iload 4, 2) := by decide +kernel
theorem dL_law_583 : decode cL_law 583 = .ok (.iconst 3, 1) := by decide +kernel
theorem dL_law_584 : decode cL_law 584 = .ok (.iadd, 1) := by decide +kernel
theorem dL_law_585 : decode cL_law 585 = .ok (.iaload, 1) := by decide +kernel
theorem dL_law_586 : decode cL_law 586 = .ok (.invokevirtual 90, 3) := by decide +kernel
theorem dL_law_589 : decode cL_law 589 = .ok (.istore 6, 2) := by decide +kernel
theorem dL_law_591 : decode cL_law 591 = .ok (.aload_n 2, 1) := by decide +kernel
theorem dL_law_592 : decode cL_law 592 = .ok (.invokevirtual 56, 3) := by decide +kernel
theorem dL_law_595 : decode cL_law 595 = .ok (.iload 5, 2) := by decide +kernel
theorem dL_law_597 : decode cL_law 597 = .ok (.if_icmp .eq 5, 3) := by decide +kernel
theorem dL_law_600 : decode cL_law 600 = .ok (.iconst 0, 1) := by decide +kernel
theorem dL_law_601 : decode cL_law 601 = .ok (.ireturn, 1) := by decide +kernel
theorem dL_law_602 : decode cL_law 602 = .ok (.iload 5, 2) := by decide +kernel
theorem dL_law_604 : decode cL_law 604 = .ok (.ifCond .ne 15, 3) := by decide +kernel
theorem dL_law_607 : decode cL_law 607 = .ok (.aload_n 3, 1) := by decide +kernel
theorem dL_law_608 : decode cL_law 608 = .ok (.iconst 0, 1) := by decide +kernel
theorem dL_law_609 : decode cL_law 609 = .ok (.laload, 1) := by decide +kernel
theorem dL_law_610 : decode cL_law 610 = .ok (.iload 6, 2) := by decide +kernel
theorem dL_law_612 : decode cL_law 612 = .ok (.i2l, 1) := by decide +kernel
theorem dL_law_613 : decode cL_law 613 = .ok (.lcmp, 1) := by decide +kernel
theorem dL_law_614 : decode cL_law 614 = .ok (.ifCond .eq 5, 3) := by decide +kernel
theorem dL_law_617 : decode cL_law 617 = .ok (.iconst 0, 1) := by decide +kernel
theorem dL_law_618 : decode cL_law 618 = .ok (.ireturn, 1) := by decide +kernel
theorem dL_law_619 : decode cL_law 619 = .ok (.goto 207, 3) := by decide +kernel
theorem dL_law_622 : decode cL_law 622 = .ok (.aload_n 1, 1) := by decide +kernel
theorem dL_law_623 : decode cL_law 623 = .ok (.aload_n 0, 1) := by decide +kernel
theorem dL_law_624 : decode cL_law 624 = .ok (.iload 4, 2) := by decide +kernel
theorem dL_law_626 : decode cL_law 626 = .ok (.iconst 1, 1) := by decide +kernel
theorem dL_law_627 : decode cL_law 627 = .ok (.iadd, 1) := by decide +kernel
theorem dL_law_628 : decode cL_law 628 = .ok (.iaload, 1) := by decide +kernel
theorem dL_law_629 : decode cL_law 629 = .ok (.aload_n 0, 1) := by decide +kernel
theorem dL_law_630 : decode cL_law 630 = .ok (.iload 4, 2) := by decide +kernel
theorem dL_law_632 : decode cL_law 632 = .ok (.iconst 2, 1) := by decide +kernel
theorem dL_law_633 : decode cL_law 633 = .ok (.iadd, 1) := by decide +kernel
theorem dL_law_634 : decode cL_law 634 = .ok (.iaload, 1) := by decide +kernel
theorem dL_law_635 : decode cL_law 635 = .ok (.aload_n 0, 1) := by decide +kernel
theorem dL_law_636 : decode cL_law 636 = .ok (.iload 4, 2) := by decide +kernel
theorem dL_law_638 : decode cL_law 638 = .ok (.iconst 3, 1) := by decide +kernel
theorem dL_law_639 : decode cL_law 639 = .ok (.iadd, 1) := by decide +kernel
theorem dL_law_640 : decode cL_law 640 = .ok (.iaload, 1) := by decide +kernel
theorem dL_law_641 : decode cL_law 641 = .ok (.aload_n 0, 1) := by decide +kernel
theorem dL_law_642 : decode cL_law 642 = .ok (.iload 4, 2) := by decide +kernel
theorem dL_law_644 : decode cL_law 644 = .ok (.iconst 4, 1) := by decide +kernel
theorem dL_law_645 : decode cL_law 645 = .ok (.iadd, 1) := by decide +kernel
theorem dL_law_646 : decode cL_law 646 = .ok (.iaload, 1) := by decide +kernel
theorem dL_law_647 : decode cL_law 647 = .ok (.aload_n 0, 1) := by decide +kernel
theorem dL_law_648 : decode cL_law 648 = .ok (.iload 4, 2) := by decide +kernel
theorem dL_law_650 : decode cL_law 650 = .ok (.iconst 5, 1) := by decide +kernel
theorem dL_law_651 : decode cL_law 651 = .ok (.iadd, 1) := by decide +kernel
theorem dL_law_652 : decode cL_law 652 = .ok (.iaload, 1) := by decide +kernel
theorem dL_law_653 : decode cL_law 653 = .ok (.aload_n 3, 1) := by decide +kernel
theorem dL_law_654 : decode cL_law 654 = .ok (.invokestatic 91, 3) := by decide +kernel
theorem dL_law_657 : decode cL_law 657 = .ok (.istore 5, 2) := by decide +kernel
theorem dL_law_659 : decode cL_law 659 = .ok (.aload_n 2, 1) := by decide +kernel
theorem dL_law_660 : decode cL_law 660 = .ok (.aload_n 0, 1) := by decide +kernel
theorem dL_law_661 : decode cL_law 661 = .ok (.iload 4, 2) := by decide +kernel
theorem dL_law_663 : decode cL_law 663 = .ok (.iconst 1, 1) := by decide +kernel
theorem dL_law_664 : decode cL_law 664 = .ok (.iadd, 1) := by decide +kernel
theorem dL_law_665 : decode cL_law 665 = .ok (.iaload, 1) := by decide +kernel
theorem dL_law_666 : decode cL_law 666 = .ok (.aload_n 0, 1) := by decide +kernel
theorem dL_law_667 : decode cL_law 667 = .ok (.iload 4, 2) := by decide +kernel
theorem dL_law_669 : decode cL_law 669 = .ok (.iconst 2, 1) := by decide +kernel
theorem dL_law_670 : decode cL_law 670 = .ok (.iadd, 1) := by decide +kernel
theorem dL_law_671 : decode cL_law 671 = .ok (.iaload, 1) := by decide +kernel
theorem dL_law_672 : decode cL_law 672 = .ok (.aload_n 0, 1) := by decide +kernel
theorem dL_law_673 : decode cL_law 673 = .ok (.iload 4, 2) := by decide +kernel
theorem dL_law_675 : decode cL_law 675 = .ok (.iconst 3, 1) := by decide +kernel
theorem dL_law_676 : decode cL_law 676 = .ok (.iadd, 1) := by decide +kernel
theorem dL_law_677 : decode cL_law 677 = .ok (.iaload, 1) := by decide +kernel
theorem dL_law_678 : decode cL_law 678 = .ok (.aload_n 0, 1) := by decide +kernel
theorem dL_law_679 : decode cL_law 679 = .ok (.iload 4, 2) := by decide +kernel
theorem dL_law_681 : decode cL_law 681 = .ok (.iconst 4, 1) := by decide +kernel
theorem dL_law_682 : decode cL_law 682 = .ok (.iadd, 1) := by decide +kernel
theorem dL_law_683 : decode cL_law 683 = .ok (.iaload, 1) := by decide +kernel
theorem dL_law_684 : decode cL_law 684 = .ok (.aload_n 0, 1) := by decide +kernel
theorem dL_law_685 : decode cL_law 685 = .ok (.iload 4, 2) := by decide +kernel
theorem dL_law_687 : decode cL_law 687 = .ok (.iconst 5, 1) := by decide +kernel
theorem dL_law_688 : decode cL_law 688 = .ok (.iadd, 1) := by decide +kernel
theorem dL_law_689 : decode cL_law 689 = .ok (.iaload, 1) := by decide +kernel
theorem dL_law_690 : decode cL_law 690 = .ok (.invokevirtual 94, 3) := by decide +kernel
theorem dL_law_693 : decode cL_law 693 = .ok (.istore 6, 2) := by decide +kernel
theorem dL_law_695 : decode cL_law 695 = .ok (.aload_n 2, 1) := by decide +kernel
theorem dL_law_696 : decode cL_law 696 = .ok (.invokevirtual 56, 3) := by decide +kernel
theorem dL_law_699 : decode cL_law 699 = .ok (.iload 5, 2) := by decide +kernel
theorem dL_law_701 : decode cL_law 701 = .ok (.if_icmp .eq 5, 3) := by decide +kernel
theorem dL_law_704 : decode cL_law 704 = .ok (.iconst 0, 1) := by decide +kernel
theorem dL_law_705 : decode cL_law 705 = .ok (.ireturn, 1) := by decide +kernel
theorem dL_law_706 : decode cL_law 706 = .ok (.iload 5, 2) := by decide +kernel
theorem dL_law_708 : decode cL_law 708 = .ok (.ifCond .ne 15, 3) := by decide +kernel
theorem dL_law_711 : decode cL_law 711 = .ok (.aload_n 3, 1) := by decide +kernel
theorem dL_law_712 : decode cL_law 712 = .ok (.iconst 0, 1) := by decide +kernel
theorem dL_law_713 : decode cL_law 713 = .ok (.laload, 1) := by decide +kernel
theorem dL_law_714 : decode cL_law 714 = .ok (.iload 6, 2) := by decide +kernel
theorem dL_law_716 : decode cL_law 716 = .ok (.i2l, 1) := by decide +kernel
theorem dL_law_717 : decode cL_law 717 = .ok (.lcmp, 1) := by decide +kernel
theorem dL_law_718 : decode cL_law 718 = .ok (.ifCond .eq 5, 3) := by decide +kernel
theorem dL_law_721 : decode cL_law 721 = .ok (.iconst 0, 1) := by decide +kernel
theorem dL_law_722 : decode cL_law 722 = .ok (.ireturn, 1) := by decide +kernel
theorem dL_law_723 : decode cL_law 723 = .ok (.goto 103, 3) := by decide +kernel
theorem dL_law_726 : decode cL_law 726 = .ok (.aload_n 1, 1) := by decide +kernel
theorem dL_law_727 : decode cL_law 727 = .ok (.aload_n 0, 1) := by decide +kernel
theorem dL_law_728 : decode cL_law 728 = .ok (.iload 4, 2) := by decide +kernel
theorem dL_law_730 : decode cL_law 730 = .ok (.iconst 1, 1) := by decide +kernel
theorem dL_law_731 : decode cL_law 731 = .ok (.iadd, 1) := by decide +kernel
theorem dL_law_732 : decode cL_law 732 = .ok (.iaload, 1) := by decide +kernel
theorem dL_law_733 : decode cL_law 733 = .ok (.invokevirtual 95, 3) := by decide +kernel
theorem dL_law_736 : decode cL_law 736 = .ok (.aload_n 2, 1) := by decide +kernel
theorem dL_law_737 : decode cL_law 737 = .ok (.aload_n 0, 1) := by decide +kernel
theorem dL_law_738 : decode cL_law 738 = .ok (.iload 4, 2) := by decide +kernel
theorem dL_law_740 : decode cL_law 740 = .ok (.iconst 1, 1) := by decide +kernel
theorem dL_law_741 : decode cL_law 741 = .ok (.iadd, 1) := by decide +kernel
theorem dL_law_742 : decode cL_law 742 = .ok (.iaload, 1) := by decide +kernel
theorem dL_law_743 : decode cL_law 743 = .ok (.invokevirtual 98, 3) := by decide +kernel
theorem dL_law_746 : decode cL_law 746 = .ok (.if_icmp .eq 80, 3) := by decide +kernel
theorem dL_law_749 : decode cL_law 749 = .ok (.iconst 0, 1) := by decide +kernel
theorem dL_law_750 : decode cL_law 750 = .ok (.ireturn, 1) := by decide +kernel
theorem dL_law_751 : decode cL_law 751 = .ok (.aload_n 1, 1) := by decide +kernel
theorem dL_law_752 : decode cL_law 752 = .ok (.aload_n 0, 1) := by decide +kernel
theorem dL_law_753 : decode cL_law 753 = .ok (.iload 4, 2) := by decide +kernel
theorem dL_law_755 : decode cL_law 755 = .ok (.iconst 1, 1) := by decide +kernel
theorem dL_law_756 : decode cL_law 756 = .ok (.iadd, 1) := by decide +kernel
theorem dL_law_757 : decode cL_law 757 = .ok (.iaload, 1) := by decide +kernel
theorem dL_law_758 : decode cL_law 758 = .ok (.invokevirtual 99, 3) := by decide +kernel
theorem dL_law_761 : decode cL_law 761 = .ok (.aload_n 2, 1) := by decide +kernel
theorem dL_law_762 : decode cL_law 762 = .ok (.aload_n 0, 1) := by decide +kernel
theorem dL_law_763 : decode cL_law 763 = .ok (.iload 4, 2) := by decide +kernel
theorem dL_law_765 : decode cL_law 765 = .ok (.iconst 1, 1) := by decide +kernel
theorem dL_law_766 : decode cL_law 766 = .ok (.iadd, 1) := by decide +kernel
theorem dL_law_767 : decode cL_law 767 = .ok (.iaload, 1) := by decide +kernel
theorem dL_law_768 : decode cL_law 768 = .ok (.invokevirtual 102, 3) := by decide +kernel
theorem dL_law_771 : decode cL_law 771 = .ok (.if_icmp .eq 55, 3) := by decide +kernel
theorem dL_law_774 : decode cL_law 774 = .ok (.iconst 0, 1) := by decide +kernel
theorem dL_law_775 : decode cL_law 775 = .ok (.ireturn, 1) := by decide +kernel
theorem dL_law_776 : decode cL_law 776 = .ok (.aload_n 1, 1) := by decide +kernel
theorem dL_law_777 : decode cL_law 777 = .ok (.aload_n 0, 1) := by decide +kernel
theorem dL_law_778 : decode cL_law 778 = .ok (.iload 4, 2) := by decide +kernel
theorem dL_law_780 : decode cL_law 780 = .ok (.iconst 1, 1) := by decide +kernel
theorem dL_law_781 : decode cL_law 781 = .ok (.iadd, 1) := by decide +kernel
theorem dL_law_782 : decode cL_law 782 = .ok (.iaload, 1) := by decide +kernel
theorem dL_law_783 : decode cL_law 783 = .ok (.aload_n 0, 1) := by decide +kernel
theorem dL_law_784 : decode cL_law 784 = .ok (.iload 4, 2) := by decide +kernel
theorem dL_law_786 : decode cL_law 786 = .ok (.iconst 2, 1) := by decide +kernel
theorem dL_law_787 : decode cL_law 787 = .ok (.iadd, 1) := by decide +kernel
theorem dL_law_788 : decode cL_law 788 = .ok (.iaload, 1) := by decide +kernel
theorem dL_law_789 : decode cL_law 789 = .ok (.invokevirtual 103, 3) := by decide +kernel
theorem dL_law_792 : decode cL_law 792 = .ok (.aload_n 2, 1) := by decide +kernel
theorem dL_law_793 : decode cL_law 793 = .ok (.aload_n 0, 1) := by decide +kernel
theorem dL_law_794 : decode cL_law 794 = .ok (.iload 4, 2) := by decide +kernel
theorem dL_law_796 : decode cL_law 796 = .ok (.iconst 1, 1) := by decide +kernel
theorem dL_law_797 : decode cL_law 797 = .ok (.iadd, 1) := by decide +kernel
theorem dL_law_798 : decode cL_law 798 = .ok (.iaload, 1) := by decide +kernel
theorem dL_law_799 : decode cL_law 799 = .ok (.aload_n 0, 1) := by decide +kernel
theorem dL_law_800 : decode cL_law 800 = .ok (.iload 4, 2) := by decide +kernel
theorem dL_law_802 : decode cL_law 802 = .ok (.iconst 2, 1) := by decide +kernel
theorem dL_law_803 : decode cL_law 803 = .ok (.iadd, 1) := by decide +kernel
theorem dL_law_804 : decode cL_law 804 = .ok (.iaload, 1) := by decide +kernel
theorem dL_law_805 : decode cL_law 805 = .ok (.invokevirtual 106, 3) := by decide +kernel
theorem dL_law_808 : decode cL_law 808 = .ok (.if_icmp .eq 18, 3) := by decide +kernel
theorem dL_law_811 : decode cL_law 811 = .ok (.iconst 0, 1) := by decide +kernel
theorem dL_law_812 : decode cL_law 812 = .ok (.ireturn, 1) := by decide +kernel
theorem dL_law_813 : decode cL_law 813 = .ok (.aload_n 1, 1) := by decide +kernel
theorem dL_law_814 : decode cL_law 814 = .ok (.invokevirtual 107, 3) := by decide +kernel
theorem dL_law_817 : decode cL_law 817 = .ok (.aload_n 2, 1) := by decide +kernel
theorem dL_law_818 : decode cL_law 818 = .ok (.invokevirtual 110, 3) := by decide +kernel
theorem dL_law_821 : decode cL_law 821 = .ok (.if_icmp .eq 5, 3) := by decide +kernel
theorem dL_law_824 : decode cL_law 824 = .ok (.iconst 0, 1) := by decide +kernel
theorem dL_law_825 : decode cL_law 825 = .ok (.ireturn, 1) := by decide +kernel
theorem dL_law_826 : decode cL_law 826 = .ok (.iinc 4 6, 3) := by decide +kernel
theorem dL_law_829 : decode cL_law 829 = .ok (.goto (-806), 3) := by decide +kernel
theorem dL_law_832 : decode cL_law 832 = .ok (.iconst 1, 1) := by decide +kernel
theorem dL_law_833 : decode cL_law 833 = .ok (.ireturn, 1) := by decide +kernel
end
section
def swL : List Int32 := [99, 124, 119, 123, 242, 107, 111, 197, 48, 1, 103, 43, 254, 215, 171, 118, 202, 130, 201, 125, 250, 89, 71, 240, 173, 212, 162, 175, 156, 164, 114, 192, 183, 253, 147, 38, 54, 63, 247, 204, 52, 165, 229, 241, 113, 216, 49, 21, 4, 199, 35, 195, 24, 150, 5, 154, 7, 18, 128, 226, 235, 39, 178, 117, 9, 131, 44, 26, 27, 110, 90, 160, 82, 59, 214, 179, 41, 227, 47, 132, 83, 209, 0, 237, 32, 252, 177, 91, 106, 203, 190, 57, 74, 76, 88, 207, 208, 239, 170, 251, 67, 77, 51, 133, 69, 249, 2, 127, 80, 60, 159, 168, 81, 163, 64, 143, 146, 157, 56, 245, 188, 182, 218, 33, 16, 255, 243, 210, 205, 12, 19, 236, 95, 151, 68, 23, 196, 167, 126, 61, 100, 93, 25, 115, 96, 129, 79, 220, 34, 42, 144, 136, 70, 238, 184, 20, 222, 94, 11, 219, 224, 50, 58, 10, 73, 6, 36, 92, 194, 211, 172, 98, 145, 149, 228, 121, 231, 200, 55, 109, 141, 213, 78, 169, 108, 86, 244, 234, 101, 122, 174, 8, 186, 120, 37, 46, 28, 166, 180, 198, 232, 221, 116, 31, 75, 189, 139, 138, 112, 62, 181, 102, 72, 3, 246, 14, 97, 53, 87, 185, 134, 193, 29, 158, 225, 248, 152, 17, 105, 217, 142, 148, 155, 30, 135, 233, 206, 85, 40, 223, 140, 161, 137, 13, 191, 230, 66, 104, 65, 153, 45, 15, 176, 84, 187, 22]
def sinL : List Int32 := [(-680876936), (-389564586), 606105819, (-1044525330), (-176418897), 1200080426, (-1473231341), (-45705983), 1770035416, (-1958414417), (-42063), (-1990404162), 1804603682, (-40341101), (-1502002290), 1236535329, (-165796510), (-1069501632), 643717713, (-373897302), (-701558691), 38016083, (-660478335), (-405537848), 568446438, (-1019803690), (-187363961), 1163531501, (-1444681467), (-51403784), 1735328473, (-1926607734), (-378558), (-2022574463), 1839030562, (-35309556), (-1530992060), 1272893353, (-155497632), (-1094730640), 681279174, (-358537222), (-722521979), 76029189, (-640364487), (-421815835), 530742520, (-995338651), (-198630844), 1126891415, (-1416354905), (-57434055), 1700485571, (-1894986606), (-1051523), (-2054922799), 1873313359, (-30611744), (-1560198380), 1309151649, (-145523070), (-1120210379), 718787259, (-343485551)]
def turL : List Int32 := [7, 12, 17, 22, 5, 9, 14, 20, 4, 11, 16, 23, 6, 10, 15, 21]
def padL : List Int32 := [40, 191, 78, 94, 78, 117, 138, 65, 100, 0, 78, 86, 255, 250, 1, 8, 46, 46, 0, 182, 208, 104, 62, 128, 47, 12, 169, 254, 100, 83, 105, 122]
def tabf (l : List Int32) : Nat → Int32 := fun i => l.getD i 0
def zts : List (String × String × Nat × (Nat → Int32)) := [("SheetKeys$Blocks", "SWAPS", 256, tabf swL), ("SheetKeys$Hasher", "SINES", 64, tabf sinL), ("SheetKeys$Hasher", "TURNS", 16, tabf turL), ("SheetKeys$Handler", "PAD", 32, tabf padL)]
end
section
/-! THE LAYER. A world is a function from cell numbers to contents; a reference is a cell number; the addresses are a map ad of the launch's own. Az: the machine, at a program counter with locals L, operand stack st and world w, comes to the end that its context asks for. Every row below turns Az at an instruction into Az behind it. -/
def tb_ : List Cond := lw_tbl.filter goodWord
abbrev Cel : Type := (Nat × (Nat → Int32)) ⊕ (Nat × List Value) ⊕ (Nat × (Nat → Int64))
abbrev Wo : Type := Nat → Cel
abbrev Ge : Type := (Nat → Nat) × va_G × ClassId × ClassId
abbrev Mi : Type := MethodName × ByteArray × Nat × Option FieldType × Nat × Room
abbrev Ct : Type := Program × Launch × Env × State × MethodId × Array Value × List Frame × Method × Code × (Nat → Prop) × (State → Prop)
abbrev Lo : Type := List (Option Value)
abbrev ia (n : Nat) (f : Nat → Int32) : Cel := .inl (n, f)
abbrev ob (ci : Nat) (fs : List Value) : Cel := .inr (.inl (ci, fs))
abbrev la (n : Nat) (f : Nat → Int64) : Cel := .inr (.inr (n, f))
def NW : Nat := 60
def cv (g : Ge) : Value → Value
  | .ref k => .ref (g.1 k)
  | v => v
def ce (g : Ge) : Cel → va_E
  | .inl (n, f) => .inl (g.2.2.1, n, .inl f)
  | .inr (.inl (ci, fs)) => .inr (ci, fs.map (cv g))
  | .inr (.inr (n, f)) => .inl (g.2.2.2, n, .inr (.inl f))
def wl (g : Ge) (w : Wo) : va_W := (List.range NW).map (fun k => (g.1 k, ce g (w k)))
def wset (w : Wo) (a : Nat) (c : Cel) : Wo := fun j => if j = a then c else w j
theorem ws_eq {w : Wo} {a : Nat} {c : Cel} : wset w a c a = c := if_pos rfl
theorem ws_ne {w : Wo} {a j : Nat} {c v : Cel} (h : j ≠ a) (e : w j = v) : wset w a c j = v := (if_neg h).trans e
theorem ws_same {w : Wo} {a : Nat} {c d : Cel} : wset (wset w a c) a d = wset w a d := by
  funext j
  simp only [wset]
  split <;> rfl
theorem ws_comm {w : Wo} {a b : Nat} {c d : Cel} (h : a ≠ b) : wset (wset w b c) a d = wset (wset w a d) b c := by
  funext j
  simp only [wset]
  by_cases h1 : j = a
  · subst h1
    rw [if_pos rfl, if_neg h, if_pos rfl]
  · rw [if_neg h1]
    by_cases h2 : j = b
    · rw [if_pos h2, if_pos h2]
    · rw [if_neg h2, if_neg h2, if_neg h1]
theorem ws_self {w : Wo} {a : Nat} {c : Cel} (h : w a = c) : wset w a c = w := by
  funext j
  simp only [wset]
  split
  · next e => rw [e, h]
  · rfl
theorem wl_get (g : Ge) (w : Wo) {a : Nat} (h : a < NW) : (wl g w)[a]? = some (g.1 a, ce g (w a)) := by
  unfold wl
  rw [List.getElem?_map, List.getElem?_range h]
  rfl
theorem wl_len (g : Ge) (w : Wo) : (wl g w).length = NW := by simp [wl]
theorem wl_set (g : Ge) (w : Wo) {a : Nat} (c : Cel) (h : a < NW) : (wl g w).set a (g.1 a, ce g c) = wl g (wset w a c) := by
  apply List.ext_getElem?
  intro i
  by_cases hi : i < NW
  · by_cases e : i = a
    · subst e
      rw [List.getElem?_set_self (by rw [wl_len]; exact hi), wl_get g _ hi, ws_eq]
    · rw [List.getElem?_set_ne (Ne.symm e), wl_get g _ hi, wl_get g _ hi, ws_ne e rfl]
  · rw [List.getElem?_eq_none (by rw [List.length_set, wl_len]; omega), List.getElem?_eq_none (by rw [wl_len]; omega)]
/-- the addresses are what va_D speaks of -/
theorem wl_D {g : Ge} {w w' : Wo} {A : Nat → Prop} (h : va_D A (wl g w)) : va_D A (wl g w') := by
  have key : ∀ (k : Nat) (q : Nat × va_E), (wl g w')[k]? = some q → ∃ q0, (wl g w)[k]? = some q0 ∧ q0.1 = q.1 := by
    intro k q hq
    have hk : k < NW := by
      have := (List.getElem?_eq_some_iff.mp hq).1
      rwa [wl_len] at this
    rw [wl_get g w' hk] at hq
    cases hq
    exact ⟨_, wl_get g w hk, rfl⟩
  refine ⟨fun i j p q hp hq hpq => ?_, fun k q hq => ?_⟩
  · obtain ⟨p0, h1, h2⟩ := key i p hp
    obtain ⟨q0, h3, h4⟩ := key j q hq
    exact h.1 i j p0 q0 h1 h3 (h2.trans (hpq.trans h4.symm))
  · obtain ⟨q0, h1, h2⟩ := key k q hq
    rw [← h2]
    exact h.2 k q0 h1
theorem wl_A {g : Ge} {w w' : Wo} {sz q : Nat} (h : va_A (wl g w) sz q) : va_A (wl g w') sz q := by
  rcases h with ⟨k, e, hk⟩ | h
  · have hn : k < NW := by
      have := (List.getElem?_eq_some_iff.mp hk).1
      rwa [wl_len] at this
    rw [wl_get g w hn] at hk
    cases hk
    exact Or.inl ⟨k, _, wl_get g w' hn⟩
  · exact Or.inr h
-- locals
def lcv (g : Ge) : Nat → Lo → List (Nat × Value)
  | _, [] => []
  | i, none :: t => lcv g (i + 1) t
  | i, some v :: t => (i, cv g v) :: lcv g (i + 1) t
theorem mem_lcv (g : Ge) : ∀ (L : Lo) (i : Nat) (q : Nat × Value), q ∈ lcv g i L ↔ ∃ (k : Nat) (v : Value), L[k]? = some (some v) ∧ q = (i + k, cv g v)
  | [], i, q => by simp [lcv]
  | none :: t, i, q => by
    rw [lcv, mem_lcv g t (i + 1) q]
    constructor
    · rintro ⟨k, v, h1, h2⟩
      exact ⟨k + 1, v, by simpa using h1, by rw [h2]; congr 1; omega⟩
    · rintro ⟨k, v, h1, h2⟩
      cases k with
      | zero => simp at h1
      | succ k => exact ⟨k, v, by simpa using h1, by rw [h2]; congr 1; omega⟩
  | some u :: t, i, q => by
    rw [lcv, List.mem_cons, mem_lcv g t (i + 1) q]
    constructor
    · rintro (h | ⟨k, v, h1, h2⟩)
      · exact ⟨0, u, rfl, by rw [h]; rfl⟩
      · exact ⟨k + 1, v, by simpa using h1, by rw [h2]; congr 1; omega⟩
    · rintro ⟨k, v, h1, h2⟩
      cases k with
      | zero =>
        simp at h1
        subst h1
        exact Or.inl h2
      | succ k => exact Or.inr ⟨k, v, by simpa using h1, by rw [h2]; congr 1; omega⟩
def lh (g : Ge) (ls : Array Slot) (nL : Nat) (L : Lo) : Prop := lv_has ls nL (lcv g 0 L) ∧ ∀ (k : Nat) (v : Value), L[k]? = some (some v) → v.category = 1
theorem cv_cat (g : Ge) (v : Value) : (cv g v).category = v.category := by cases v <;> rfl
theorem lh_at {g : Ge} {ls : Array Slot} {nL : Nat} {L : Lo} (h : lh g ls nL L) {i : Nat} {v : Value} (hi : L[i]? = some (some v)) : ls[i]? = some (.val (cv g v)) := by
  have := h.1.2.2 (0 + i, cv g v) ((mem_lcv g L 0 _).mpr ⟨i, v, hi, rfl⟩)
  simpa using this
theorem lh_store {g : Ge} {ls ls' : Array Slot} {nL : Nat} {L : Lo} (h : lh g ls nL L) {i : Nat} {v : Value} (hc : v.category = 1)
    (h' : lv_has ls' nL ((i, cv g v) :: (lcv g 0 L).filter (fun q => !(q.1 == i) && !(q.1 + 1 == i && q.2.category == 2)))) : lh g ls' nL (L.set i (some v)) := by
  refine ⟨⟨h'.1, h'.2.1, fun q hq => h'.2.2 q ?_⟩, fun k u hk => ?_⟩
  · obtain ⟨k, u, h1, h2⟩ := (mem_lcv g _ 0 q).mp hq
    by_cases e : k = i
    · subst e
      rw [List.getElem?_set] at h1
      simp at h1
      obtain ⟨-, h1⟩ := h1
      subst h1
      rw [h2]
      simp
    · rw [List.getElem?_set_ne (Ne.symm e)] at h1
      refine List.mem_cons_of_mem _ (List.mem_filter.mpr ⟨(mem_lcv g L 0 q).mpr ⟨k, u, h1, h2⟩, ?_⟩)
      have hu := h.2 k u h1
      rw [h2]
      simp [cv_cat, hu, e]
  · by_cases e : k = i
    · subst e
      rw [List.getElem?_set] at hk
      simp at hk
      rw [← hk.2]
      exact hc
    · rw [List.getElem?_set_ne (Ne.symm e)] at hk
      exact h.2 k u hk
/-- forgetting locals -/
def wk : Lo → Lo → Prop
  | [], [] => True
  | a :: l, b :: l' => (b = none ∨ a = b) ∧ wk l l'
  | _, _ => False
theorem wk_at : ∀ {L L' : Lo}, wk L L' → ∀ {k : Nat} {v : Value}, L'[k]? = some (some v) → L[k]? = some (some v)
  | [], [], _, k, v, h => by simp at h
  | a :: l, b :: l', ⟨h1, h2⟩, k, v, h => by
    cases k with
    | zero =>
      simp at h
      subst h
      rcases h1 with h1 | h1
      · cases h1
      · rw [h1]; rfl
    | succ k => exact wk_at h2 (by simpa using h)
  | [], _ :: _, h, _, _, _ => h.elim
  | _ :: _, [], h, _, _, _ => h.elim
theorem lh_wk {g : Ge} {ls : Array Slot} {nL : Nat} {L L' : Lo} (h : lh g ls nL L) (k : wk L L') : lh g ls nL L' := by
  refine ⟨⟨h.1.1, h.1.2.1, fun q hq => h.1.2.2 q ?_⟩, fun j v hj => h.2 j v (wk_at k hj)⟩
  obtain ⟨j, v, h1, h2⟩ := (mem_lcv g L' 0 q).mp hq
  exact (mem_lcv g L 0 q).mpr ⟨j, v, wk_at k h1, h2⟩
-- static tables: 4 of them, cells 900 ..
abbrev Zt : Type := String × String × Nat × (Nat → Int32)


def Zx (g : Ge) (A : Nat → Prop) (U : State) : Prop := ∀ (j : Nat) (z : Zt), zts[j]? = some z → va_Z z.1 z.2.1 "[I" (.ref (g.1 (900 + j))) A U U.heap ∧ va_T .int (g.1 (900 + j)) z.2.2.1 (fun i => .int (z.2.2.2 i)) A U U.heap
def Kx (g : Ge) (U : State) : Prop := va_K g.2.1 vwCl [(g.2.2.1, .int), (g.2.2.2, .long)] U
/-- what a method's body stands in -/
def Cx (g : Ge) (q : Mi) : Ct → Prop
  | (p, _, _, s, m, args, _, meth, c, A, _) => p.tables.exec = Jvm.exec ∧ c.code = q.2.1 ∧ c.maxLocals = q.2.2.1 ∧ s.vm.findClass q.1.cls = some m.cls ∧ (∀ w ∈ tb_, w.before args s = true) ∧ Kx g s ∧ Zx g A s ∧ (∀ k : Nat, s.heap.size ≤ k → A k) ∧ meth.sig.returnType = q.2.2.2.1 ∧ meth.locks = false
def Az (g : Ge) (q : Mi) : Ct → Nat → Nat → Nat → Lo → List Value → Wo → Prop
  | (p, l, e, s, m, args, below, meth, c, A, Q), k, n, pc, L, st, w => ∀ (H : Heap) (locs : List Loc) (ls : Array Slot), va_P g.2.1 vwCl (wl g w) H → va_D A (wl g w) → va_S A s.heap H locs → lh g ls q.2.2.1 L → W p l e q.2.2.2.2.2 s m args below meth c H locs k n Q (F0 m pc ls (st.map (cv g)))
def wsq (q : Mi) : List Cond := .code q.1 q.2.1 q.2.2.1 q.2.2.2.1 :: tb_
section Rows
variable {g : Ge} {q : Mi} {ct : Ct} {k n pc : Nat} {L : Lo} {st : List Value} {w : Wo}
theorem r_forget (L' : Lo) (h : wk L L') (kk : Az g q ct k n pc L' st w) : Az g q ct k n pc L st w := by
  obtain ⟨p, l, e, s, m, args, below, meth, c, A, Q⟩ := ct
  intro H locs ls hP hD hS hL
  exact kk H locs ls hP hD hS (lh_wk hL h)
theorem r_eq {L' : Lo} {st' : List Value} {w' : Wo} (h1 : L = L') (h2 : st = st') (h3 : w = w') (kk : Az g q ct k n pc L' st' w') : Az g q ct k n pc L st w := by
  subst h1; subst h2; subst h3
  exact kk
theorem r_top {x y : Int32} (h : x = y) (kk : Az g q ct k n pc L (.int y :: st) w) : Az g q ct k n pc L (.int x :: st) w := by
  subst h
  exact kk

theorem r_iconst (C : Cx g q ct) {i : Int} {v : Int32} (hd : decode q.2.1 pc = .ok (.iconst i, 1)) (hv : Int32.ofInt i = v) (kk : Az g q ct k n (pc + 1) L (.int v :: st) w) : Az g q ct k n pc L (st) w := by
  obtain ⟨p, l, e, s, m, args, below, meth, c, A, Q⟩ := ct
  obtain ⟨hx, hb, hml, hown, hts, hK, hZ, hA, hr, hlk⟩ := C
  intro H locs ls hP hD hS hL
  exact lv_iconst hx hb hd hv (kk H locs ls hP hD hS hL)
theorem r_bipush (C : Cx g q ct) {i : Int} {v : Int32} (hd : decode q.2.1 pc = .ok (.bipush i, 2)) (hv : (Int8.ofInt i).toInt32 = v) (kk : Az g q ct k n (pc + 2) L (.int v :: st) w) : Az g q ct k n pc L (st) w := by
  obtain ⟨p, l, e, s, m, args, below, meth, c, A, Q⟩ := ct
  obtain ⟨hx, hb, hml, hown, hts, hK, hZ, hA, hr, hlk⟩ := C
  intro H locs ls hP hD hS hL
  exact lv_bipush hx hb hd hv (kk H locs ls hP hD hS hL)
theorem r_sipush (C : Cx g q ct) {i : Int} {v : Int32} (hd : decode q.2.1 pc = .ok (.sipush i, 3)) (hv : (Int16.ofInt i).toInt32 = v) (kk : Az g q ct k n (pc + 3) L (.int v :: st) w) : Az g q ct k n pc L (st) w := by
  obtain ⟨p, l, e, s, m, args, below, meth, c, A, Q⟩ := ct
  obtain ⟨hx, hb, hml, hown, hts, hK, hZ, hA, hr, hlk⟩ := C
  intro H locs ls hP hD hS hL
  exact lv_sipush hx hb hd hv (kk H locs ls hP hD hS hL)
theorem r_ldc (C : Cx g q ct) {i : Nat} {v : Int32} (hd : decode q.2.1 pc = .ok (.ldc i, 2)) (hc : Cond.constant q.1.cls i v ∈ tb_) (kk : Az g q ct k n (pc + 2) L (.int v :: st) w) : Az g q ct k n pc L (st) w := by
  obtain ⟨p, l, e, s, m, args, below, meth, c, A, Q⟩ := ct
  obtain ⟨hx, hb, hml, hown, hts, hK, hZ, hA, hr, hlk⟩ := C
  intro H locs ls hP hD hS hL
  exact lv_ldc hx hb hown (hts _ hc) hd (kk H locs ls hP hD hS hL)
theorem r_iload_n (C : Cx g q ct) {j : Fin 4} {x : Int32} (hd : decode q.2.1 pc = .ok (.iload_n j, 1)) (hl : L[(j : Nat)]? = some (some (.int x))) (kk : Az g q ct k n (pc + 1) L (.int x :: st) w) : Az g q ct k n pc L (st) w := by
  obtain ⟨p, l, e, s, m, args, below, meth, c, A, Q⟩ := ct
  obtain ⟨hx, hb, hml, hown, hts, hK, hZ, hA, hr, hlk⟩ := C
  intro H locs ls hP hD hS hL
  exact lv_iload_n hx hb hd rfl (lh_at hL hl) (kk H locs ls hP hD hS hL)
theorem r_iload (C : Cx g q ct) {j : Nat} {x : Int32} (hd : decode q.2.1 pc = .ok (.iload j, 2)) (hl : L[j]? = some (some (.int x))) (kk : Az g q ct k n (pc + 2) L (.int x :: st) w) : Az g q ct k n pc L (st) w := by
  obtain ⟨p, l, e, s, m, args, below, meth, c, A, Q⟩ := ct
  obtain ⟨hx, hb, hml, hown, hts, hK, hZ, hA, hr, hlk⟩ := C
  intro H locs ls hP hD hS hL
  exact lv_iload hx hb hd (lh_at hL hl) (kk H locs ls hP hD hS hL)
theorem r_aload_n (C : Cx g q ct) {j : Fin 4} {x : Nat} (hd : decode q.2.1 pc = .ok (.aload_n j, 1)) (hl : L[(j : Nat)]? = some (some (.ref x))) (kk : Az g q ct k n (pc + 1) L (.ref x :: st) w) : Az g q ct k n pc L (st) w := by
  obtain ⟨p, l, e, s, m, args, below, meth, c, A, Q⟩ := ct
  obtain ⟨hx, hb, hml, hown, hts, hK, hZ, hA, hr, hlk⟩ := C
  intro H locs ls hP hD hS hL
  exact lv_aload_n hx hb hd rfl (lh_at hL hl) (kk H locs ls hP hD hS hL)
theorem r_aload (C : Cx g q ct) {j : Nat} {x : Nat} (hd : decode q.2.1 pc = .ok (.aload j, 2)) (hl : L[j]? = some (some (.ref x))) (kk : Az g q ct k n (pc + 2) L (.ref x :: st) w) : Az g q ct k n pc L (st) w := by
  obtain ⟨p, l, e, s, m, args, below, meth, c, A, Q⟩ := ct
  obtain ⟨hx, hb, hml, hown, hts, hK, hZ, hA, hr, hlk⟩ := C
  intro H locs ls hP hD hS hL
  exact lv_aload hx hb hd (lh_at hL hl) (kk H locs ls hP hD hS hL)
theorem r_istore_n (C : Cx g q ct) {j : Fin 4} {x : Int32} {L' : Lo} (hd : decode q.2.1 pc = .ok (.istore_n j, 1)) (hj : (j : Nat) < q.2.2.1) (hl : L.set (j : Nat) (some (.int x)) = L') (kk : Az g q ct k n (pc + 1) L' st w) : Az g q ct k n pc L (.int x :: st) w := by
  subst hl
  obtain ⟨p, l, e, s, m, args, below, meth, c, A, Q⟩ := ct
  obtain ⟨hx, hb, hml, hown, hts, hK, hZ, hA, hr, hlk⟩ := C
  intro H locs ls hP hD hS hL
  exact lv_istore_n hx hb hd rfl hL.1 hj rfl (fun ls' hl' => kk H locs ls' hP hD hS (lh_store hL rfl hl'))
theorem r_istore (C : Cx g q ct) {j : Nat} {x : Int32} {L' : Lo} (hd : decode q.2.1 pc = .ok (.istore j, 2)) (hj : j < q.2.2.1) (hl : L.set j (some (.int x)) = L') (kk : Az g q ct k n (pc + 2) L' st w) : Az g q ct k n pc L (.int x :: st) w := by
  subst hl
  obtain ⟨p, l, e, s, m, args, below, meth, c, A, Q⟩ := ct
  obtain ⟨hx, hb, hml, hown, hts, hK, hZ, hA, hr, hlk⟩ := C
  intro H locs ls hP hD hS hL
  exact lv_istore hx hb hd hL.1 hj rfl (fun ls' hl' => kk H locs ls' hP hD hS (lh_store hL rfl hl'))
theorem r_astore_n (C : Cx g q ct) {j : Fin 4} {x : Nat} {L' : Lo} (hd : decode q.2.1 pc = .ok (.astore_n j, 1)) (hj : (j : Nat) < q.2.2.1) (hl : L.set (j : Nat) (some (.ref x)) = L') (kk : Az g q ct k n (pc + 1) L' st w) : Az g q ct k n pc L (.ref x :: st) w := by
  subst hl
  obtain ⟨p, l, e, s, m, args, below, meth, c, A, Q⟩ := ct
  obtain ⟨hx, hb, hml, hown, hts, hK, hZ, hA, hr, hlk⟩ := C
  intro H locs ls hP hD hS hL
  exact lv_astore_n hx hb hd rfl hL.1 hj rfl (fun ls' hl' => kk H locs ls' hP hD hS (lh_store hL rfl hl'))
theorem r_astore (C : Cx g q ct) {j : Nat} {x : Nat} {L' : Lo} (hd : decode q.2.1 pc = .ok (.astore j, 2)) (hj : j < q.2.2.1) (hl : L.set j (some (.ref x)) = L') (kk : Az g q ct k n (pc + 2) L' st w) : Az g q ct k n pc L (.ref x :: st) w := by
  subst hl
  obtain ⟨p, l, e, s, m, args, below, meth, c, A, Q⟩ := ct
  obtain ⟨hx, hb, hml, hown, hts, hK, hZ, hA, hr, hlk⟩ := C
  intro H locs ls hP hD hS hL
  exact lv_astore hx hb hd hL.1 hj rfl (fun ls' hl' => kk H locs ls' hP hD hS (lh_store hL rfl hl'))
theorem r_iinc (C : Cx g q ct) {j : Nat} {i : Int} {x v : Int32} {L' : Lo} (hd : decode q.2.1 pc = .ok (.iinc j i, 3)) (hi : L[j]? = some (some (.int x))) (hv : x + Int32.ofInt i = v) (hj : j < q.2.2.1) (hl : L.set j (some (.int v)) = L') (kk : Az g q ct k n (pc + 3) L' st w) : Az g q ct k n pc L st w := by
  subst hl
  obtain ⟨p, l, e, s, m, args, below, meth, c, A, Q⟩ := ct
  obtain ⟨hx, hb, hml, hown, hts, hK, hZ, hA, hr, hlk⟩ := C
  intro H locs ls hP hD hS hL
  obtain ⟨b, hb1⟩ := List.getElem?_of_mem ((mem_lcv g L 0 (0 + j, .int x)).mpr ⟨j, .int x, hi, rfl⟩)
  rw [Nat.zero_add] at hb1
  exact lv_iinc hx hb hd hL.1 hb1 hv hj rfl (fun ls' hl' => kk H locs ls' hP hD hS (lh_store hL rfl hl'))
theorem r_iadd (C : Cx g q ct) {x y : Int32} (hd : decode q.2.1 pc = .ok (.iadd, 1)) (kk : Az g q ct k n (pc + 1) L (.int (x + y) :: st) w) : Az g q ct k n pc L (.int y :: .int x :: st) w := by
  obtain ⟨p, l, e, s, m, args, below, meth, c, A, Q⟩ := ct
  obtain ⟨hx, hb, hml, hown, hts, hK, hZ, hA, hr, hlk⟩ := C
  intro H locs ls hP hD hS hL
  exact lv_iadd hx hb hd (kk H locs ls hP hD hS hL)
theorem r_isub (C : Cx g q ct) {x y : Int32} (hd : decode q.2.1 pc = .ok (.isub, 1)) (kk : Az g q ct k n (pc + 1) L (.int (x - y) :: st) w) : Az g q ct k n pc L (.int y :: .int x :: st) w := by
  obtain ⟨p, l, e, s, m, args, below, meth, c, A, Q⟩ := ct
  obtain ⟨hx, hb, hml, hown, hts, hK, hZ, hA, hr, hlk⟩ := C
  intro H locs ls hP hD hS hL
  exact lv_isub hx hb hd (kk H locs ls hP hD hS hL)
theorem r_imul (C : Cx g q ct) {x y : Int32} (hd : decode q.2.1 pc = .ok (.imul, 1)) (kk : Az g q ct k n (pc + 1) L (.int (x * y) :: st) w) : Az g q ct k n pc L (.int y :: .int x :: st) w := by
  obtain ⟨p, l, e, s, m, args, below, meth, c, A, Q⟩ := ct
  obtain ⟨hx, hb, hml, hown, hts, hK, hZ, hA, hr, hlk⟩ := C
  intro H locs ls hP hD hS hL
  exact lv_imul hx hb hd (kk H locs ls hP hD hS hL)
theorem r_iand (C : Cx g q ct) {x y : Int32} (hd : decode q.2.1 pc = .ok (.iand, 1)) (kk : Az g q ct k n (pc + 1) L (.int (x &&& y) :: st) w) : Az g q ct k n pc L (.int y :: .int x :: st) w := by
  obtain ⟨p, l, e, s, m, args, below, meth, c, A, Q⟩ := ct
  obtain ⟨hx, hb, hml, hown, hts, hK, hZ, hA, hr, hlk⟩ := C
  intro H locs ls hP hD hS hL
  exact lv_iand hx hb hd (kk H locs ls hP hD hS hL)
theorem r_ior (C : Cx g q ct) {x y : Int32} (hd : decode q.2.1 pc = .ok (.ior, 1)) (kk : Az g q ct k n (pc + 1) L (.int (x ||| y) :: st) w) : Az g q ct k n pc L (.int y :: .int x :: st) w := by
  obtain ⟨p, l, e, s, m, args, below, meth, c, A, Q⟩ := ct
  obtain ⟨hx, hb, hml, hown, hts, hK, hZ, hA, hr, hlk⟩ := C
  intro H locs ls hP hD hS hL
  exact lv_ior hx hb hd (kk H locs ls hP hD hS hL)
theorem r_ixor (C : Cx g q ct) {x y : Int32} (hd : decode q.2.1 pc = .ok (.ixor, 1)) (kk : Az g q ct k n (pc + 1) L (.int (x ^^^ y) :: st) w) : Az g q ct k n pc L (.int y :: .int x :: st) w := by
  obtain ⟨p, l, e, s, m, args, below, meth, c, A, Q⟩ := ct
  obtain ⟨hx, hb, hml, hown, hts, hK, hZ, hA, hr, hlk⟩ := C
  intro H locs ls hP hD hS hL
  exact lv_ixor hx hb hd (kk H locs ls hP hD hS hL)
theorem r_ishl (C : Cx g q ct) {x y : Int32} (hd : decode q.2.1 pc = .ok (.ishl, 1)) (kk : Az g q ct k n (pc + 1) L (.int (x <<< (y &&& 31)) :: st) w) : Az g q ct k n pc L (.int y :: .int x :: st) w := by
  obtain ⟨p, l, e, s, m, args, below, meth, c, A, Q⟩ := ct
  obtain ⟨hx, hb, hml, hown, hts, hK, hZ, hA, hr, hlk⟩ := C
  intro H locs ls hP hD hS hL
  exact lv_ishl hx hb hd (kk H locs ls hP hD hS hL)
theorem r_ishr (C : Cx g q ct) {x y : Int32} (hd : decode q.2.1 pc = .ok (.ishr, 1)) (kk : Az g q ct k n (pc + 1) L (.int (x >>> (y &&& 31)) :: st) w) : Az g q ct k n pc L (.int y :: .int x :: st) w := by
  obtain ⟨p, l, e, s, m, args, below, meth, c, A, Q⟩ := ct
  obtain ⟨hx, hb, hml, hown, hts, hK, hZ, hA, hr, hlk⟩ := C
  intro H locs ls hP hD hS hL
  exact lv_ishr hx hb hd (kk H locs ls hP hD hS hL)
theorem r_iushr (C : Cx g q ct) {x y : Int32} (hd : decode q.2.1 pc = .ok (.iushr, 1)) (kk : Az g q ct k n (pc + 1) L (.int ((x.toUInt32 >>> (y.toUInt32 &&& Int32.toUInt32 31)).toInt32) :: st) w) : Az g q ct k n pc L (.int y :: .int x :: st) w := by
  obtain ⟨p, l, e, s, m, args, below, meth, c, A, Q⟩ := ct
  obtain ⟨hx, hb, hml, hown, hts, hK, hZ, hA, hr, hlk⟩ := C
  intro H locs ls hP hD hS hL
  exact lv_iushr hx hb hd rfl (kk H locs ls hP hD hS hL)
theorem r_idiv (C : Cx g q ct) {x y : Int32} (hd : decode q.2.1 pc = .ok (.idiv, 1)) (hne : ¬ y = 0) (kk : Az g q ct k n (pc + 1) L (.int (x / y) :: st) w) : Az g q ct k n pc L (.int y :: .int x :: st) w := by
  obtain ⟨p, l, e, s, m, args, below, meth, c, A, Q⟩ := ct
  obtain ⟨hx, hb, hml, hown, hts, hK, hZ, hA, hr, hlk⟩ := C
  intro H locs ls hP hD hS hL
  exact lv_idiv hx hb hd hne (kk H locs ls hP hD hS hL)
theorem r_irem (C : Cx g q ct) {x y : Int32} (hd : decode q.2.1 pc = .ok (.irem, 1)) (hne : ¬ y = 0) (kk : Az g q ct k n (pc + 1) L (.int (x - x / y * y) :: st) w) : Az g q ct k n pc L (.int y :: .int x :: st) w := by
  obtain ⟨p, l, e, s, m, args, below, meth, c, A, Q⟩ := ct
  obtain ⟨hx, hb, hml, hown, hts, hK, hZ, hA, hr, hlk⟩ := C
  intro H locs ls hP hD hS hL
  exact lv_irem hx hb hd hne (kk H locs ls hP hD hS hL)
theorem r_dup (C : Cx g q ct) {v : Value} (hd : decode q.2.1 pc = .ok (.dup, 1)) (hc : v.category = 1) (kk : Az g q ct k n (pc + 1) L (v :: v :: st) w) : Az g q ct k n pc L (v :: st) w := by
  obtain ⟨p, l, e, s, m, args, below, meth, c, A, Q⟩ := ct
  obtain ⟨hx, hb, hml, hown, hts, hK, hZ, hA, hr, hlk⟩ := C
  intro H locs ls hP hD hS hL
  exact lv_dup hx hb hd ((cv_cat g v).trans hc) (kk H locs ls hP hD hS hL)
theorem r_dup2 (C : Cx g q ct) {v u : Value} (hd : decode q.2.1 pc = .ok (.dup2, 1)) (hc : v.category = 1) (hc2 : u.category = 1) (kk : Az g q ct k n (pc + 1) L (v :: u :: v :: u :: st) w) : Az g q ct k n pc L (v :: u :: st) w := by
  obtain ⟨p, l, e, s, m, args, below, meth, c, A, Q⟩ := ct
  obtain ⟨hx, hb, hml, hown, hts, hK, hZ, hA, hr, hlk⟩ := C
  intro H locs ls hP hD hS hL
  exact lv_dup2_11 hx hb hd ((cv_cat g v).trans hc) ((cv_cat g u).trans hc2) (kk H locs ls hP hD hS hL)
theorem r_pop (C : Cx g q ct) {v : Value} (hd : decode q.2.1 pc = .ok (.pop, 1)) (hc : v.category = 1) (kk : Az g q ct k n (pc + 1) L (st) w) : Az g q ct k n pc L (v :: st) w := by
  obtain ⟨p, l, e, s, m, args, below, meth, c, A, Q⟩ := ct
  obtain ⟨hx, hb, hml, hown, hts, hK, hZ, hA, hr, hlk⟩ := C
  intro H locs ls hP hD hS hL
  exact lv_pop hx hb hd ((cv_cat g v).trans hc) (kk H locs ls hP hD hS hL)
theorem r_icmp_eq (C : Cx g q ct) {x y : Int32} {off : Int} (tgt : Nat) (hd : decode q.2.1 pc = .ok (.if_icmp .eq off, 3)) (ht : (pc : Int) + off = (tgt : Int)) (kt : x = y → Az g q ct k n tgt L st w) (kf : ¬ (x = y) → Az g q ct k n (pc + 3) L st w) : Az g q ct k n pc L (.int y :: .int x :: st) w := by
  obtain ⟨p, l, e, s, m, args, below, meth, c, A, Q⟩ := ct
  obtain ⟨hx, hb, hml, hown, hts, hK, hZ, hA, hr, hlk⟩ := C
  intro H locs ls hP hD hS hL
  exact lv_icmp_eq hx hb hd ht (fun h => kt h H locs ls hP hD hS hL) (fun h => kf h H locs ls hP hD hS hL)
theorem r_icmp_ne (C : Cx g q ct) {x y : Int32} {off : Int} (tgt : Nat) (hd : decode q.2.1 pc = .ok (.if_icmp .ne off, 3)) (ht : (pc : Int) + off = (tgt : Int)) (kt : ¬ x = y → Az g q ct k n tgt L st w) (kf : x = y → Az g q ct k n (pc + 3) L st w) : Az g q ct k n pc L (.int y :: .int x :: st) w := by
  obtain ⟨p, l, e, s, m, args, below, meth, c, A, Q⟩ := ct
  obtain ⟨hx, hb, hml, hown, hts, hK, hZ, hA, hr, hlk⟩ := C
  intro H locs ls hP hD hS hL
  exact lv_icmp_ne hx hb hd ht (fun h => kt h H locs ls hP hD hS hL) (fun h => kf h H locs ls hP hD hS hL)
theorem r_icmp_lt (C : Cx g q ct) {x y : Int32} {off : Int} (tgt : Nat) (hd : decode q.2.1 pc = .ok (.if_icmp .lt off, 3)) (ht : (pc : Int) + off = (tgt : Int)) (kt : x < y → Az g q ct k n tgt L st w) (kf : ¬ (x < y) → Az g q ct k n (pc + 3) L st w) : Az g q ct k n pc L (.int y :: .int x :: st) w := by
  obtain ⟨p, l, e, s, m, args, below, meth, c, A, Q⟩ := ct
  obtain ⟨hx, hb, hml, hown, hts, hK, hZ, hA, hr, hlk⟩ := C
  intro H locs ls hP hD hS hL
  exact lv_icmp_lt hx hb hd ht (fun h => kt h H locs ls hP hD hS hL) (fun h => kf h H locs ls hP hD hS hL)
theorem r_icmp_ge (C : Cx g q ct) {x y : Int32} {off : Int} (tgt : Nat) (hd : decode q.2.1 pc = .ok (.if_icmp .ge off, 3)) (ht : (pc : Int) + off = (tgt : Int)) (kt : y ≤ x → Az g q ct k n tgt L st w) (kf : ¬ (y ≤ x) → Az g q ct k n (pc + 3) L st w) : Az g q ct k n pc L (.int y :: .int x :: st) w := by
  obtain ⟨p, l, e, s, m, args, below, meth, c, A, Q⟩ := ct
  obtain ⟨hx, hb, hml, hown, hts, hK, hZ, hA, hr, hlk⟩ := C
  intro H locs ls hP hD hS hL
  exact lv_icmp_ge hx hb hd ht (fun h => kt h H locs ls hP hD hS hL) (fun h => kf h H locs ls hP hD hS hL)
theorem r_icmp_gt (C : Cx g q ct) {x y : Int32} {off : Int} (tgt : Nat) (hd : decode q.2.1 pc = .ok (.if_icmp .gt off, 3)) (ht : (pc : Int) + off = (tgt : Int)) (kt : y < x → Az g q ct k n tgt L st w) (kf : ¬ (y < x) → Az g q ct k n (pc + 3) L st w) : Az g q ct k n pc L (.int y :: .int x :: st) w := by
  obtain ⟨p, l, e, s, m, args, below, meth, c, A, Q⟩ := ct
  obtain ⟨hx, hb, hml, hown, hts, hK, hZ, hA, hr, hlk⟩ := C
  intro H locs ls hP hD hS hL
  exact lv_icmp_gt hx hb hd ht (fun h => kt h H locs ls hP hD hS hL) (fun h => kf h H locs ls hP hD hS hL)
theorem r_icmp_le (C : Cx g q ct) {x y : Int32} {off : Int} (tgt : Nat) (hd : decode q.2.1 pc = .ok (.if_icmp .le off, 3)) (ht : (pc : Int) + off = (tgt : Int)) (kt : x ≤ y → Az g q ct k n tgt L st w) (kf : ¬ (x ≤ y) → Az g q ct k n (pc + 3) L st w) : Az g q ct k n pc L (.int y :: .int x :: st) w := by
  obtain ⟨p, l, e, s, m, args, below, meth, c, A, Q⟩ := ct
  obtain ⟨hx, hb, hml, hown, hts, hK, hZ, hA, hr, hlk⟩ := C
  intro H locs ls hP hD hS hL
  exact lv_icmp_le hx hb hd ht (fun h => kt h H locs ls hP hD hS hL) (fun h => kf h H locs ls hP hD hS hL)
theorem r_if_eq (C : Cx g q ct) {x : Int32} {off : Int} (tgt : Nat) (hd : decode q.2.1 pc = .ok (.ifCond .eq off, 3)) (ht : (pc : Int) + off = (tgt : Int)) (kt : x = 0 → Az g q ct k n tgt L st w) (kf : ¬ (x = 0) → Az g q ct k n (pc + 3) L st w) : Az g q ct k n pc L (.int x :: st) w := by
  obtain ⟨p, l, e, s, m, args, below, meth, c, A, Q⟩ := ct
  obtain ⟨hx, hb, hml, hown, hts, hK, hZ, hA, hr, hlk⟩ := C
  intro H locs ls hP hD hS hL
  exact lv_if_eq hx hb hd ht (fun h => kt h H locs ls hP hD hS hL) (fun h => kf h H locs ls hP hD hS hL)
theorem r_if_ne (C : Cx g q ct) {x : Int32} {off : Int} (tgt : Nat) (hd : decode q.2.1 pc = .ok (.ifCond .ne off, 3)) (ht : (pc : Int) + off = (tgt : Int)) (kt : ¬ x = 0 → Az g q ct k n tgt L st w) (kf : x = 0 → Az g q ct k n (pc + 3) L st w) : Az g q ct k n pc L (.int x :: st) w := by
  obtain ⟨p, l, e, s, m, args, below, meth, c, A, Q⟩ := ct
  obtain ⟨hx, hb, hml, hown, hts, hK, hZ, hA, hr, hlk⟩ := C
  intro H locs ls hP hD hS hL
  exact lv_if_ne hx hb hd ht (fun h => kt h H locs ls hP hD hS hL) (fun h => kf h H locs ls hP hD hS hL)
theorem r_if_lt (C : Cx g q ct) {x : Int32} {off : Int} (tgt : Nat) (hd : decode q.2.1 pc = .ok (.ifCond .lt off, 3)) (ht : (pc : Int) + off = (tgt : Int)) (kt : x < 0 → Az g q ct k n tgt L st w) (kf : ¬ (x < 0) → Az g q ct k n (pc + 3) L st w) : Az g q ct k n pc L (.int x :: st) w := by
  obtain ⟨p, l, e, s, m, args, below, meth, c, A, Q⟩ := ct
  obtain ⟨hx, hb, hml, hown, hts, hK, hZ, hA, hr, hlk⟩ := C
  intro H locs ls hP hD hS hL
  exact lv_if_lt hx hb hd ht (fun h => kt h H locs ls hP hD hS hL) (fun h => kf h H locs ls hP hD hS hL)
theorem r_if_ge (C : Cx g q ct) {x : Int32} {off : Int} (tgt : Nat) (hd : decode q.2.1 pc = .ok (.ifCond .ge off, 3)) (ht : (pc : Int) + off = (tgt : Int)) (kt : 0 ≤ x → Az g q ct k n tgt L st w) (kf : ¬ (0 ≤ x) → Az g q ct k n (pc + 3) L st w) : Az g q ct k n pc L (.int x :: st) w := by
  obtain ⟨p, l, e, s, m, args, below, meth, c, A, Q⟩ := ct
  obtain ⟨hx, hb, hml, hown, hts, hK, hZ, hA, hr, hlk⟩ := C
  intro H locs ls hP hD hS hL
  exact lv_if_ge hx hb hd ht (fun h => kt h H locs ls hP hD hS hL) (fun h => kf h H locs ls hP hD hS hL)
theorem r_if_gt (C : Cx g q ct) {x : Int32} {off : Int} (tgt : Nat) (hd : decode q.2.1 pc = .ok (.ifCond .gt off, 3)) (ht : (pc : Int) + off = (tgt : Int)) (kt : 0 < x → Az g q ct k n tgt L st w) (kf : ¬ (0 < x) → Az g q ct k n (pc + 3) L st w) : Az g q ct k n pc L (.int x :: st) w := by
  obtain ⟨p, l, e, s, m, args, below, meth, c, A, Q⟩ := ct
  obtain ⟨hx, hb, hml, hown, hts, hK, hZ, hA, hr, hlk⟩ := C
  intro H locs ls hP hD hS hL
  exact lv_if_gt hx hb hd ht (fun h => kt h H locs ls hP hD hS hL) (fun h => kf h H locs ls hP hD hS hL)
theorem r_if_le (C : Cx g q ct) {x : Int32} {off : Int} (tgt : Nat) (hd : decode q.2.1 pc = .ok (.ifCond .le off, 3)) (ht : (pc : Int) + off = (tgt : Int)) (kt : x ≤ 0 → Az g q ct k n tgt L st w) (kf : ¬ (x ≤ 0) → Az g q ct k n (pc + 3) L st w) : Az g q ct k n pc L (.int x :: st) w := by
  obtain ⟨p, l, e, s, m, args, below, meth, c, A, Q⟩ := ct
  obtain ⟨hx, hb, hml, hown, hts, hK, hZ, hA, hr, hlk⟩ := C
  intro H locs ls hP hD hS hL
  exact lv_if_le hx hb hd ht (fun h => kt h H locs ls hP hD hS hL) (fun h => kf h H locs ls hP hD hS hL)
theorem r_goto (C : Cx g q ct) {off : Int} (tgt : Nat) (hd : decode q.2.1 pc = .ok (.goto off, 3)) (ht : (pc : Int) + off = (tgt : Int)) (kk : Az g q ct k n tgt L st w) : Az g q ct k n pc L st w := by
  obtain ⟨p, l, e, s, m, args, below, meth, c, A, Q⟩ := ct
  obtain ⟨hx, hb, hml, hown, hts, hK, hZ, hA, hr, hlk⟩ := C
  intro H locs ls hP hD hS hL
  exact lv_goto hx hb hd ht (kk H locs ls hP hD hS hL)
theorem r_tabOut (C : Cx g q ct) {dflt lo hi : Int} {offs : Array Int} {len : Nat} {x : Int32} (tgt : Nat) (hd : decode q.2.1 pc = .ok (.tableswitch dflt lo hi offs, len)) (h : x.toInt < lo ∨ hi < x.toInt) (ht : (pc : Int) + dflt = (tgt : Int)) (kk : Az g q ct k n tgt L st w) : Az g q ct k n pc L (.int x :: st) w := by
  obtain ⟨p, l, e, s, m, args, below, meth, c, A, Q⟩ := ct
  obtain ⟨hx, hb, hml, hown, hts, hK, hZ, hA, hr, hlk⟩ := C
  intro H locs ls hP hD hS hL
  exact lv_tableOut hx hb hd h ht (kk H locs ls hP hD hS hL)
theorem r_tabIn (C : Cx g q ct) {dflt lo hi : Int} {offs : Array Int} {len : Nat} {x : Int32} {off : Int} (tgt : Nat) (hd : decode q.2.1 pc = .ok (.tableswitch dflt lo hi offs, len)) (h1 : ¬ x.toInt < lo) (h2 : ¬ hi < x.toInt) (ho : offs[(x.toInt - lo).toNat]? = some off) (ht : (pc : Int) + off = (tgt : Int)) (kk : Az g q ct k n tgt L st w) : Az g q ct k n pc L (.int x :: st) w := by
  obtain ⟨p, l, e, s, m, args, below, meth, c, A, Q⟩ := ct
  obtain ⟨hx, hb, hml, hown, hts, hK, hZ, hA, hr, hlk⟩ := C
  intro H locs ls hP hD hS hL
  exact lv_tableIn hx hb hd h1 h2 ho ht (kk H locs ls hP hD hS hL)
theorem r_null (C : Cx g q ct) (hd : decode q.2.1 pc = .ok (.aconst_null, 1)) (kk : Az g q ct k n (pc + 1) L (.null :: st) w) : Az g q ct k n pc L (st) w := by
  obtain ⟨p, l, e, s, m, args, below, meth, c, A, Q⟩ := ct
  obtain ⟨hx, hb, hml, hown, hts, hK, hZ, hA, hr, hlk⟩ := C
  intro H locs ls hP hD hS hL
  exact lv_null hx hb hd (kk H locs ls hP hD hS hL)
theorem r_nonnull (C : Cx g q ct) {x : Nat} {off : Int} (tgt : Nat) (hd : decode q.2.1 pc = .ok (.ifnonnull off, 3)) (ht : (pc : Int) + off = (tgt : Int)) (kk : Az g q ct k n tgt L st w) : Az g q ct k n pc L (.ref x :: st) w := by
  obtain ⟨p, l, e, s, m, args, below, meth, c, A, Q⟩ := ct
  obtain ⟨hx, hb, hml, hown, hts, hK, hZ, hA, hr, hlk⟩ := C
  intro H locs ls hP hD hS hL
  exact lv_ifnonnull hx hb hd ht (kk H locs ls hP hD hS hL)
theorem r_nonnullN (C : Cx g q ct) {off : Int} (hd : decode q.2.1 pc = .ok (.ifnonnull off, 3)) (kk : Az g q ct k n (pc + 3) L st w) : Az g q ct k n pc L (.null :: st) w := by
  obtain ⟨p, l, e, s, m, args, below, meth, c, A, Q⟩ := ct
  obtain ⟨hx, hb, hml, hown, hts, hK, hZ, hA, hr, hlk⟩ := C
  intro H locs ls hP hD hS hL
  exact lv_ifnonnullN hx hb hd (kk H locs ls hP hD hS hL)

/-- field number j of class number ci, by the entry i of the pool of class own -/
def Fl (own : String) (i ci j : Nat) : Prop := ∃ (C : String) (T : u_T) (N : Nat), vwCl[ci]? = some (C, T, N) ∧ j < N ∧ (∀ w ∈ u_ws C T N, w ∈ tb_) ∧ Cond.fieldLink own i (T j).1 (T j).2.1 (T j).2.2.1 ∈ tb_
/-- and it may be written: not final, of type ty -/
def Fp (own : String) (i ci j : Nat) (ty : FieldType) : Prop := ∃ (C : String) (T : u_T) (N : Nat) (ty0 : Nat → FieldType), vwCl[ci]? = some (C, T, N) ∧ j < N ∧ (∀ w ∈ u_ws C T N, w ∈ tb_) ∧ Cond.fieldLink own i (T j).1 (T j).2.1 (T j).2.2.1 ∈ tb_ ∧ (T j).2.2.2 = false ∧ parseFieldDescriptor (T j).2.2.1 = some ty ∧ (∀ k, k < N → parseFieldDescriptor (T k).2.2.1 = some (ty0 k)) ∧ (∀ a, a < N → ∀ b, b < N → a ≠ b → (T a).2.1 ≠ (T b).2.1)

theorem r_get (C : Cx g q ct) {i ci j a : Nat} {fs : List Value} {v : Value} (hd : decode q.2.1 pc = .ok (.getfield i, 3)) (F : Fl q.1.cls i ci j) (ha : a < NW) (hw : w a = ob ci fs) (hv : fs[j]? = some v) (kk : Az g q ct k n (pc + 3) L (v :: st) w) : Az g q ct k n pc L (.ref a :: st) w := by
  obtain ⟨p, l, e, s, m, args, below, meth, c, A, Q⟩ := ct
  obtain ⟨hx, hb, hml, hown, hts, hK, hZ, hA, hr, hlk⟩ := C
  intro H locs ls hP hD hS hL
  obtain ⟨C, T, N, h1, h2, h3, h4⟩ := F
  exact va_get (v := cv g v) (fs := fs.map (cv g)) (ci := ci) hx hb hts h3 hown hK hP a (by rw [wl_get g w ha, hw]; rfl) h1 j h2 (hts _ h4) (fun _ h9 => h9) (by rw [List.getElem?_map, hv]; rfl) hd (kk H locs ls hP hD hS hL)
theorem r_put (C : Cx g q ct) {i ci j a : Nat} {fs fs' : List Value} {x : Int32} {ty : FieldType} (hd : decode q.2.1 pc = .ok (.putfield i, 3)) (F : Fp q.1.cls i ci j ty) (ha : a < NW) (hw : w a = ob ci fs) (hn : narrow ty (.int x) = .int x) (hfit : fits ty (.int x) = true) (hl : j < fs.length) (hf : fs.set j (.int x) = fs') (kk : Az g q ct k n (pc + 3) L st (wset w a (ob ci fs'))) : Az g q ct k n pc L (.int x :: .ref a :: st) w := by
  obtain ⟨p, l, e, s, m, args, below, meth, c, A, Q⟩ := ct
  obtain ⟨hx, hb, hml, hown, hts, hK, hZ, hA, hr, hlk⟩ := C
  intro H locs ls hP hD hS hL
  obtain ⟨C, T, N, ty0, h1, h2, h3, h4, h5, h6, h7, h8⟩ := F
  refine va_put (v := .int x) (fs := fs.map (cv g)) (ci := ci) hx hb hts h3 ty0 h7 h8 hown hK hP hD hS a (by rw [wl_get g w ha, hw]; rfl) h1 j h2 (hts _ h4) (fun _ h9 => h9) h5 h6 hn hfit (by rw [List.length_map]; exact hl) hd (fun H1 locs1 hP1 hD1 hS1 => ?_)
  have e : (wl g w).set a (g.1 a, .inr (ci, (fs.map (cv g)).set j (.int x))) = wl g (wset w a (ob ci fs')) := by
    rw [← wl_set g w (ob ci fs') ha, ← hf]
    simp only [ob, ce, List.map_set]
    rfl
  rw [e] at hP1 hD1
  exact kk H1 locs1 ls hP1 hD1 hS1 hL
theorem r_iald (C : Cx g q ct) {a N : Nat} {f : Nat → Int32} {i : Int32} (hd : decode q.2.1 pc = .ok (.iaload, 1)) (ha : a < NW) (hw : w a = ia N f) (hi : vp_in i N) (kk : Az g q ct k n (pc + 1) L (.int (f i.toNatClampNeg) :: st) w) : Az g q ct k n pc L (.int i :: .ref a :: st) w := by
  obtain ⟨p, l, e, s, m, args, below, meth, c, A, Q⟩ := ct
  obtain ⟨hx, hb, hml, hown, hts, hK, hZ, hA, hr, hlk⟩ := C
  intro H locs ls hP hD hS hL
  exact va_iald hx hb hK hP a 0 (by rw [wl_get g w ha, hw]; rfl) rfl hi hd (kk H locs ls hP hD hS hL)
theorem r_iast (C : Cx g q ct) {a N : Nat} {f : Nat → Int32} {i x : Int32} (hd : decode q.2.1 pc = .ok (.iastore, 1)) (ha : a < NW) (hw : w a = ia N f) (hi : vp_in i N) (kk : Az g q ct k n (pc + 1) L st (wset w a (ia N (upd f i.toNatClampNeg x)))) : Az g q ct k n pc L (.int x :: .int i :: .ref a :: st) w := by
  obtain ⟨p, l, e, s, m, args, below, meth, c, A, Q⟩ := ct
  obtain ⟨hx, hb, hml, hown, hts, hK, hZ, hA, hr, hlk⟩ := C
  intro H locs ls hP hD hS hL
  refine va_iast hx hb hK hP hD hS a 0 (by rw [wl_get g w ha, hw]; rfl) rfl hi hd (fun H1 locs1 hP1 hD1 hS1 => ?_)
  have e : (wl g w).set a (g.1 a, .inl (g.2.2.1, N, .inl (upd f i.toNatClampNeg x))) = wl g (wset w a (ia N (upd f i.toNatClampNeg x))) := wl_set g w (ia N (upd f i.toNatClampNeg x)) ha
  rw [e] at hP1 hD1
  exact kk H1 locs1 ls hP1 hD1 hS1 hL
theorem r_ialdN (C : Cx g q ct) {a N j : Nat} {f : Nat → Int32} {i : Int32} (hd : decode q.2.1 pc = .ok (.iaload, 1)) (ha : a < NW) (hw : w a = ia N f) (hi : i = nI j) (hj : j < N) (hN : N < 2 ^ 31) (kk : Az g q ct k n (pc + 1) L (.int (f j) :: st) w) : Az g q ct k n pc L (.int i :: .ref a :: st) w := by
  subst hi
  refine r_iald C hd ha hw (vp_in_nI hj hN) ?_
  rw [nI_clamp (Nat.lt_trans hj hN)]
  exact kk
theorem r_iastN (C : Cx g q ct) {a N j : Nat} {f : Nat → Int32} {i x : Int32} (hd : decode q.2.1 pc = .ok (.iastore, 1)) (ha : a < NW) (hw : w a = ia N f) (hi : i = nI j) (hj : j < N) (hN : N < 2 ^ 31) (kk : Az g q ct k n (pc + 1) L st (wset w a (ia N (upd f j x)))) : Az g q ct k n pc L (.int x :: .int i :: .ref a :: st) w := by
  subst hi
  refine r_iast C hd ha hw (vp_in_nI hj hN) ?_
  rw [nI_clamp (Nat.lt_trans hj hN)]
  exact kk
theorem r_alen (C : Cx g q ct) {a N : Nat} {f : Nat → Int32} (hd : decode q.2.1 pc = .ok (.arraylength, 1)) (ha : a < NW) (hw : w a = ia N f) (kk : Az g q ct k n (pc + 1) L (.int (nI N) :: st) w) : Az g q ct k n pc L (.ref a :: st) w := by
  obtain ⟨p, l, e, s, m, args, below, meth, c, A, Q⟩ := ct
  obtain ⟨hx, hb, hml, hown, hts, hK, hZ, hA, hr, hlk⟩ := C
  intro H locs ls hP hD hS hL
  exact va_alen hx hb hK hP a 0 (x := (N, .inl f)) (by rw [wl_get g w ha, hw]; rfl) rfl rfl hd (kk H locs ls hP hD hS hL)
-- static tables
theorem r_gets (C : Cx g q ct) {i j : Nat} {z : Zt} (hd : decode q.2.1 pc = .ok (.getstatic i, 3)) (hz : zts[j]? = some z) (hlk9 : Cond.fieldLink q.1.cls i z.1 z.2.1 "[I" ∈ tb_) (kk : Az g q ct k n (pc + 3) L (.ref (900 + j) :: st) w) : Az g q ct k n pc L st w := by
  obtain ⟨p, l, e, s, m, args, below, meth, c, A, Q⟩ := ct
  obtain ⟨hx, hb, hml, hown, hts, hK, hZ, hA, hr, hlk⟩ := C
  intro H locs ls hP hD hS hL
  exact va_gets hx hb (hZ j z hz).1 hS hown (hts _ hlk9) (fun _ h9 => h9) hd (kk H locs ls hP hD hS hL)
theorem r_tald (C : Cx g q ct) {j a t : Nat} {z : Zt} {i : Int32} (hd : decode q.2.1 pc = .ok (.iaload, 1)) (hz : zts[j]? = some z) (ha : a = 900 + j) (hi : i = nI t) (ht : t < z.2.2.1) (hN : z.2.2.1 < 2 ^ 31) (kk : Az g q ct k n (pc + 1) L (.int (z.2.2.2 t) :: st) w) : Az g q ct k n pc L (.int i :: .ref a :: st) w := by
  subst ha; subst hi
  obtain ⟨p, l, e, s, m, args, below, meth, c, A, Q⟩ := ct
  obtain ⟨hx, hb, hml, hown, hts, hK, hZ, hA, hr, hlk⟩ := C
  intro H locs ls hP hD hS hL
  exact va_ti hx hb (hZ j z hz).2 hS (vp_in_nI ht hN) (v := .int (z.2.2.2 t)) (by rw [nI_clamp (Nat.lt_trans ht hN)]) hd (kk H locs ls hP hD hS hL)
-- what the JDK gives
theorem r_min (C : Cx g q ct) {i : Nat} {x y : Int32} (hd : decode q.2.1 pc = .ok (.invokestatic i, 3)) (hl : Cond.methodLink q.1.cls i Lib.Math.min.name ∈ tb_) (hs9 : Cond.static Lib.Math.min.name ∈ tb_) (hi9 : Cond.initialized "java/lang/Math" ∈ tb_) (hc9 : Cond.code Lib.Math.min.name Lib.Math.min.code 2 (some .int) ∈ tb_) (hfr : 1 ≤ q.2.2.2.2.2.frames) (hlo : (st.map fun v => v.category).sum + 13 ≤ q.2.2.2.2.2.locals) (hkc : k ≤ q.2.2.2.2.2.cells) (hkn : n ≤ q.2.2.2.2.2.slots) (kk : Az g q ct k n (pc + 3) L (.int (if y < x then y else x) :: st) w) : Az g q ct k n pc L (.int y :: .int x :: st) w := by
  obtain ⟨p, l, e, s, m, args, below, meth, c, A, Q⟩ := ct
  obtain ⟨hx, hb, hml, hown, hts, hK, hZ, hA, hr, hlk⟩ := C
  intro H locs ls hP hD hS hL
  exact va_mmin hx hb (hml.trans hL.1.1.symm) hown (hts _ hl) (hts _ hs9) (hts _ hi9) (hts _ hc9) hfr (by rw [List.map_map]; simpa [Function.comp_def, cv_cat] using hlo) hkc hkn hd (kk H locs ls hP hD hS hL)
theorem r_copy (C : Cx g q ct) {i a b N M : Nat} {f h : Nat → Int32} {sp dp len : Int32} (hd : decode q.2.1 pc = .ok (.invokestatic i, 3)) (hl : Cond.methodLink q.1.cls i arraycopyName ∈ tb_) (hn9 : Cond.native arraycopyName ∈ tb_) (hs9 : Cond.static arraycopyName ∈ tb_) (hi9 : Cond.initialized "java/lang/System" ∈ tb_) (ha : a < NW) (hwa : w a = ia N f) (hb9 : b < NW) (hwb : w b = ia M h) (h1 : ¬ sp < 0) (h2 : ¬ dp < 0) (h3 : ¬ len < 0) (h4 : sp.toNatClampNeg + len.toNatClampNeg ≤ N) (h5 : dp.toNatClampNeg + len.toNatClampNeg ≤ M) (hfr : 1 ≤ q.2.2.2.2.2.frames) (hlo : (st.map fun v => v.category).sum + (nativeFrameWords "java/lang/System" "arraycopy" 5 + 11) ≤ q.2.2.2.2.2.locals) (kk : Az g q ct k n (pc + 3) L st (wset w b (ia M (va_cpy f h sp.toNatClampNeg dp.toNatClampNeg len.toNatClampNeg)))) : Az g q ct k n pc L (.int len :: .int dp :: .ref b :: .int sp :: .ref a :: st) w := by
  obtain ⟨p, l, e, s, m, args, below, meth, c, A, Q⟩ := ct
  obtain ⟨hx, hb, hml, hown, hts, hK, hZ, hA, hr, hlk⟩ := C
  intro H locs ls hP hD hS hL
  refine va_copyi hx hb (hml.trans hL.1.1.symm) hown (hts _ hl) (hts _ hn9) (hts _ hs9) (hts _ hi9) hK hP hD hS a b 0 0 (f := f) (g := h) (ty := .int) (by rw [wl_get g w ha, hwa]; rfl) (by rw [wl_get g w hb9, hwb]; rfl) rfl rfl rfl h1 h2 h3 h4 h5 (fun _ _ => rfl) hfr (by rw [List.map_map]; simpa [Function.comp_def, cv_cat] using hlo) hd (fun H1 locs1 hP1 hD1 hS1 => ?_)
  have e := wl_set g w (ia M (va_cpy f h sp.toNatClampNeg dp.toNatClampNeg len.toNatClampNeg)) hb9
  simp only [ia, ce] at e
  rw [e] at hP1 hD1
  exact kk H1 locs1 ls hP1 hD1 hS1 hL

-- contracts
def PP (g : Ge) (w : Wo) (sz : Nat) (U : State) : Prop := U.heap.size = sz ∧ va_P g.2.1 vwCl (wl g w) U.heap ∧ Kx g U ∧ va_D (fun _ => True) (wl g w) ∧ Zx g (va_A (wl g w) sz) U
def QQ (g : Ge) (w : Wo) (sz : Nat) (post : Option Value → Wo → Prop) : Array Value → State → Outcome → State → Prop := fun _ st oc t => (∃ (r : Option Value) (w' : Wo), oc = .returned (r.map (cv g)) ∧ post r w' ∧ va_P g.2.1 vwCl (wl g w') t.heap) ∧ va_F (va_A (wl g w) sz) st t
/-- method q, called with as in the world w, returns, and post holds of its answer and the world behind it; it makes nothing -/
def Ctr (q : Mi) (as : List Value) (w : Wo) (post : Option Value → Wo → Prop) : Prop := ∀ (l : Launch) (g : Ge) (sz : Nat), Met l q.1 (wsq q) q.2.2.2.2.2 (va_Pc (as.map (cv g)) (PP g w sz)) (QQ g w sz post) 0 0 (va_A (wl g w) sz)
/-- the context's end is the contract's -/
def Rt (g : Ge) (w0 : Wo) (post : Option Value → Wo → Prop) : Ct → Prop
  | (_, _, _, s, _, args, below, _, _, A, Q) => A = va_A (wl g w0) s.heap.size ∧ Q = MQ below (QQ g w0 s.heap.size post) args s 0 0 A
theorem Zx_moved {g : Ge} {A : Nat → Prop} {u U : State} (hvm : u.vm.Alike U.vm) (hh : U.heap = u.heap) (h : Zx g A u) : Zx g A U := fun j z hz => by
  obtain ⟨h1, h2⟩ := h j z hz
  rw [hh]
  exact ⟨h1.moved hvm, h2.moved hvm⟩
theorem PP_blind (g : Ge) (as : List Value) (w : Wo) (sz : Nat) : FrameBlind (va_Pc as (PP g w sz)) := fun a U gg mk h => by
  obtain ⟨h0, h1, h2, h3, h4, h5⟩ := h
  exact ⟨h0, h1, h2, va_K.moved (u := U) (U := U.calling gg mk a) (Vm.Alike.refl U.vm) h3, h4, Zx_moved (u := U) (U := U.calling gg mk a) (Vm.Alike.refl U.vm) rfl h5⟩
/-- entry: the arguments as locals -/
def lent (as : List Value) (nL : Nat) : Lo := as.map some ++ List.replicate (nL - as.length) none
def MiOk (q : Mi) : Prop := plainName q.1.cls = true ∧ Cond.code q.1 q.2.1 q.2.2.1 q.2.2.2.1 ∈ tb_ ∧ Cond.initialized q.1.cls ∈ tb_ ∧ (q.1.cls ≠ "java/lang/invoke/MethodHandle" ∧ q.1.cls ≠ "java/lang/invoke/VarHandle" ∧ (parseMethodDescriptor q.1.desc).map (fun d => d.parameters.length) = some q.2.2.2.2.1) ∧ q.2.2.2.2.2.cells = 0 ∧ q.2.2.2.2.2.slots = 0

theorem sl_map : ∀ (as : List Value), (∀ v ∈ as, v.category = 1) → lg_sl as = as.map Slot.val
  | [], _ => rfl
  | v :: t, h => by
    have h1 := h v List.mem_cons_self
    have h2 := sl_map t (fun u hu => h u (List.mem_cons_of_mem _ hu))
    unfold lg_sl at h2 ⊢
    rw [List.flatMap_cons, h2, if_neg (by omega)]
    rfl
theorem args_map : ∀ (as : List Value) (i : Nat), (∀ v ∈ as, v.category = 1) → ∀ (k : Nat) (v : Value), as[k]? = some v → (i + k, v) ∈ lv_args i as
  | [], i, _, k, v, h => by simp at h
  | u :: t, i, hc, k, v, h => by
    have h1 := hc u List.mem_cons_self
    unfold lv_args
    rw [if_neg (by omega)]
    cases k with
    | zero =>
      simp at h
      subst h
      exact List.mem_cons_self
    | succ k =>
      have := args_map t (i + 1) (fun u hu => hc u (List.mem_cons_of_mem _ hu)) k v (by simpa using h)
      rw [show i + (k + 1) = i + 1 + k by omega]
      exact List.mem_cons_of_mem _ this
theorem lent_at {as : List Value} {nL k : Nat} {v : Value} (h : (lent as nL)[k]? = some (some v)) : as[k]? = some v := by
  unfold lent at h
  by_cases hk : k < as.length
  · rw [List.getElem?_append_left (by rw [List.length_map]; exact hk), List.getElem?_map] at h
    cases e : as[k]? with
    | none => rw [e] at h; cases h
    | some u => rw [e] at h; simp at h; rw [h]
  · rw [List.getElem?_append_right (by rw [List.length_map]; omega)] at h
    have := List.mem_of_getElem? h
    have := List.eq_of_mem_replicate this
    cases this
theorem lh_entry (g : Ge) (as : List Value) (nL : Nat) (hc : ∀ v ∈ as, v.category = 1) (hn : as.length ≤ nL) : lh g ((lg_sl (as.map (cv g)) ++ List.replicate (nL - (lg_sl (as.map (cv g))).length) Slot.unset).toArray) nL (lent as nL) := by
  have hc' : ∀ v ∈ as.map (cv g), v.category = 1 := fun v hv => by
    obtain ⟨u, hu, rfl⟩ := List.mem_map.mp hv
    rw [cv_cat]
    exact hc u hu
  have hl := lv_entry (as.map (cv g)) (n := nL) (by rw [sl_map _ hc']; simpa using hn)
  refine ⟨⟨hl.1, hl.2.1, fun q hq => hl.2.2 q ?_⟩, fun k v hk => hc v (List.mem_of_getElem? (lent_at hk))⟩
  obtain ⟨k, v, h1, h2⟩ := (mem_lcv g _ 0 q).mp hq
  rw [h2]
  exact args_map _ 0 hc' k (cv g v) (by rw [List.getElem?_map, lent_at h1]; rfl)
def cat1 (as : List Value) : Bool := as.all (fun v => v.category == 1)
theorem Ctr_intro {q : Mi} {as : List Value} {w : Wo} {post : Option Value → Wo → Prop} (ok : MiOk q) (hc : cat1 as = true) (hn : as.length ≤ q.2.2.1) {L : Lo} (hL : lent as q.2.2.1 = L)
    (body : ∀ (g : Ge) (ct : Ct), Cx g q ct → Rt g w post ct → Az g q ct 0 0 0 L [] w) : Ctr q as w post := by
  intro l g sz
  refine Met.ofW (cc := q.2.1) (maxL := q.2.2.1) (ret := q.2.2.2.1) ok.1 rfl ?_
  intro p e s m args below meth c s₁ B hml hv
  obtain ⟨rfl, hsz, hP, hK, hD, hZ⟩ := hv
  subst hsz
  subst hL
  have hts0 := atoms_spec (ws := wsq q) B.pre
  have hb := body g (p, l, e, s, m, (as.map (cv g)).toArray, below, meth, c, va_A (wl g w) s.heap.size, MQ below (QQ g w s.heap.size post) (as.map (cv g)).toArray s 0 0 (va_A (wl g w) s.heap.size))
    ⟨B.exec, B.bytes, hml, findClass_of_methodNamed B.named, fun z hz => hts0 z (List.mem_cons_of_mem _ hz), hK, hZ, fun z hz => Or.inr hz, B.returns, B.notSynchronized⟩ ⟨rfl, rfl⟩
  rw [lg_entry_eq]
  exact hb s.heap [] _ hP hD.self va_S.rf (lh_entry g as q.2.2.1 (fun v hv => by have := List.all_eq_true.mp hc v hv; simpa using this) hn)
variable {w0 : Wo} {post : Option Value → Wo → Prop}
theorem r_ireturn (C : Cx g q ct) (T : Rt g w0 post ct) {x : Int32} {ty : FieldType} (hr9 : q.2.2.2.1 = some ty) (hn : narrow ty (.int x) = .int x) (hd : decode q.2.1 pc = .ok (.ireturn, 1)) (hp : post (some (.int x)) w) : Az g q ct 0 0 pc L [.int x] w := by
  obtain ⟨p, l, e, s, m, args, below, meth, c, A, Q⟩ := ct
  obtain ⟨hx, hb, hml, hown, hts, hK, hZ, hA, hr, hlk⟩ := C
  intro H locs ls hP hD hS hL
  obtain ⟨rfl, rfl⟩ := T
  exact W.zret hx hb (hr.trans hr9) hn (fun t ht hW => ⟨⟨some (.int x), w, rfl, hp, by rw [ht]; exact hP⟩, hS.F ht⟩) hS.2.2 hd hlk
theorem r_return (C : Cx g q ct) (T : Rt g w0 post ct) (hr9 : q.2.2.2.1 = none) (hd : decode q.2.1 pc = .ok (.return_, 1)) (hp : post none w) : Az g q ct 0 0 pc L [] w := by
  obtain ⟨p, l, e, s, m, args, below, meth, c, A, Q⟩ := ct
  obtain ⟨hx, hb, hml, hown, hts, hK, hZ, hA, hr, hlk⟩ := C
  intro H locs ls hP hD hS hL
  obtain ⟨rfl, rfl⟩ := T
  exact W.vret hx hb (hr.trans hr9) (fun t ht hW => ⟨⟨none, w, rfl, hp, by rw [ht]; exact hP⟩, hS.F ht⟩) hS.2.2 hd hlk
theorem r_areturn (C : Cx g q ct) (T : Rt g w0 post ct) {a : Nat} {c9 : String} (hr9 : q.2.2.2.1 = some (.object c9)) (hd : decode q.2.1 pc = .ok (.areturn, 1)) (hp : post (some (.ref a)) w) : Az g q ct 0 0 pc L [.ref a] w := by
  obtain ⟨p, l, e, s, m, args, below, meth, c, A, Q⟩ := ct
  obtain ⟨hx, hb, hml, hown, hts, hK, hZ, hA, hr, hlk⟩ := C
  intro H locs ls hP hD hS hL
  obtain ⟨rfl, rfl⟩ := T
  exact W.aret hx hb (hr.trans hr9) (Or.inl ⟨_, rfl⟩) (Or.inr ⟨_, rfl⟩) (fun t ht hW => ⟨⟨some (.ref a), w, rfl, hp, by rw [ht]; exact hP⟩, hS.F ht⟩) hS.2.2 hd hlk
theorem r_areturn0 (C : Cx g q ct) (T : Rt g w0 post ct) {c9 : String} (hr9 : q.2.2.2.1 = some (.object c9)) (hd : decode q.2.1 pc = .ok (.areturn, 1)) (hp : post (some .null) w) : Az g q ct 0 0 pc L [.null] w := by
  obtain ⟨p, l, e, s, m, args, below, meth, c, A, Q⟩ := ct
  obtain ⟨hx, hb, hml, hown, hts, hK, hZ, hA, hr, hlk⟩ := C
  intro H locs ls hP hD hS hL
  obtain ⟨rfl, rfl⟩ := T
  exact W.aret hx hb (hr.trans hr9) (Or.inl ⟨_, rfl⟩) (Or.inl rfl) (fun t ht hW => ⟨⟨some .null, w, rfl, hp, by rw [ht]; exact hP⟩, hS.F ht⟩) hS.2.2 hd hlk
theorem tb_good (q : Mi) (h : MiOk q) : GoodIn tb_ (wsq q) := by
  intro z hz
  rcases List.mem_cons.mp hz with rfl | hz
  · exact ⟨h.2.1, good_of_word (List.mem_filter.mp h.2.1).2⟩
  · exact ⟨hz, good_of_word (List.mem_filter.mp hz).2⟩
theorem callQ {p : Program} {l : Launch} {e : Env} {R : Room} {s : State} {m : MethodId} {args : Array Value} {below : List Frame} {meth : Method} {c : Code} {H : Heap} {locs : List Loc} {cells slots : Nat} {Q : State → Prop} {ls : Array Slot} {st0 rest : List Value} {A0 : Nat → Prop} {H0 : Heap} {a : Array Value}
    (hr : va_Run p l e R s m args below meth c H locs cells slots 0 0 (F0 m pc ls st0) rest (QQ g w H.size post a) (va_A (wl g w) H.size)) (hS : va_S A0 H0 H locs) (hf : ∀ z, va_A (wl g w) H.size z → A0 z)
    (kk : ∀ (r : Option Value) (w' : Wo) (H1 : Heap) (locs1 : List Loc), post r w' → va_P g.2.1 vwCl (wl g w') H1 → va_S A0 H0 H1 locs1 → W p l e R s m args below meth c H1 locs1 cells slots Q (F0 m (pc + 3) ls ((r.map (cv g)).toList ++ rest))) : W p l e R s m args below meth c H locs cells slots Q (F0 m pc ls st0) := by
  intro T hT X
  obtain ⟨v, st₀, t, T', Lc, h0, X', hL, e1, e2, ⟨⟨r, w', hv, hp, hb⟩, hz, hk⟩, stp⟩ := hr T hT X
  cases hv
  rw [h0] at hz hk
  obtain ⟨t2, a1, b1⟩ := kk r w' T'.heap (locs ++ Lc) hp (by rw [e1]; exact hb)
    ⟨Nat.le_trans hS.1 (by rw [e1]; exact hz), fun z h1 h2 => by rw [e1, hk z (Nat.lt_of_lt_of_le h1 hS.1) (fun y => h2 (hf z y))]; exact hS.2.1 z h1 h2, fun z hq => by
      rcases List.mem_append.mp hq with h | h
      · exact hS.2.2 z h
      · exact hf _ (hL z h)⟩ T' rfl X'
  exact ⟨t2, stp t2 a1, b1⟩
theorem A_free {A : Nat → Prop} {s : State} {H : Heap} {locs : List Loc} (hD : va_D A (wl g w)) (hS : va_S A s.heap H locs) (hA : ∀ z : Nat, s.heap.size ≤ z → A z) : ∀ z, va_A (wl g w) H.size z → A z := by
  intro z h
  rcases h with ⟨j, e, h⟩ | h
  · exact hD.2 j (z, e) h
  · exact hA z (Nat.le_trans hS.1 h)
theorem Zx_in {A : Nat → Prop} {s U : State} {H : Heap} {locs : List Loc} (hZ : Zx g A s) (hD : va_D A (wl g w)) (hS : va_S A s.heap H locs) (hA : ∀ z : Nat, s.heap.size ≤ z → A z) (hU : U.heap = H) (hvm : s.vm.Alike U.vm) : Zx g (va_A (wl g w) H.size) U := fun j z hz => by
  obtain ⟨h1, h2⟩ := hZ j z hz
  rw [hU]
  exact ⟨((h1.moved hvm).kept hS.2.1).narrow (A_free hD hS hA), ((h2.moved hvm).kept hS.2.1).narrow (A_free hD hS hA)⟩
/-- a call's room: the callee's in the caller's -/
def RmOk (q z : Mi) : Prop := z.2.2.2.2.2.frames + 1 ≤ q.2.2.2.2.2.frames ∧ 8 + (z.2.2.1 + 11) + z.2.2.2.2.2.locals ≤ q.2.2.2.2.2.locals
theorem st_sum (g : Ge) (rest : List Value) : ((rest.map (cv g)).map fun v => v.category).sum = (rest.map fun v => v.category).sum := by
  rw [List.map_map]
  congr 1
  apply List.map_congr_left
  intro v _
  exact cv_cat g v
theorem r_callS (C : Cx g q ct) {z : Mi} {i : Nat} {As rest st : List Value} (hM : Ctr z As w post) (ok : MiOk z) (hl : Cond.methodLink q.1.cls i z.1 ∈ tb_) (hs9 : Cond.static z.1 ∈ tb_) (hrm : RmOk q z) (hd : decode q.2.1 pc = .ok (.invokestatic i, 3)) (hst : st = As.reverse ++ rest) (hn : As.length = z.2.2.2.2.1) (hW : (rest.map fun v => v.category).sum ≤ 8) (hkc : k ≤ q.2.2.2.2.2.cells) (hkn : n ≤ q.2.2.2.2.2.slots)
    (kk : ∀ (r : Option Value) (w' : Wo), post r w' → Az g q ct k n (pc + 3) L (r.toList ++ rest) w') : Az g q ct k n pc L st w := by
  subst hst
  obtain ⟨p, l, e, s, m, args, below, meth, c, A, Q⟩ := ct
  obtain ⟨hx, hb, hml, hown, hts, hK, hZ, hA, hr, hlk⟩ := C
  intro H locs ls hP hD hS hL
  refine callQ (g := g) (w := w) (post := post) (va_runS (As := As.map (cv g)) (rest := rest.map (cv g)) ⟨hx, hb, hml, hown, hts⟩ (hM l g H.size)
    ⟨callB_of (n := z.2.2.2.2.1) hts (tb_good z ok) rfl ok.2.2.2.2.1 ok.2.2.2.2.2 (hts _ ok.2.2.1) (hts _ hl) ok.2.2.2.1 hrm, hts _ hs9⟩
    ⟨PP_blind g _ w H.size, fun U hU hW9 => ⟨rfl, by rw [hU], by rw [hU]; exact hP, va_K.moved hW9.alike hK, hD.weaken (fun _ _ _ _ => trivial), Zx_in hZ hD hS hA hU hW9.alike⟩⟩
    rfl (by rw [List.length_map]; exact hn) hL.1.1 (by simp [List.map_append, List.map_reverse]) (lv_room (by rw [st_sum]; exact hW)) hd ⟨by omega, by omega⟩) hS (A_free hD hS hA)
    (fun r w' H1 locs1 hp hP1 hS1 => ?_)
  have := kk r w' hp H1 locs1 ls hP1 (wl_D hD) hS1 hL
  rw [List.map_append] at this
  cases r <;> exact this
theorem r_callV (C : Cx g q ct) {z : Mi} {i a ci : Nat} {fs : List Value} {As rest st : List Value} {cq : vw_C} (hM : Ctr z (.ref a :: As) w post) (ok : MiOk z) (hl : Cond.methodLink q.1.cls i z.1 ∈ tb_) (hi9 : Cond.instanceMethod z.1 ∈ tb_) (hs9 : Cond.selects z.1.cls z.1 z.1 ∈ tb_) (hrm : RmOk q z) (hd : decode q.2.1 pc = .ok (.invokevirtual i, 3)) (hst : st = As.reverse ++ .ref a :: rest) (hn : As.length = z.2.2.2.2.1) (ha : a < NW) (hwa : w a = ob ci fs) (hc : vwCl[ci]? = some cq) (hcq : cq.1 = z.1.cls) (hW : (rest.map fun v => v.category).sum ≤ 8) (hkc : k ≤ q.2.2.2.2.2.cells) (hkn : n ≤ q.2.2.2.2.2.slots)
    (kk : ∀ (r : Option Value) (w' : Wo), post r w' → Az g q ct k n (pc + 3) L (r.toList ++ rest) w') : Az g q ct k n pc L st w := by
  subst hst
  obtain ⟨p, l, e, s, m, args, below, meth, c, A, Q⟩ := ct
  obtain ⟨hx, hb, hml, hown, hts, hK, hZ, hA, hr, hlk⟩ := C
  intro H locs ls hP hD hS hL
  refine callQ (g := g) (w := w) (post := post) (va_runV (C := z.1.cls) (b := g.1 a) (As := As.map (cv g)) (rest := rest.map (cv g)) ⟨hx, hb, hml, hown, hts⟩ (hM l g H.size)
    ⟨callB_of (n := z.2.2.2.2.1) hts (tb_good z ok) rfl ok.2.2.2.2.1 ok.2.2.2.2.2 (hts _ ok.2.2.1) (hts _ hl) ok.2.2.2.1 hrm, hts _ hi9, hts _ hs9⟩
    ⟨PP_blind g _ w H.size, by rw [← hcq]; exact va_recv hK hP hc (q0 := a) (fs := fs.map (cv g)) (ci := ci) (by rw [wl_get g w ha, hwa]; rfl), fun U hU hW9 => ⟨rfl, by rw [hU], by rw [hU]; exact hP, va_K.moved hW9.alike hK, hD.weaken (fun _ _ _ _ => trivial), Zx_in hZ hD hS hA hU hW9.alike⟩⟩
    rfl (by rw [List.length_map]; exact hn) hL.1.1 (by simp [List.map_append, List.map_reverse, cv]) (lv_room (by rw [st_sum]; exact hW)) hd ⟨by omega, by omega⟩) hS (A_free hD hS hA)
    (fun r w' H1 locs1 hp hP1 hS1 => ?_)
  have := kk r w' hp H1 locs1 ls hP1 (wl_D hD) hS1 hL
  rw [List.map_append] at this
  cases r <;> exact this


theorem nI_dec1 {a : Nat} (h : 1 ≤ a) : nI a + Int32.ofInt (-1) = nI (a - 1) := sb_m1 h
theorem r_copyN (C : Cx g q ct) {i a b N M sn dn ln : Nat} {f h : Nat → Int32} {sp dp len : Int32} (hd : decode q.2.1 pc = .ok (.invokestatic i, 3)) (hl : Cond.methodLink q.1.cls i arraycopyName ∈ tb_) (hn9 : Cond.native arraycopyName ∈ tb_) (hs9 : Cond.static arraycopyName ∈ tb_) (hi9 : Cond.initialized "java/lang/System" ∈ tb_) (ha : a < NW) (hwa : w a = ia N f) (hb9 : b < NW) (hwb : w b = ia M h) (e1 : sp = nI sn) (e2 : dp = nI dn) (e3 : len = nI ln) (s1 : sn + ln ≤ N) (s2 : dn + ln ≤ M) (s3 : sn < 2 ^ 31) (s4 : dn < 2 ^ 31) (s5 : ln < 2 ^ 31) (hfr : 1 ≤ q.2.2.2.2.2.frames) (hlo : (st.map fun v => v.category).sum + (nativeFrameWords "java/lang/System" "arraycopy" 5 + 11) ≤ q.2.2.2.2.2.locals) (kk : Az g q ct k n (pc + 3) L st (wset w b (ia M (va_cpy f h sn dn ln)))) : Az g q ct k n pc L (.int len :: .int dp :: .ref b :: .int sp :: .ref a :: st) w := by
  subst e1; subst e2; subst e3
  refine r_copy C hd hl hn9 hs9 hi9 ha hwa hb9 hwb (nI_pos s3) (nI_pos s4) (nI_pos s5) (by rw [nI_clamp s3, nI_clamp s5]; exact s1) (by rw [nI_clamp s4, nI_clamp s5]; exact s2) hfr hlo ?_
  rw [nI_clamp s3, nI_clamp s4, nI_clamp s5]
  exact kk
/-- the shapes of a post: nothing, an int, a cell -/
abbrev PV (p : Wo → Prop) : Option Value → Wo → Prop := fun r w' => r = none ∧ p w'
abbrev PI (p : Int32 → Wo → Prop) : Option Value → Wo → Prop := fun r w' => ∃ x, r = some (.int x) ∧ p x w'
abbrev PR (p : Nat → Wo → Prop) : Option Value → Wo → Prop := fun r w' => ∃ a, r = some (.ref a) ∧ p a w'
theorem r_callSv (C : Cx g q ct) {z : Mi} {i : Nat} {As rest st : List Value} {po : Wo → Prop} (hd : decode q.2.1 pc = .ok (.invokestatic i, 3)) (hM : Ctr z As w (PV po)) (ok : MiOk z) (hl : Cond.methodLink q.1.cls i z.1 ∈ tb_) (hs9 : Cond.static z.1 ∈ tb_) (hrm : RmOk q z) (hst : st = As.reverse ++ rest) (hn : As.length = z.2.2.2.2.1) (hW : (rest.map fun v => v.category).sum ≤ 8) (hkc : k ≤ q.2.2.2.2.2.cells) (hkn : n ≤ q.2.2.2.2.2.slots)
    (kk : ∀ (w' : Wo), po w' → Az g q ct k n (pc + 3) L (rest) w') : Az g q ct k n pc L st w := by
  refine r_callS C hM ok hl hs9 hrm hd hst hn hW hkc hkn (fun r w' h => ?_)
  obtain ⟨rfl, h9⟩ := h
  exact kk w' h9
theorem r_callVv (C : Cx g q ct) {z : Mi} {i a ci : Nat} {fs : List Value} {As rest st : List Value} {cq : vw_C} {po : Wo → Prop} (hd : decode q.2.1 pc = .ok (.invokevirtual i, 3)) (hM : Ctr z (.ref a :: As) w (PV po)) (ok : MiOk z) (hl : Cond.methodLink q.1.cls i z.1 ∈ tb_) (hi9 : Cond.instanceMethod z.1 ∈ tb_) (hs9 : Cond.selects z.1.cls z.1 z.1 ∈ tb_) (hrm : RmOk q z) (hst : st = As.reverse ++ .ref a :: rest) (hn : As.length = z.2.2.2.2.1) (ha : a < NW) (hwa : w a = ob ci fs) (hc : vwCl[ci]? = some cq) (hcq : cq.1 = z.1.cls) (hW : (rest.map fun v => v.category).sum ≤ 8) (hkc : k ≤ q.2.2.2.2.2.cells) (hkn : n ≤ q.2.2.2.2.2.slots)
    (kk : ∀ (w' : Wo), po w' → Az g q ct k n (pc + 3) L (rest) w') : Az g q ct k n pc L st w := by
  refine r_callV C hM ok hl hi9 hs9 hrm hd hst hn ha hwa hc hcq hW hkc hkn (fun r w' h => ?_)
  obtain ⟨rfl, h9⟩ := h
  exact kk w' h9
theorem r_callSi (C : Cx g q ct) {z : Mi} {i : Nat} {As rest st : List Value} {po : Int32 → Wo → Prop} (hd : decode q.2.1 pc = .ok (.invokestatic i, 3)) (hM : Ctr z As w (PI po)) (ok : MiOk z) (hl : Cond.methodLink q.1.cls i z.1 ∈ tb_) (hs9 : Cond.static z.1 ∈ tb_) (hrm : RmOk q z) (hst : st = As.reverse ++ rest) (hn : As.length = z.2.2.2.2.1) (hW : (rest.map fun v => v.category).sum ≤ 8) (hkc : k ≤ q.2.2.2.2.2.cells) (hkn : n ≤ q.2.2.2.2.2.slots)
    (kk : ∀ (x : Int32) (w' : Wo), po x w' → Az g q ct k n (pc + 3) L (.int x :: rest) w') : Az g q ct k n pc L st w := by
  refine r_callS C hM ok hl hs9 hrm hd hst hn hW hkc hkn (fun r w' h => ?_)
  obtain ⟨x, rfl, h9⟩ := h
  exact kk x w' h9
theorem r_callVi (C : Cx g q ct) {z : Mi} {i a ci : Nat} {fs : List Value} {As rest st : List Value} {cq : vw_C} {po : Int32 → Wo → Prop} (hd : decode q.2.1 pc = .ok (.invokevirtual i, 3)) (hM : Ctr z (.ref a :: As) w (PI po)) (ok : MiOk z) (hl : Cond.methodLink q.1.cls i z.1 ∈ tb_) (hi9 : Cond.instanceMethod z.1 ∈ tb_) (hs9 : Cond.selects z.1.cls z.1 z.1 ∈ tb_) (hrm : RmOk q z) (hst : st = As.reverse ++ .ref a :: rest) (hn : As.length = z.2.2.2.2.1) (ha : a < NW) (hwa : w a = ob ci fs) (hc : vwCl[ci]? = some cq) (hcq : cq.1 = z.1.cls) (hW : (rest.map fun v => v.category).sum ≤ 8) (hkc : k ≤ q.2.2.2.2.2.cells) (hkn : n ≤ q.2.2.2.2.2.slots)
    (kk : ∀ (x : Int32) (w' : Wo), po x w' → Az g q ct k n (pc + 3) L (.int x :: rest) w') : Az g q ct k n pc L st w := by
  refine r_callV C hM ok hl hi9 hs9 hrm hd hst hn ha hwa hc hcq hW hkc hkn (fun r w' h => ?_)
  obtain ⟨x, rfl, h9⟩ := h
  exact kk x w' h9
theorem r_callSr (C : Cx g q ct) {z : Mi} {i : Nat} {As rest st : List Value} {po : Nat → Wo → Prop} (hd : decode q.2.1 pc = .ok (.invokestatic i, 3)) (hM : Ctr z As w (PR po)) (ok : MiOk z) (hl : Cond.methodLink q.1.cls i z.1 ∈ tb_) (hs9 : Cond.static z.1 ∈ tb_) (hrm : RmOk q z) (hst : st = As.reverse ++ rest) (hn : As.length = z.2.2.2.2.1) (hW : (rest.map fun v => v.category).sum ≤ 8) (hkc : k ≤ q.2.2.2.2.2.cells) (hkn : n ≤ q.2.2.2.2.2.slots)
    (kk : ∀ (b : Nat) (w' : Wo), po b w' → Az g q ct k n (pc + 3) L (.ref b :: rest) w') : Az g q ct k n pc L st w := by
  refine r_callS C hM ok hl hs9 hrm hd hst hn hW hkc hkn (fun r w' h => ?_)
  obtain ⟨b, rfl, h9⟩ := h
  exact kk b w' h9
theorem r_callVr (C : Cx g q ct) {z : Mi} {i a ci : Nat} {fs : List Value} {As rest st : List Value} {cq : vw_C} {po : Nat → Wo → Prop} (hd : decode q.2.1 pc = .ok (.invokevirtual i, 3)) (hM : Ctr z (.ref a :: As) w (PR po)) (ok : MiOk z) (hl : Cond.methodLink q.1.cls i z.1 ∈ tb_) (hi9 : Cond.instanceMethod z.1 ∈ tb_) (hs9 : Cond.selects z.1.cls z.1 z.1 ∈ tb_) (hrm : RmOk q z) (hst : st = As.reverse ++ .ref a :: rest) (hn : As.length = z.2.2.2.2.1) (ha : a < NW) (hwa : w a = ob ci fs) (hc : vwCl[ci]? = some cq) (hcq : cq.1 = z.1.cls) (hW : (rest.map fun v => v.category).sum ≤ 8) (hkc : k ≤ q.2.2.2.2.2.cells) (hkn : n ≤ q.2.2.2.2.2.slots)
    (kk : ∀ (b : Nat) (w' : Wo), po b w' → Az g q ct k n (pc + 3) L (.ref b :: rest) w') : Az g q ct k n pc L st w := by
  refine r_callV C hM ok hl hi9 hs9 hrm hd hst hn ha hwa hc hcq hW hkc hkn (fun r w' h => ?_)
  obtain ⟨b, rfl, h9⟩ := h
  exact kk b w' h9
end Rows
end
section
theorem mem_tb {w : Cond} (i : Nat) (h : lw_tbl[i]? = some w) (hg : goodWord w = true) : w ∈ tb_ := List.mem_filter.mpr ⟨List.mem_of_getElem? h, hg⟩
theorem tbX0 : ∀ w ∈ u_ws RX0 TX0 4, w ∈ tb_ := by
  intro w hw
  have h1 : (u_ws RX0 TX0 4).all (fun w => decide (w ∈ lw_tbl) && goodWord w) = true := by decide +kernel
  have h2 := List.all_eq_true.mp h1 w hw
  simp only [Bool.and_eq_true, decide_eq_true_eq] at h2
  exact List.mem_filter.mpr h2
theorem tbX1 : ∀ w ∈ u_ws RX1 TX1 17, w ∈ tb_ := by
  intro w hw
  have h1 : (u_ws RX1 TX1 17).all (fun w => decide (w ∈ lw_tbl) && goodWord w) = true := by decide +kernel
  have h2 := List.all_eq_true.mp h1 w hw
  simp only [Bool.and_eq_true, decide_eq_true_eq] at h2
  exact List.mem_filter.mpr h2
theorem tbX2 : ∀ w ∈ u_ws RX2 TX2 5, w ∈ tb_ := by
  intro w hw
  have h1 : (u_ws RX2 TX2 5).all (fun w => decide (w ∈ lw_tbl) && goodWord w) = true := by decide +kernel
  have h2 := List.all_eq_true.mp h1 w hw
  simp only [Bool.and_eq_true, decide_eq_true_eq] at h2
  exact List.mem_filter.mpr h2
theorem tbX3 : ∀ w ∈ u_ws RX3 TX3 2, w ∈ tb_ := by
  intro w hw
  have h1 : (u_ws RX3 TX3 2).all (fun w => decide (w ∈ lw_tbl) && goodWord w) = true := by decide +kernel
  have h2 := List.all_eq_true.mp h1 w hw
  simp only [Bool.and_eq_true, decide_eq_true_eq] at h2
  exact List.mem_filter.mpr h2
theorem tbX4 : ∀ w ∈ u_ws RX4 TX4 1, w ∈ tb_ := by
  intro w hw
  have h1 : (u_ws RX4 TX4 1).all (fun w => decide (w ∈ lw_tbl) && goodWord w) = true := by decide +kernel
  have h2 := List.all_eq_true.mp h1 w hw
  simp only [Bool.and_eq_true, decide_eq_true_eq] at h2
  exact List.mem_filter.mpr h2
theorem tbX5 : ∀ w ∈ u_ws RX5 TX5 3, w ∈ tb_ := by
  intro w hw
  have h1 : (u_ws RX5 TX5 3).all (fun w => decide (w ∈ lw_tbl) && goodWord w) = true := by decide +kernel
  have h2 := List.all_eq_true.mp h1 w hw
  simp only [Bool.and_eq_true, decide_eq_true_eq] at h2
  exact List.mem_filter.mpr h2
theorem tbX6 : ∀ w ∈ u_ws RX6 TX6 36, w ∈ tb_ := by
  intro w hw
  have h1 : (u_ws RX6 TX6 36).all (fun w => decide (w ∈ lw_tbl) && goodWord w) = true := by decide +kernel
  have h2 := List.all_eq_true.mp h1 w hw
  simp only [Bool.and_eq_true, decide_eq_true_eq] at h2
  exact List.mem_filter.mpr h2
abbrev mX0_expand : Mi := (yX0_expand, cX0_expand, 5, none, 1, { frames := 1, cells := 0, slots := 0, locals := 20 })
theorem okX0_expand : MiOk mX0_expand := ⟨by decide +kernel, mem_tb 564 (by decide +kernel) rfl, mem_tb 57 (by decide +kernel) rfl, by decide +kernel, rfl, rfl⟩
theorem imX0_expand : Cond.instanceMethod yX0_expand ∈ tb_ := mem_tb 562 (by decide +kernel) rfl
theorem seX0_expand : Cond.selects RX0 yX0_expand yX0_expand ∈ tb_ := mem_tb 563 (by decide +kernel) rfl
abbrev mX0_loadFrom : Mi := (yX0_loadFrom, cX0_loadFrom, 3, none, 2, { frames := 1, cells := 0, slots := 0, locals := 40 })
theorem okX0_loadFrom : MiOk mX0_loadFrom := ⟨by decide +kernel, mem_tb 575 (by decide +kernel) rfl, mem_tb 57 (by decide +kernel) rfl, by decide +kernel, rfl, rfl⟩
theorem imX0_loadFrom : Cond.instanceMethod yX0_loadFrom ∈ tb_ := mem_tb 573 (by decide +kernel) rfl
theorem seX0_loadFrom : Cond.selects RX0 yX0_loadFrom yX0_loadFrom ∈ tb_ := mem_tb 574 (by decide +kernel) rfl
abbrev mX0_addFrom : Mi := (yX0_addFrom, cX0_addFrom, 4, none, 2, { frames := 1, cells := 0, slots := 0, locals := 21 })
theorem okX0_addFrom : MiOk mX0_addFrom := ⟨by decide +kernel, mem_tb 603 (by decide +kernel) rfl, mem_tb 57 (by decide +kernel) rfl, by decide +kernel, rfl, rfl⟩
theorem imX0_addFrom : Cond.instanceMethod yX0_addFrom ∈ tb_ := mem_tb 601 (by decide +kernel) rfl
theorem seX0_addFrom : Cond.selects RX0 yX0_addFrom yX0_addFrom ∈ tb_ := mem_tb 602 (by decide +kernel) rfl
abbrev mX0_storeTo : Mi := (yX0_storeTo, cX0_storeTo, 3, none, 2, { frames := 1, cells := 0, slots := 0, locals := 40 })
theorem okX0_storeTo : MiOk mX0_storeTo := ⟨by decide +kernel, mem_tb 611 (by decide +kernel) rfl, mem_tb 57 (by decide +kernel) rfl, by decide +kernel, rfl, rfl⟩
theorem imX0_storeTo : Cond.instanceMethod yX0_storeTo ∈ tb_ := mem_tb 609 (by decide +kernel) rfl
theorem seX0_storeTo : Cond.selects RX0 yX0_storeTo yX0_storeTo ∈ tb_ := mem_tb 610 (by decide +kernel) rfl
abbrev mX0_fits : Mi := (yX0_fits, cX0_fits, 2, (some .boolean), 2, { frames := 0, cells := 0, slots := 0, locals := 0 })
theorem okX0_fits : MiOk mX0_fits := ⟨by decide +kernel, mem_tb 578 (by decide +kernel) rfl, mem_tb 57 (by decide +kernel) rfl, by decide +kernel, rfl, rfl⟩
theorem stX0_fits : Cond.static yX0_fits ∈ tb_ := mem_tb 577 (by decide +kernel) rfl
abbrev mX0_filling : Mi := (yX0_filling, cX0_filling, 3, (some .int), 0, { frames := 0, cells := 0, slots := 0, locals := 0 })
theorem okX0_filling : MiOk mX0_filling := ⟨by decide +kernel, mem_tb 607 (by decide +kernel) rfl, mem_tb 57 (by decide +kernel) rfl, by decide +kernel, rfl, rfl⟩
theorem imX0_filling : Cond.instanceMethod yX0_filling ∈ tb_ := mem_tb 605 (by decide +kernel) rfl
theorem seX0_filling : Cond.selects RX0 yX0_filling yX0_filling ∈ tb_ := mem_tb 606 (by decide +kernel) rfl
abbrev mX0_makeBlock : Mi := (yX0_makeBlock, cX0_makeBlock, 2, none, 0, { frames := 2, cells := 0, slots := 0, locals := 61 })
theorem okX0_makeBlock : MiOk mX0_makeBlock := ⟨by decide +kernel, mem_tb 638 (by decide +kernel) rfl, mem_tb 57 (by decide +kernel) rfl, by decide +kernel, rfl, rfl⟩
theorem imX0_makeBlock : Cond.instanceMethod yX0_makeBlock ∈ tb_ := mem_tb 636 (by decide +kernel) rfl
theorem seX0_makeBlock : Cond.selects RX0 yX0_makeBlock yX0_makeBlock ∈ tb_ := mem_tb 637 (by decide +kernel) rfl
abbrev mX0_unmakeBlock : Mi := (yX0_unmakeBlock, cX0_unmakeBlock, 2, none, 0, { frames := 3, cells := 0, slots := 0, locals := 69 })
theorem okX0_unmakeBlock : MiOk mX0_unmakeBlock := ⟨by decide +kernel, mem_tb 583 (by decide +kernel) rfl, mem_tb 57 (by decide +kernel) rfl, by decide +kernel, rfl, rfl⟩
theorem imX0_unmakeBlock : Cond.instanceMethod yX0_unmakeBlock ∈ tb_ := mem_tb 581 (by decide +kernel) rfl
theorem seX0_unmakeBlock : Cond.selects RX0 yX0_unmakeBlock yX0_unmakeBlock ∈ tb_ := mem_tb 582 (by decide +kernel) rfl
abbrev mX0_addColumns : Mi := (yX0_addColumns, cX0_addColumns, 4, none, 1, { frames := 0, cells := 0, slots := 0, locals := 0 })
theorem okX0_addColumns : MiOk mX0_addColumns := ⟨by decide +kernel, mem_tb 587 (by decide +kernel) rfl, mem_tb 57 (by decide +kernel) rfl, by decide +kernel, rfl, rfl⟩
theorem imX0_addColumns : Cond.instanceMethod yX0_addColumns ∈ tb_ := mem_tb 586 (by decide +kernel) rfl
theorem seX0_addColumns : Cond.selects RX0 yX0_addColumns yX0_addColumns ∈ tb_ := mem_tb 11 (by decide +kernel) rfl
abbrev mX0_swapAndTurn : Mi := (yX0_swapAndTurn, cX0_swapAndTurn, 2, none, 0, { frames := 1, cells := 0, slots := 0, locals := 40 })
theorem okX0_swapAndTurn : MiOk mX0_swapAndTurn := ⟨by decide +kernel, mem_tb 642 (by decide +kernel) rfl, mem_tb 57 (by decide +kernel) rfl, by decide +kernel, rfl, rfl⟩
theorem imX0_swapAndTurn : Cond.instanceMethod yX0_swapAndTurn ∈ tb_ := mem_tb 641 (by decide +kernel) rfl
theorem seX0_swapAndTurn : Cond.selects RX0 yX0_swapAndTurn yX0_swapAndTurn ∈ tb_ := mem_tb 18 (by decide +kernel) rfl
abbrev mX0_swapAndTurnBack : Mi := (yX0_swapAndTurnBack, cX0_swapAndTurnBack, 2, none, 0, { frames := 1, cells := 0, slots := 0, locals := 40 })
theorem okX0_swapAndTurnBack : MiOk mX0_swapAndTurnBack := ⟨by decide +kernel, mem_tb 599 (by decide +kernel) rfl, mem_tb 57 (by decide +kernel) rfl, by decide +kernel, rfl, rfl⟩
theorem imX0_swapAndTurnBack : Cond.instanceMethod yX0_swapAndTurnBack ∈ tb_ := mem_tb 598 (by decide +kernel) rfl
theorem seX0_swapAndTurnBack : Cond.selects RX0 yX0_swapAndTurnBack yX0_swapAndTurnBack ∈ tb_ := mem_tb 14 (by decide +kernel) rfl
abbrev mX0_mixColumns : Mi := (yX0_mixColumns, cX0_mixColumns, 7, none, 0, { frames := 1, cells := 0, slots := 0, locals := 20 })
theorem okX0_mixColumns : MiOk mX0_mixColumns := ⟨by decide +kernel, mem_tb 595 (by decide +kernel) rfl, mem_tb 57 (by decide +kernel) rfl, by decide +kernel, rfl, rfl⟩
theorem imX0_mixColumns : Cond.instanceMethod yX0_mixColumns ∈ tb_ := mem_tb 594 (by decide +kernel) rfl
theorem seX0_mixColumns : Cond.selects RX0 yX0_mixColumns yX0_mixColumns ∈ tb_ := mem_tb 13 (by decide +kernel) rfl
abbrev mX0_unmixColumns : Mi := (yX0_unmixColumns, cX0_unmixColumns, 4, none, 0, { frames := 2, cells := 0, slots := 0, locals := 46 })
theorem okX0_unmixColumns : MiOk mX0_unmixColumns := ⟨by decide +kernel, mem_tb 591 (by decide +kernel) rfl, mem_tb 57 (by decide +kernel) rfl, by decide +kernel, rfl, rfl⟩
theorem imX0_unmixColumns : Cond.instanceMethod yX0_unmixColumns ∈ tb_ := mem_tb 590 (by decide +kernel) rfl
theorem seX0_unmixColumns : Cond.selects RX0 yX0_unmixColumns yX0_unmixColumns ∈ tb_ := mem_tb 12 (by decide +kernel) rfl
abbrev mX0_twice : Mi := (yX0_twice, cX0_twice, 1, (some .int), 1, { frames := 0, cells := 0, slots := 0, locals := 0 })
theorem okX0_twice : MiOk mX0_twice := ⟨by decide +kernel, mem_tb 567 (by decide +kernel) rfl, mem_tb 57 (by decide +kernel) rfl, by decide +kernel, rfl, rfl⟩
theorem stX0_twice : Cond.static yX0_twice ∈ tb_ := mem_tb 566 (by decide +kernel) rfl
abbrev mX1_toldRow : Mi := (yX1_toldRow, cX1_toldRow, 2, (some (.object "SheetKeys$Row")), 1, { frames := 0, cells := 0, slots := 0, locals := 0 })
theorem okX1_toldRow : MiOk mX1_toldRow := ⟨by decide +kernel, mem_tb 503 (by decide +kernel) rfl, mem_tb 54 (by decide +kernel) rfl, by decide +kernel, rfl, rfl⟩
theorem imX1_toldRow : Cond.instanceMethod yX1_toldRow ∈ tb_ := mem_tb 501 (by decide +kernel) rfl
theorem seX1_toldRow : Cond.selects RX1 yX1_toldRow yX1_toldRow ∈ tb_ := mem_tb 502 (by decide +kernel) rfl
abbrev mX1_makeOwnerEntry : Mi := (yX1_makeOwnerEntry, cX1_makeOwnerEntry, 1, none, 0, { frames := 4, cells := 0, slots := 0, locals := 91 })
theorem okX1_makeOwnerEntry : MiOk mX1_makeOwnerEntry := ⟨by decide +kernel, mem_tb 532 (by decide +kernel) rfl, mem_tb 54 (by decide +kernel) rfl, by decide +kernel, rfl, rfl⟩
theorem imX1_makeOwnerEntry : Cond.instanceMethod yX1_makeOwnerEntry ∈ tb_ := mem_tb 530 (by decide +kernel) rfl
theorem seX1_makeOwnerEntry : Cond.selects RX1 yX1_makeOwnerEntry yX1_makeOwnerEntry ∈ tb_ := mem_tb 531 (by decide +kernel) rfl
abbrev mX1_makeUserEntry : Mi := (yX1_makeUserEntry, cX1_makeUserEntry, 1, none, 0, { frames := 4, cells := 0, slots := 0, locals := 97 })
theorem okX1_makeUserEntry : MiOk mX1_makeUserEntry := ⟨by decide +kernel, mem_tb 536 (by decide +kernel) rfl, mem_tb 54 (by decide +kernel) rfl, by decide +kernel, rfl, rfl⟩
theorem imX1_makeUserEntry : Cond.instanceMethod yX1_makeUserEntry ∈ tb_ := mem_tb 534 (by decide +kernel) rfl
theorem seX1_makeUserEntry : Cond.selects RX1 yX1_makeUserEntry yX1_makeUserEntry ∈ tb_ := mem_tb 535 (by decide +kernel) rfl
abbrev mX1_tryPassword : Mi := (yX1_tryPassword, cX1_tryPassword, 2, (some .int), 1, { frames := 5, cells := 0, slots := 0, locals := 117 })
theorem okX1_tryPassword : MiOk mX1_tryPassword := ⟨by decide +kernel, mem_tb 251 (by decide +kernel) rfl, mem_tb 54 (by decide +kernel) rfl, by decide +kernel, rfl, rfl⟩
theorem imX1_tryPassword : Cond.instanceMethod yX1_tryPassword ∈ tb_ := mem_tb 249 (by decide +kernel) rfl
theorem seX1_tryPassword : Cond.selects RX1 yX1_tryPassword yX1_tryPassword ∈ tb_ := mem_tb 250 (by decide +kernel) rfl
abbrev mX1_objectKey : Mi := (yX1_objectKey, cX1_objectKey, 4, (some (.object "SheetKeys$Row")), 3, { frames := 3, cells := 0, slots := 0, locals := 83 })
theorem okX1_objectKey : MiOk mX1_objectKey := ⟨by decide +kernel, mem_tb 558 (by decide +kernel) rfl, mem_tb 54 (by decide +kernel) rfl, by decide +kernel, rfl, rfl⟩
theorem imX1_objectKey : Cond.instanceMethod yX1_objectKey ∈ tb_ := mem_tb 556 (by decide +kernel) rfl
theorem seX1_objectKey : Cond.selects RX1 yX1_objectKey yX1_objectKey ∈ tb_ := mem_tb 557 (by decide +kernel) rfl
abbrev mX1_addPadded : Mi := (yX1_addPadded, cX1_addPadded, 4, none, 2, { frames := 1, cells := 0, slots := 0, locals := 24 })
theorem okX1_addPadded : MiOk mX1_addPadded := ⟨by decide +kernel, mem_tb 262 (by decide +kernel) rfl, mem_tb 54 (by decide +kernel) rfl, by decide +kernel, rfl, rfl⟩
theorem stX1_addPadded : Cond.static yX1_addPadded ∈ tb_ := mem_tb 261 (by decide +kernel) rfl
abbrev mX1_addPad : Mi := (yX1_addPad, cX1_addPad, 2, none, 1, { frames := 1, cells := 0, slots := 0, locals := 21 })
theorem okX1_addPad : MiOk mX1_addPad := ⟨by decide +kernel, mem_tb 324 (by decide +kernel) rfl, mem_tb 54 (by decide +kernel) rfl, by decide +kernel, rfl, rfl⟩
theorem stX1_addPad : Cond.static yX1_addPad ∈ tb_ := mem_tb 323 (by decide +kernel) rfl
abbrev mX1_deriveKey : Mi := (yX1_deriveKey, cX1_deriveKey, 3, none, 1, { frames := 3, cells := 0, slots := 0, locals := 69 })
theorem okX1_deriveKey : MiOk mX1_deriveKey := ⟨by decide +kernel, mem_tb 255 (by decide +kernel) rfl, mem_tb 54 (by decide +kernel) rfl, by decide +kernel, rfl, rfl⟩
theorem imX1_deriveKey : Cond.instanceMethod yX1_deriveKey ∈ tb_ := mem_tb 254 (by decide +kernel) rfl
theorem seX1_deriveKey : Cond.selects RX1 yX1_deriveKey yX1_deriveKey ∈ tb_ := mem_tb 0 (by decide +kernel) rfl
abbrev mX1_deriveOwnerKey : Mi := (yX1_deriveOwnerKey, cX1_deriveOwnerKey, 3, none, 1, { frames := 3, cells := 0, slots := 0, locals := 69 })
theorem okX1_deriveOwnerKey : MiOk mX1_deriveOwnerKey := ⟨by decide +kernel, mem_tb 349 (by decide +kernel) rfl, mem_tb 54 (by decide +kernel) rfl, by decide +kernel, rfl, rfl⟩
theorem imX1_deriveOwnerKey : Cond.instanceMethod yX1_deriveOwnerKey ∈ tb_ := mem_tb 348 (by decide +kernel) rfl
theorem seX1_deriveOwnerKey : Cond.selects RX1 yX1_deriveOwnerKey yX1_deriveOwnerKey ∈ tb_ := mem_tb 7 (by decide +kernel) rfl
abbrev mX1_streamEntry : Mi := (yX1_streamEntry, cX1_streamEntry, 4, none, 1, { frames := 2, cells := 0, slots := 0, locals := 54 })
theorem okX1_streamEntry : MiOk mX1_streamEntry := ⟨by decide +kernel, mem_tb 328 (by decide +kernel) rfl, mem_tb 54 (by decide +kernel) rfl, by decide +kernel, rfl, rfl⟩
theorem imX1_streamEntry : Cond.instanceMethod yX1_streamEntry ∈ tb_ := mem_tb 327 (by decide +kernel) rfl
theorem seX1_streamEntry : Cond.selects RX1 yX1_streamEntry yX1_streamEntry ∈ tb_ := mem_tb 5 (by decide +kernel) rfl
abbrev mX1_makeEntryByTried : Mi := (yX1_makeEntryByTried, cX1_makeEntryByTried, 1, none, 0, { frames := 3, cells := 0, slots := 0, locals := 77 })
theorem okX1_makeEntryByTried : MiOk mX1_makeEntryByTried := ⟨by decide +kernel, mem_tb 321 (by decide +kernel) rfl, mem_tb 54 (by decide +kernel) rfl, by decide +kernel, rfl, rfl⟩
theorem imX1_makeEntryByTried : Cond.instanceMethod yX1_makeEntryByTried ∈ tb_ := mem_tb 320 (by decide +kernel) rfl
theorem seX1_makeEntryByTried : Cond.selects RX1 yX1_makeEntryByTried yX1_makeEntryByTried ∈ tb_ := mem_tb 4 (by decide +kernel) rfl
abbrev mX1_isTriedTheUsers : Mi := (yX1_isTriedTheUsers, cX1_isTriedTheUsers, 1, (some .boolean), 0, { frames := 4, cells := 0, slots := 0, locals := 97 })
theorem okX1_isTriedTheUsers : MiOk mX1_isTriedTheUsers := ⟨by decide +kernel, mem_tb 317 (by decide +kernel) rfl, mem_tb 54 (by decide +kernel) rfl, by decide +kernel, rfl, rfl⟩
theorem imX1_isTriedTheUsers : Cond.instanceMethod yX1_isTriedTheUsers ∈ tb_ := mem_tb 316 (by decide +kernel) rfl
theorem seX1_isTriedTheUsers : Cond.selects RX1 yX1_isTriedTheUsers yX1_isTriedTheUsers ∈ tb_ := mem_tb 3 (by decide +kernel) rfl
abbrev mX2_hash : Mi := (yX2_hash, cX2_hash, 5, none, 2, { frames := 2, cells := 0, slots := 0, locals := 45 })
theorem okX2_hash : MiOk mX2_hash := ⟨by decide +kernel, mem_tb 288 (by decide +kernel) rfl, mem_tb 55 (by decide +kernel) rfl, by decide +kernel, rfl, rfl⟩
theorem imX2_hash : Cond.instanceMethod yX2_hash ∈ tb_ := mem_tb 286 (by decide +kernel) rfl
theorem seX2_hash : Cond.selects RX2 yX2_hash yX2_hash ∈ tb_ := mem_tb 287 (by decide +kernel) rfl
abbrev mX2_loadWords : Mi := (yX2_loadWords, cX2_loadWords, 5, none, 2, { frames := 1, cells := 0, slots := 0, locals := 21 })
theorem okX2_loadWords : MiOk mX2_loadWords := ⟨by decide +kernel, mem_tb 296 (by decide +kernel) rfl, mem_tb 55 (by decide +kernel) rfl, by decide +kernel, rfl, rfl⟩
theorem imX2_loadWords : Cond.instanceMethod yX2_loadWords ∈ tb_ := mem_tb 295 (by decide +kernel) rfl
theorem seX2_loadWords : Cond.selects RX2 yX2_loadWords yX2_loadWords ∈ tb_ := mem_tb 1 (by decide +kernel) rfl
abbrev mX2_endedByte : Mi := (yX2_endedByte, cX2_endedByte, 2, (some .int), 2, { frames := 0, cells := 0, slots := 0, locals := 0 })
theorem okX2_endedByte : MiOk mX2_endedByte := ⟨by decide +kernel, mem_tb 299 (by decide +kernel) rfl, mem_tb 55 (by decide +kernel) rfl, by decide +kernel, rfl, rfl⟩
theorem stX2_endedByte : Cond.static yX2_endedByte ∈ tb_ := mem_tb 298 (by decide +kernel) rfl
abbrev mX2_mixWords : Mi := (yX2_mixWords, cX2_mixWords, 9, none, 0, { frames := 0, cells := 0, slots := 0, locals := 0 })
theorem okX2_mixWords : MiOk mX2_mixWords := ⟨by decide +kernel, mem_tb 303 (by decide +kernel) rfl, mem_tb 55 (by decide +kernel) rfl, by decide +kernel, rfl, rfl⟩
theorem imX2_mixWords : Cond.instanceMethod yX2_mixWords ∈ tb_ := mem_tb 302 (by decide +kernel) rfl
theorem seX2_mixWords : Cond.selects RX2 yX2_mixWords yX2_mixWords ∈ tb_ := mem_tb 2 (by decide +kernel) rfl
abbrev mX3_byteAt : Mi := (yX3_byteAt, cX3_byteAt, 2, (some .int), 1, { frames := 0, cells := 0, slots := 0, locals := 0 })
theorem okX3_byteAt : MiOk mX3_byteAt := ⟨by decide +kernel, mem_tb 357 (by decide +kernel) rfl, mem_tb 53 (by decide +kernel) rfl, by decide +kernel, rfl, rfl⟩
theorem imX3_byteAt : Cond.instanceMethod yX3_byteAt ∈ tb_ := mem_tb 355 (by decide +kernel) rfl
theorem seX3_byteAt : Cond.selects RX3 yX3_byteAt yX3_byteAt ∈ tb_ := mem_tb 356 (by decide +kernel) rfl
abbrev mX3_clear : Mi := (yX3_clear, cX3_clear, 1, none, 0, { frames := 0, cells := 0, slots := 0, locals := 0 })
theorem okX3_clear : MiOk mX3_clear := ⟨by decide +kernel, mem_tb 259 (by decide +kernel) rfl, mem_tb 53 (by decide +kernel) rfl, by decide +kernel, rfl, rfl⟩
theorem imX3_clear : Cond.instanceMethod yX3_clear ∈ tb_ := mem_tb 257 (by decide +kernel) rfl
theorem seX3_clear : Cond.selects RX3 yX3_clear yX3_clear ∈ tb_ := mem_tb 258 (by decide +kernel) rfl
abbrev mX3_shorten : Mi := (yX3_shorten, cX3_shorten, 2, none, 1, { frames := 0, cells := 0, slots := 0, locals := 0 })
theorem okX3_shorten : MiOk mX3_shorten := ⟨by decide +kernel, mem_tb 313 (by decide +kernel) rfl, mem_tb 53 (by decide +kernel) rfl, by decide +kernel, rfl, rfl⟩
theorem imX3_shorten : Cond.instanceMethod yX3_shorten ∈ tb_ := mem_tb 311 (by decide +kernel) rfl
theorem seX3_shorten : Cond.selects RX3 yX3_shorten yX3_shorten ∈ tb_ := mem_tb 312 (by decide +kernel) rfl
abbrev mX3_add : Mi := (yX3_add, cX3_add, 2, none, 1, { frames := 0, cells := 0, slots := 0, locals := 0 })
theorem okX3_add : MiOk mX3_add := ⟨by decide +kernel, mem_tb 243 (by decide +kernel) rfl, mem_tb 53 (by decide +kernel) rfl, by decide +kernel, rfl, rfl⟩
theorem imX3_add : Cond.instanceMethod yX3_add ∈ tb_ := mem_tb 241 (by decide +kernel) rfl
theorem seX3_add : Cond.selects RX3 yX3_add yX3_add ∈ tb_ := mem_tb 242 (by decide +kernel) rfl
abbrev mX3_addTimes : Mi := (yX3_addTimes, cX3_addTimes, 4, none, 2, { frames := 1, cells := 0, slots := 0, locals := 21 })
theorem okX3_addTimes : MiOk mX3_addTimes := ⟨by decide +kernel, mem_tb 284 (by decide +kernel) rfl, mem_tb 53 (by decide +kernel) rfl, by decide +kernel, rfl, rfl⟩
theorem imX3_addTimes : Cond.instanceMethod yX3_addTimes ∈ tb_ := mem_tb 282 (by decide +kernel) rfl
theorem seX3_addTimes : Cond.selects RX3 yX3_addTimes yX3_addTimes ∈ tb_ := mem_tb 283 (by decide +kernel) rfl
abbrev mX3_addHighestFirst : Mi := (yX3_addHighestFirst, cX3_addHighestFirst, 2, none, 1, { frames := 1, cells := 0, slots := 0, locals := 21 })
theorem okX3_addHighestFirst : MiOk mX3_addHighestFirst := ⟨by decide +kernel, mem_tb 239 (by decide +kernel) rfl, mem_tb 53 (by decide +kernel) rfl, by decide +kernel, rfl, rfl⟩
theorem imX3_addHighestFirst : Cond.instanceMethod yX3_addHighestFirst ∈ tb_ := mem_tb 237 (by decide +kernel) rfl
theorem seX3_addHighestFirst : Cond.selects RX3 yX3_addHighestFirst yX3_addHighestFirst ∈ tb_ := mem_tb 238 (by decide +kernel) rfl
abbrev mX3_addLowestFirst : Mi := (yX3_addLowestFirst, cX3_addLowestFirst, 4, none, 2, { frames := 1, cells := 0, slots := 0, locals := 21 })
theorem okX3_addLowestFirst : MiOk mX3_addLowestFirst := ⟨by decide +kernel, mem_tb 280 (by decide +kernel) rfl, mem_tb 53 (by decide +kernel) rfl, by decide +kernel, rfl, rfl⟩
theorem imX3_addLowestFirst : Cond.instanceMethod yX3_addLowestFirst ∈ tb_ := mem_tb 278 (by decide +kernel) rfl
theorem seX3_addLowestFirst : Cond.selects RX3 yX3_addLowestFirst yX3_addLowestFirst ∈ tb_ := mem_tb 279 (by decide +kernel) rfl
abbrev mX3_addRow : Mi := (yX3_addRow, cX3_addRow, 3, none, 1, { frames := 1, cells := 0, slots := 0, locals := 40 })
theorem okX3_addRow : MiOk mX3_addRow := ⟨by decide +kernel, mem_tb 272 (by decide +kernel) rfl, mem_tb 53 (by decide +kernel) rfl, by decide +kernel, rfl, rfl⟩
theorem imX3_addRow : Cond.instanceMethod yX3_addRow ∈ tb_ := mem_tb 270 (by decide +kernel) rfl
theorem seX3_addRow : Cond.selects RX3 yX3_addRow yX3_addRow ∈ tb_ := mem_tb 271 (by decide +kernel) rfl
abbrev mX3_become : Mi := (yX3_become, cX3_become, 2, none, 1, { frames := 2, cells := 0, slots := 0, locals := 62 })
theorem okX3_become : MiOk mX3_become := ⟨by decide +kernel, mem_tb 344 (by decide +kernel) rfl, mem_tb 53 (by decide +kernel) rfl, by decide +kernel, rfl, rfl⟩
theorem imX3_become : Cond.instanceMethod yX3_become ∈ tb_ := mem_tb 342 (by decide +kernel) rfl
theorem seX3_become : Cond.selects RX3 yX3_become yX3_become ∈ tb_ := mem_tb 343 (by decide +kernel) rfl
abbrev mX3_beginsAs : Mi := (yX3_beginsAs, cX3_beginsAs, 4, (some .boolean), 2, { frames := 0, cells := 0, slots := 0, locals := 0 })
theorem okX3_beginsAs : MiOk mX3_beginsAs := ⟨by decide +kernel, mem_tb 340 (by decide +kernel) rfl, mem_tb 53 (by decide +kernel) rfl, by decide +kernel, rfl, rfl⟩
theorem imX3_beginsAs : Cond.instanceMethod yX3_beginsAs ∈ tb_ := mem_tb 338 (by decide +kernel) rfl
theorem seX3_beginsAs : Cond.selects RX3 yX3_beginsAs yX3_beginsAs ∈ tb_ := mem_tb 339 (by decide +kernel) rfl
abbrev mX4_stream : Mi := (yX4_stream, cX4_stream, 9, none, 3, { frames := 1, cells := 0, slots := 0, locals := 26 })
theorem okX4_stream : MiOk mX4_stream := ⟨by decide +kernel, mem_tb 332 (by decide +kernel) rfl, mem_tb 56 (by decide +kernel) rfl, by decide +kernel, rfl, rfl⟩
theorem imX4_stream : Cond.instanceMethod yX4_stream ∈ tb_ := mem_tb 330 (by decide +kernel) rfl
theorem seX4_stream : Cond.selects RX4 yX4_stream yX4_stream ∈ tb_ := mem_tb 331 (by decide +kernel) rfl
abbrev mX4_mixTable : Mi := (yX4_mixTable, cX4_mixTable, 7, none, 2, { frames := 0, cells := 0, slots := 0, locals := 0 })
theorem okX4_mixTable : MiOk mX4_mixTable := ⟨by decide +kernel, mem_tb 336 (by decide +kernel) rfl, mem_tb 56 (by decide +kernel) rfl, by decide +kernel, rfl, rfl⟩
theorem imX4_mixTable : Cond.instanceMethod yX4_mixTable ∈ tb_ := mem_tb 335 (by decide +kernel) rfl
theorem seX4_mixTable : Cond.selects RX4 yX4_mixTable yX4_mixTable ∈ tb_ := mem_tb 6 (by decide +kernel) rfl
abbrev mX5_feed : Mi := (yX5_feed, cX5_feed, 6, (some .int), 5, { frames := 2, cells := 0, slots := 0, locals := 42 })
theorem okX5_feed : MiOk mX5_feed := ⟨by decide +kernel, mem_tb 235 (by decide +kernel) rfl, mem_tb 52 (by decide +kernel) rfl, by decide +kernel, rfl, rfl⟩
theorem imX5_feed : Cond.instanceMethod yX5_feed ∈ tb_ := mem_tb 233 (by decide +kernel) rfl
theorem seX5_feed : Cond.selects RX5 yX5_feed yX5_feed ∈ tb_ := mem_tb 234 (by decide +kernel) rfl
abbrev mX5_open : Mi := (yX5_open, cX5_open, 1, (some .int), 0, { frames := 6, cells := 0, slots := 0, locals := 138 })
theorem okX5_open : MiOk mX5_open := ⟨by decide +kernel, mem_tb 247 (by decide +kernel) rfl, mem_tb 52 (by decide +kernel) rfl, by decide +kernel, rfl, rfl⟩
theorem imX5_open : Cond.instanceMethod yX5_open ∈ tb_ := mem_tb 245 (by decide +kernel) rfl
theorem seX5_open : Cond.selects RX5 yX5_open yX5_open ∈ tb_ := mem_tb 246 (by decide +kernel) rfl
abbrev mX5_key : Mi := (yX5_key, cX5_key, 2, (some .int), 1, { frames := 1, cells := 0, slots := 0, locals := 21 })
theorem okX5_key : MiOk mX5_key := ⟨by decide +kernel, mem_tb 353 (by decide +kernel) rfl, mem_tb 52 (by decide +kernel) rfl, by decide +kernel, rfl, rfl⟩
theorem imX5_key : Cond.instanceMethod yX5_key ∈ tb_ := mem_tb 351 (by decide +kernel) rfl
theorem seX5_key : Cond.selects RX5 yX5_key yX5_key ∈ tb_ := mem_tb 352 (by decide +kernel) rfl
abbrev mX5_digest : Mi := (yX5_digest, cX5_digest, 1, none, 0, { frames := 3, cells := 0, slots := 0, locals := 69 })
theorem okX5_digest : MiOk mX5_digest := ⟨by decide +kernel, mem_tb 361 (by decide +kernel) rfl, mem_tb 52 (by decide +kernel) rfl, by decide +kernel, rfl, rfl⟩
theorem imX5_digest : Cond.instanceMethod yX5_digest ∈ tb_ := mem_tb 359 (by decide +kernel) rfl
theorem seX5_digest : Cond.selects RX5 yX5_digest yX5_digest ∈ tb_ := mem_tb 360 (by decide +kernel) rfl
abbrev mX5_count : Mi := (yX5_count, cX5_count, 2, (some .int), 1, { frames := 0, cells := 0, slots := 0, locals := 0 })
theorem okX5_count : MiOk mX5_count := ⟨by decide +kernel, mem_tb 366 (by decide +kernel) rfl, mem_tb 52 (by decide +kernel) rfl, by decide +kernel, rfl, rfl⟩
theorem imX5_count : Cond.instanceMethod yX5_count ∈ tb_ := mem_tb 364 (by decide +kernel) rfl
theorem seX5_count : Cond.selects RX5 yX5_count yX5_count ∈ tb_ := mem_tb 365 (by decide +kernel) rfl
abbrev mX5_at : Mi := (yX5_at, cX5_at, 2, (some .int), 1, { frames := 1, cells := 0, slots := 0, locals := 21 })
theorem okX5_at : MiOk mX5_at := ⟨by decide +kernel, mem_tb 370 (by decide +kernel) rfl, mem_tb 52 (by decide +kernel) rfl, by decide +kernel, rfl, rfl⟩
theorem imX5_at : Cond.instanceMethod yX5_at ∈ tb_ := mem_tb 368 (by decide +kernel) rfl
theorem seX5_at : Cond.selects RX5 yX5_at yX5_at ∈ tb_ := mem_tb 369 (by decide +kernel) rfl
abbrev mX5_entry : Mi := (yX5_entry, cX5_entry, 3, (some .int), 2, { frames := 1, cells := 0, slots := 0, locals := 21 })
theorem okX5_entry : MiOk mX5_entry := ⟨by decide +kernel, mem_tb 374 (by decide +kernel) rfl, mem_tb 52 (by decide +kernel) rfl, by decide +kernel, rfl, rfl⟩
theorem imX5_entry : Cond.instanceMethod yX5_entry ∈ tb_ := mem_tb 372 (by decide +kernel) rfl
theorem seX5_entry : Cond.selects RX5 yX5_entry yX5_entry ∈ tb_ := mem_tb 373 (by decide +kernel) rfl
abbrev mX5_keep : Mi := (yX5_keep, cX5_keep, 1, (some .int), 0, { frames := 3, cells := 0, slots := 0, locals := 83 })
theorem okX5_keep : MiOk mX5_keep := ⟨by decide +kernel, mem_tb 378 (by decide +kernel) rfl, mem_tb 52 (by decide +kernel) rfl, by decide +kernel, rfl, rfl⟩
theorem imX5_keep : Cond.instanceMethod yX5_keep ∈ tb_ := mem_tb 376 (by decide +kernel) rfl
theorem seX5_keep : Cond.selects RX5 yX5_keep yX5_keep ∈ tb_ := mem_tb 377 (by decide +kernel) rfl
abbrev mX5_isObject : Mi := (yX5_isObject, cX5_isObject, 3, (some .boolean), 3, { frames := 0, cells := 0, slots := 0, locals := 0 })
theorem okX5_isObject : MiOk mX5_isObject := ⟨by decide +kernel, mem_tb 546 (by decide +kernel) rfl, mem_tb 52 (by decide +kernel) rfl, by decide +kernel, rfl, rfl⟩
theorem stX5_isObject : Cond.static yX5_isObject ∈ tb_ := mem_tb 545 (by decide +kernel) rfl
abbrev mX5_streamOrCopy : Mi := (yX5_streamOrCopy, cX5_streamOrCopy, 4, (some .int), 3, { frames := 4, cells := 0, slots := 0, locals := 106 })
theorem okX5_streamOrCopy : MiOk mX5_streamOrCopy := ⟨by decide +kernel, mem_tb 615 (by decide +kernel) rfl, mem_tb 52 (by decide +kernel) rfl, by decide +kernel, rfl, rfl⟩
theorem imX5_streamOrCopy : Cond.instanceMethod yX5_streamOrCopy ∈ tb_ := mem_tb 614 (by decide +kernel) rfl
theorem seX5_streamOrCopy : Cond.selects RX5 yX5_streamOrCopy yX5_streamOrCopy ∈ tb_ := mem_tb 15 (by decide +kernel) rfl
abbrev mX5_undoBlocks : Mi := (yX5_undoBlocks, cX5_undoBlocks, 7, (some .int), 2, { frames := 5, cells := 0, slots := 0, locals := 112 })
theorem okX5_undoBlocks : MiOk mX5_undoBlocks := ⟨by decide +kernel, mem_tb 554 (by decide +kernel) rfl, mem_tb 52 (by decide +kernel) rfl, by decide +kernel, rfl, rfl⟩
theorem imX5_undoBlocks : Cond.instanceMethod yX5_undoBlocks ∈ tb_ := mem_tb 553 (by decide +kernel) rfl
theorem seX5_undoBlocks : Cond.selects RX5 yX5_undoBlocks yX5_undoBlocks ∈ tb_ := mem_tb 9 (by decide +kernel) rfl
abbrev mX5_unchain : Mi := (yX5_unchain, cX5_unchain, 3, none, 2, { frames := 4, cells := 0, slots := 0, locals := 90 })
theorem okX5_unchain : MiOk mX5_unchain := ⟨by decide +kernel, mem_tb 571 (by decide +kernel) rfl, mem_tb 52 (by decide +kernel) rfl, by decide +kernel, rfl, rfl⟩
theorem imX5_unchain : Cond.instanceMethod yX5_unchain ∈ tb_ := mem_tb 570 (by decide +kernel) rfl
theorem seX5_unchain : Cond.selects RX5 yX5_unchain yX5_unchain ∈ tb_ := mem_tb 10 (by decide +kernel) rfl
abbrev mX5_fillingBytes : Mi := (yX5_fillingBytes, cX5_fillingBytes, 1, (some .int), 0, { frames := 0, cells := 0, slots := 0, locals := 0 })
theorem okX5_fillingBytes : MiOk mX5_fillingBytes := ⟨by decide +kernel, mem_tb 627 (by decide +kernel) rfl, mem_tb 52 (by decide +kernel) rfl, by decide +kernel, rfl, rfl⟩
theorem imX5_fillingBytes : Cond.instanceMethod yX5_fillingBytes ∈ tb_ := mem_tb 626 (by decide +kernel) rfl
theorem seX5_fillingBytes : Cond.selects RX5 yX5_fillingBytes yX5_fillingBytes ∈ tb_ := mem_tb 16 (by decide +kernel) rfl
abbrev mX5_sealBlocks : Mi := (yX5_sealBlocks, cX5_sealBlocks, 8, (some .int), 4, { frames := 4, cells := 0, slots := 0, locals := 106 })
theorem okX5_sealBlocks : MiOk mX5_sealBlocks := ⟨by decide +kernel, mem_tb 632 (by decide +kernel) rfl, mem_tb 52 (by decide +kernel) rfl, by decide +kernel, rfl, rfl⟩
theorem imX5_sealBlocks : Cond.instanceMethod yX5_sealBlocks ∈ tb_ := mem_tb 631 (by decide +kernel) rfl
theorem seX5_sealBlocks : Cond.selects RX5 yX5_sealBlocks yX5_sealBlocks ∈ tb_ := mem_tb 17 (by decide +kernel) rfl
abbrev mX6_thrown : Mi := (yX6_thrown, cX6_thrown, 1, (some .int), 0, { frames := 0, cells := 0, slots := 0, locals := 0 })
theorem okX6_thrown : MiOk mX6_thrown := ⟨by decide +kernel, mem_tb 825 (by decide +kernel) rfl, mem_tb 58 (by decide +kernel) rfl, by decide +kernel, rfl, rfl⟩
theorem imX6_thrown : Cond.instanceMethod yX6_thrown ∈ tb_ := mem_tb 823 (by decide +kernel) rfl
theorem seX6_thrown : Cond.selects RX6 yX6_thrown yX6_thrown ∈ tb_ := mem_tb 824 (by decide +kernel) rfl
abbrev mX6_refused : Mi := (yX6_refused, cX6_refused, 2, (some .boolean), 1, { frames := 0, cells := 0, slots := 0, locals := 0 })
theorem okX6_refused : MiOk mX6_refused := ⟨by decide +kernel, mem_tb 837 (by decide +kernel) rfl, mem_tb 58 (by decide +kernel) rfl, by decide +kernel, rfl, rfl⟩
theorem imX6_refused : Cond.instanceMethod yX6_refused ∈ tb_ := mem_tb 836 (by decide +kernel) rfl
theorem seX6_refused : Cond.selects RX6 yX6_refused yX6_refused ∈ tb_ := mem_tb 19 (by decide +kernel) rfl
abbrev mX6_feed : Mi := (yX6_feed, cX6_feed, 8, (some .int), 5, { frames := 0, cells := 0, slots := 0, locals := 0 })
theorem okX6_feed : MiOk mX6_feed := ⟨by decide +kernel, mem_tb 829 (by decide +kernel) rfl, mem_tb 58 (by decide +kernel) rfl, by decide +kernel, rfl, rfl⟩
theorem imX6_feed : Cond.instanceMethod yX6_feed ∈ tb_ := mem_tb 827 (by decide +kernel) rfl
theorem seX6_feed : Cond.selects RX6 yX6_feed yX6_feed ∈ tb_ := mem_tb 828 (by decide +kernel) rfl
abbrev mX6_put : Mi := (yX6_put, cX6_put, 4, (some .int), 2, { frames := 1, cells := 0, slots := 0, locals := 21 })
theorem okX6_put : MiOk mX6_put := ⟨by decide +kernel, mem_tb 833 (by decide +kernel) rfl, mem_tb 58 (by decide +kernel) rfl, by decide +kernel, rfl, rfl⟩
theorem imX6_put : Cond.instanceMethod yX6_put ∈ tb_ := mem_tb 831 (by decide +kernel) rfl
theorem seX6_put : Cond.selects RX6 yX6_put yX6_put ∈ tb_ := mem_tb 832 (by decide +kernel) rfl
abbrev mX6_cut : Mi := (yX6_cut, cX6_cut, 3, (some .int), 1, { frames := 1, cells := 0, slots := 0, locals := 21 })
theorem okX6_cut : MiOk mX6_cut := ⟨by decide +kernel, mem_tb 841 (by decide +kernel) rfl, mem_tb 58 (by decide +kernel) rfl, by decide +kernel, rfl, rfl⟩
theorem imX6_cut : Cond.instanceMethod yX6_cut ∈ tb_ := mem_tb 839 (by decide +kernel) rfl
theorem seX6_cut : Cond.selects RX6 yX6_cut yX6_cut ∈ tb_ := mem_tb 840 (by decide +kernel) rfl
abbrev mX6_say : Mi := (yX6_say, cX6_say, 2, none, 1, { frames := 0, cells := 0, slots := 0, locals := 0 })
theorem okX6_say : MiOk mX6_say := ⟨by decide +kernel, mem_tb 869 (by decide +kernel) rfl, mem_tb 58 (by decide +kernel) rfl, by decide +kernel, rfl, rfl⟩
theorem imX6_say : Cond.instanceMethod yX6_say ∈ tb_ := mem_tb 868 (by decide +kernel) rfl
theorem seX6_say : Cond.selects RX6 yX6_say yX6_say ∈ tb_ := mem_tb 23 (by decide +kernel) rfl
abbrev mX6_turned : Mi := (yX6_turned, cX6_turned, 2, (some .int), 2, { frames := 0, cells := 0, slots := 0, locals := 0 })
theorem okX6_turned : MiOk mX6_turned := ⟨by decide +kernel, mem_tb 888 (by decide +kernel) rfl, mem_tb 58 (by decide +kernel) rfl, by decide +kernel, rfl, rfl⟩
theorem stX6_turned : Cond.static yX6_turned ∈ tb_ := mem_tb 887 (by decide +kernel) rfl
abbrev mX6_word : Mi := (yX6_word, cX6_word, 2, (some .int), 1, { frames := 0, cells := 0, slots := 0, locals := 0 })
theorem okX6_word : MiOk mX6_word := ⟨by decide +kernel, mem_tb 885 (by decide +kernel) rfl, mem_tb 58 (by decide +kernel) rfl, by decide +kernel, rfl, rfl⟩
theorem imX6_word : Cond.instanceMethod yX6_word ∈ tb_ := mem_tb 884 (by decide +kernel) rfl
theorem seX6_word : Cond.selects RX6 yX6_word yX6_word ∈ tb_ := mem_tb 26 (by decide +kernel) rfl
abbrev mX6_digestBlock : Mi := (yX6_digestBlock, cX6_digestBlock, 10, none, 1, { frames := 1, cells := 0, slots := 0, locals := 21 })
theorem okX6_digestBlock : MiOk mX6_digestBlock := ⟨by decide +kernel, mem_tb 881 (by decide +kernel) rfl, mem_tb 58 (by decide +kernel) rfl, by decide +kernel, rfl, rfl⟩
theorem imX6_digestBlock : Cond.instanceMethod yX6_digestBlock ∈ tb_ := mem_tb 880 (by decide +kernel) rfl
theorem seX6_digestBlock : Cond.selects RX6 yX6_digestBlock yX6_digestBlock ∈ tb_ := mem_tb 25 (by decide +kernel) rfl
abbrev mX6_finish : Mi := (yX6_finish, cX6_finish, 3, none, 0, { frames := 2, cells := 0, slots := 0, locals := 50 })
theorem okX6_finish : MiOk mX6_finish := ⟨by decide +kernel, mem_tb 873 (by decide +kernel) rfl, mem_tb 58 (by decide +kernel) rfl, by decide +kernel, rfl, rfl⟩
theorem imX6_finish : Cond.instanceMethod yX6_finish ∈ tb_ := mem_tb 872 (by decide +kernel) rfl
theorem seX6_finish : Cond.selects RX6 yX6_finish yX6_finish ∈ tb_ := mem_tb 24 (by decide +kernel) rfl
abbrev mX6_again : Mi := (yX6_again, cX6_again, 5, none, 2, { frames := 3, cells := 0, slots := 0, locals := 72 })
theorem okX6_again : MiOk mX6_again := ⟨by decide +kernel, mem_tb 892 (by decide +kernel) rfl, mem_tb 58 (by decide +kernel) rfl, by decide +kernel, rfl, rfl⟩
theorem imX6_again : Cond.instanceMethod yX6_again ∈ tb_ := mem_tb 891 (by decide +kernel) rfl
theorem seX6_again : Cond.selects RX6 yX6_again yX6_again ∈ tb_ := mem_tb 27 (by decide +kernel) rfl
abbrev mX6_mix : Mi := (yX6_mix, cX6_mix, 5, none, 1, { frames := 0, cells := 0, slots := 0, locals := 0 })
theorem okX6_mix : MiOk mX6_mix := ⟨by decide +kernel, mem_tb 904 (by decide +kernel) rfl, mem_tb 58 (by decide +kernel) rfl, by decide +kernel, rfl, rfl⟩
theorem imX6_mix : Cond.instanceMethod yX6_mix ∈ tb_ := mem_tb 903 (by decide +kernel) rfl
theorem seX6_mix : Cond.selects RX6 yX6_mix yX6_mix ∈ tb_ := mem_tb 30 (by decide +kernel) rfl
abbrev mX6_stream : Mi := (yX6_stream, cX6_stream, 7, none, 2, { frames := 1, cells := 0, slots := 0, locals := 24 })
theorem okX6_stream : MiOk mX6_stream := ⟨by decide +kernel, mem_tb 900 (by decide +kernel) rfl, mem_tb 58 (by decide +kernel) rfl, by decide +kernel, rfl, rfl⟩
theorem imX6_stream : Cond.instanceMethod yX6_stream ∈ tb_ := mem_tb 899 (by decide +kernel) rfl
theorem seX6_stream : Cond.selects RX6 yX6_stream yX6_stream ∈ tb_ := mem_tb 29 (by decide +kernel) rfl
abbrev mX6_streamRow : Mi := (yX6_streamRow, cX6_streamRow, 5, none, 0, { frames := 1, cells := 0, slots := 0, locals := 24 })
theorem okX6_streamRow : MiOk mX6_streamRow := ⟨by decide +kernel, mem_tb 999 (by decide +kernel) rfl, mem_tb 58 (by decide +kernel) rfl, by decide +kernel, rfl, rfl⟩
theorem imX6_streamRow : Cond.instanceMethod yX6_streamRow ∈ tb_ := mem_tb 998 (by decide +kernel) rfl
theorem seX6_streamRow : Cond.selects RX6 yX6_streamRow yX6_streamRow ∈ tb_ := mem_tb 47 (by decide +kernel) rfl
abbrev mX6_padWord : Mi := (yX6_padWord, cX6_padWord, 4, none, 1, { frames := 0, cells := 0, slots := 0, locals := 0 })
theorem okX6_padWord : MiOk mX6_padWord := ⟨by decide +kernel, mem_tb 861 (by decide +kernel) rfl, mem_tb 58 (by decide +kernel) rfl, by decide +kernel, rfl, rfl⟩
theorem imX6_padWord : Cond.instanceMethod yX6_padWord ∈ tb_ := mem_tb 860 (by decide +kernel) rfl
theorem seX6_padWord : Cond.selects RX6 yX6_padWord yX6_padWord ∈ tb_ := mem_tb 21 (by decide +kernel) rfl
abbrev mX6_makeKey : Mi := (yX6_makeKey, cX6_makeKey, 2, none, 0, { frames := 4, cells := 0, slots := 0, locals := 96 })
theorem okX6_makeKey : MiOk mX6_makeKey := ⟨by decide +kernel, mem_tb 908 (by decide +kernel) rfl, mem_tb 58 (by decide +kernel) rfl, by decide +kernel, rfl, rfl⟩
theorem imX6_makeKey : Cond.instanceMethod yX6_makeKey ∈ tb_ := mem_tb 907 (by decide +kernel) rfl
theorem seX6_makeKey : Cond.selects RX6 yX6_makeKey yX6_makeKey ∈ tb_ := mem_tb 31 (by decide +kernel) rfl
abbrev mX6_takeHand : Mi := (yX6_takeHand, cX6_takeHand, 3, none, 1, { frames := 0, cells := 0, slots := 0, locals := 0 })
theorem okX6_takeHand : MiOk mX6_takeHand := ⟨by decide +kernel, mem_tb 896 (by decide +kernel) rfl, mem_tb 58 (by decide +kernel) rfl, by decide +kernel, rfl, rfl⟩
theorem imX6_takeHand : Cond.instanceMethod yX6_takeHand ∈ tb_ := mem_tb 895 (by decide +kernel) rfl
theorem seX6_takeHand : Cond.selects RX6 yX6_takeHand yX6_takeHand ∈ tb_ := mem_tb 28 (by decide +kernel) rfl
abbrev mX6_makeOwnerKey : Mi := (yX6_makeOwnerKey, cX6_makeOwnerKey, 2, none, 0, { frames := 4, cells := 0, slots := 0, locals := 96 })
theorem okX6_makeOwnerKey : MiOk mX6_makeOwnerKey := ⟨by decide +kernel, mem_tb 865 (by decide +kernel) rfl, mem_tb 58 (by decide +kernel) rfl, by decide +kernel, rfl, rfl⟩
theorem imX6_makeOwnerKey : Cond.instanceMethod yX6_makeOwnerKey ∈ tb_ := mem_tb 864 (by decide +kernel) rfl
theorem seX6_makeOwnerKey : Cond.selects RX6 yX6_makeOwnerKey yX6_makeOwnerKey ∈ tb_ := mem_tb 22 (by decide +kernel) rfl
abbrev mX6_makeUserEntry : Mi := (yX6_makeUserEntry, cX6_makeUserEntry, 2, none, 0, { frames := 3, cells := 0, slots := 0, locals := 72 })
theorem okX6_makeUserEntry : MiOk mX6_makeUserEntry := ⟨by decide +kernel, mem_tb 912 (by decide +kernel) rfl, mem_tb 58 (by decide +kernel) rfl, by decide +kernel, rfl, rfl⟩
theorem imX6_makeUserEntry : Cond.instanceMethod yX6_makeUserEntry ∈ tb_ := mem_tb 911 (by decide +kernel) rfl
theorem seX6_makeUserEntry : Cond.selects RX6 yX6_makeUserEntry yX6_makeUserEntry ∈ tb_ := mem_tb 32 (by decide +kernel) rfl
abbrev mX6_handler : Mi := (yX6_handler, cX6_handler, 6, none, 4, { frames := 1, cells := 0, slots := 0, locals := 21 })
theorem okX6_handler : MiOk mX6_handler := ⟨by decide +kernel, mem_tb 845 (by decide +kernel) rfl, mem_tb 58 (by decide +kernel) rfl, by decide +kernel, rfl, rfl⟩
theorem imX6_handler : Cond.instanceMethod yX6_handler ∈ tb_ := mem_tb 843 (by decide +kernel) rfl
theorem seX6_handler : Cond.selects RX6 yX6_handler yX6_handler ∈ tb_ := mem_tb 844 (by decide +kernel) rfl
abbrev mX6_take : Mi := (yX6_take, cX6_take, 5, (some .int), 1, { frames := 1, cells := 0, slots := 0, locals := 21 })
theorem okX6_take : MiOk mX6_take := ⟨by decide +kernel, mem_tb 849 (by decide +kernel) rfl, mem_tb 58 (by decide +kernel) rfl, by decide +kernel, rfl, rfl⟩
theorem imX6_take : Cond.instanceMethod yX6_take ∈ tb_ := mem_tb 847 (by decide +kernel) rfl
theorem seX6_take : Cond.selects RX6 yX6_take yX6_take ∈ tb_ := mem_tb 848 (by decide +kernel) rfl
abbrev mX6_makeOwnerEntry : Mi := (yX6_makeOwnerEntry, cX6_makeOwnerEntry, 2, none, 0, { frames := 5, cells := 0, slots := 0, locals := 117 })
theorem okX6_makeOwnerEntry : MiOk mX6_makeOwnerEntry := ⟨by decide +kernel, mem_tb 857 (by decide +kernel) rfl, mem_tb 58 (by decide +kernel) rfl, by decide +kernel, rfl, rfl⟩
theorem imX6_makeOwnerEntry : Cond.instanceMethod yX6_makeOwnerEntry ∈ tb_ := mem_tb 856 (by decide +kernel) rfl
theorem seX6_makeOwnerEntry : Cond.selects RX6 yX6_makeOwnerEntry yX6_makeOwnerEntry ∈ tb_ := mem_tb 20 (by decide +kernel) rfl
abbrev mX6_enter : Mi := (yX6_enter, cX6_enter, 3, none, 1, { frames := 6, cells := 0, slots := 0, locals := 138 })
theorem okX6_enter : MiOk mX6_enter := ⟨by decide +kernel, mem_tb 853 (by decide +kernel) rfl, mem_tb 58 (by decide +kernel) rfl, by decide +kernel, rfl, rfl⟩
theorem imX6_enter : Cond.instanceMethod yX6_enter ∈ tb_ := mem_tb 851 (by decide +kernel) rfl
theorem seX6_enter : Cond.selects RX6 yX6_enter yX6_enter ∈ tb_ := mem_tb 852 (by decide +kernel) rfl
abbrev mX6_isUsers : Mi := (yX6_isUsers, cX6_isUsers, 3, (some .boolean), 0, { frames := 5, cells := 0, slots := 0, locals := 117 })
theorem okX6_isUsers : MiOk mX6_isUsers := ⟨by decide +kernel, mem_tb 920 (by decide +kernel) rfl, mem_tb 58 (by decide +kernel) rfl, by decide +kernel, rfl, rfl⟩
theorem imX6_isUsers : Cond.instanceMethod yX6_isUsers ∈ tb_ := mem_tb 919 (by decide +kernel) rfl
theorem seX6_isUsers : Cond.selects RX6 yX6_isUsers yX6_isUsers ∈ tb_ := mem_tb 33 (by decide +kernel) rfl
abbrev mX6_know : Mi := (yX6_know, cX6_know, 2, none, 0, { frames := 0, cells := 0, slots := 0, locals := 0 })
theorem okX6_know : MiOk mX6_know := ⟨by decide +kernel, mem_tb 924 (by decide +kernel) rfl, mem_tb 58 (by decide +kernel) rfl, by decide +kernel, rfl, rfl⟩
theorem imX6_know : Cond.instanceMethod yX6_know ∈ tb_ := mem_tb 923 (by decide +kernel) rfl
theorem seX6_know : Cond.selects RX6 yX6_know yX6_know ∈ tb_ := mem_tb 34 (by decide +kernel) rfl
abbrev mX6_open : Mi := (yX6_open, cX6_open, 2, (some .int), 0, { frames := 6, cells := 0, slots := 0, locals := 139 })
theorem okX6_open : MiOk mX6_open := ⟨by decide +kernel, mem_tb 916 (by decide +kernel) rfl, mem_tb 58 (by decide +kernel) rfl, by decide +kernel, rfl, rfl⟩
theorem imX6_open : Cond.instanceMethod yX6_open ∈ tb_ := mem_tb 914 (by decide +kernel) rfl
theorem seX6_open : Cond.selects RX6 yX6_open yX6_open ∈ tb_ := mem_tb 915 (by decide +kernel) rfl
abbrev mX6_key : Mi := (yX6_key, cX6_key, 2, (some .int), 1, { frames := 0, cells := 0, slots := 0, locals := 0 })
theorem okX6_key : MiOk mX6_key := ⟨by decide +kernel, mem_tb 928 (by decide +kernel) rfl, mem_tb 58 (by decide +kernel) rfl, by decide +kernel, rfl, rfl⟩
theorem imX6_key : Cond.instanceMethod yX6_key ∈ tb_ := mem_tb 926 (by decide +kernel) rfl
theorem seX6_key : Cond.selects RX6 yX6_key yX6_key ∈ tb_ := mem_tb 927 (by decide +kernel) rfl
abbrev mX6_digest : Mi := (yX6_digest, cX6_digest, 2, none, 0, { frames := 3, cells := 0, slots := 0, locals := 72 })
theorem okX6_digest : MiOk mX6_digest := ⟨by decide +kernel, mem_tb 932 (by decide +kernel) rfl, mem_tb 58 (by decide +kernel) rfl, by decide +kernel, rfl, rfl⟩
theorem imX6_digest : Cond.instanceMethod yX6_digest ∈ tb_ := mem_tb 930 (by decide +kernel) rfl
theorem seX6_digest : Cond.selects RX6 yX6_digest yX6_digest ∈ tb_ := mem_tb 931 (by decide +kernel) rfl
abbrev mX6_doubled : Mi := (yX6_doubled, cX6_doubled, 1, (some .int), 1, { frames := 0, cells := 0, slots := 0, locals := 0 })
theorem okX6_doubled : MiOk mX6_doubled := ⟨by decide +kernel, mem_tb 967 (by decide +kernel) rfl, mem_tb 58 (by decide +kernel) rfl, by decide +kernel, rfl, rfl⟩
theorem stX6_doubled : Cond.static yX6_doubled ∈ tb_ := mem_tb 966 (by decide +kernel) rfl
abbrev mX6_product : Mi := (yX6_product, cX6_product, 5, (some .int), 2, { frames := 1, cells := 0, slots := 0, locals := 20 })
theorem okX6_product : MiOk mX6_product := ⟨by decide +kernel, mem_tb 964 (by decide +kernel) rfl, mem_tb 58 (by decide +kernel) rfl, by decide +kernel, rfl, rfl⟩
theorem stX6_product : Cond.static yX6_product ∈ tb_ := mem_tb 963 (by decide +kernel) rfl
abbrev mX6_swapped : Mi := (yX6_swapped, cX6_swapped, 4, (some .int), 1, { frames := 2, cells := 0, slots := 0, locals := 44 })
theorem okX6_swapped : MiOk mX6_swapped := ⟨by decide +kernel, mem_tb 961 (by decide +kernel) rfl, mem_tb 58 (by decide +kernel) rfl, by decide +kernel, rfl, rfl⟩
theorem stX6_swapped : Cond.static yX6_swapped ∈ tb_ := mem_tb 960 (by decide +kernel) rfl
abbrev mX6_unswapped : Mi := (yX6_unswapped, cX6_unswapped, 2, (some .int), 1, { frames := 0, cells := 0, slots := 0, locals := 0 })
theorem okX6_unswapped : MiOk mX6_unswapped := ⟨by decide +kernel, mem_tb 995 (by decide +kernel) rfl, mem_tb 58 (by decide +kernel) rfl, by decide +kernel, rfl, rfl⟩
theorem imX6_unswapped : Cond.instanceMethod yX6_unswapped ∈ tb_ := mem_tb 994 (by decide +kernel) rfl
theorem seX6_unswapped : Cond.selects RX6 yX6_unswapped yX6_unswapped ∈ tb_ := mem_tb 46 (by decide +kernel) rfl
abbrev mX6_makeSwaps : Mi := (yX6_makeSwaps, cX6_makeSwaps, 2, none, 0, { frames := 3, cells := 0, slots := 0, locals := 67 })
theorem okX6_makeSwaps : MiOk mX6_makeSwaps := ⟨by decide +kernel, mem_tb 958 (by decide +kernel) rfl, mem_tb 58 (by decide +kernel) rfl, by decide +kernel, rfl, rfl⟩
theorem imX6_makeSwaps : Cond.instanceMethod yX6_makeSwaps ∈ tb_ := mem_tb 957 (by decide +kernel) rfl
theorem seX6_makeSwaps : Cond.selects RX6 yX6_makeSwaps yX6_makeSwaps ∈ tb_ := mem_tb 39 (by decide +kernel) rfl
abbrev mX6_makeColumns : Mi := (yX6_makeColumns, cX6_makeColumns, 5, none, 0, { frames := 4, cells := 0, slots := 0, locals := 88 })
theorem okX6_makeColumns : MiOk mX6_makeColumns := ⟨by decide +kernel, mem_tb 954 (by decide +kernel) rfl, mem_tb 58 (by decide +kernel) rfl, by decide +kernel, rfl, rfl⟩
theorem imX6_makeColumns : Cond.instanceMethod yX6_makeColumns ∈ tb_ := mem_tb 953 (by decide +kernel) rfl
theorem seX6_makeColumns : Cond.selects RX6 yX6_makeColumns yX6_makeColumns ∈ tb_ := mem_tb 38 (by decide +kernel) rfl
abbrev mX6_addKey : Mi := (yX6_addKey, cX6_addKey, 3, none, 1, { frames := 0, cells := 0, slots := 0, locals := 0 })
theorem okX6_addKey : MiOk mX6_addKey := ⟨by decide +kernel, mem_tb 983 (by decide +kernel) rfl, mem_tb 58 (by decide +kernel) rfl, by decide +kernel, rfl, rfl⟩
theorem imX6_addKey : Cond.instanceMethod yX6_addKey ∈ tb_ := mem_tb 982 (by decide +kernel) rfl
theorem seX6_addKey : Cond.selects RX6 yX6_addKey yX6_addKey ∈ tb_ := mem_tb 43 (by decide +kernel) rfl
abbrev mX6_shift : Mi := (yX6_shift, cX6_shift, 4, none, 1, { frames := 0, cells := 0, slots := 0, locals := 0 })
theorem okX6_shift : MiOk mX6_shift := ⟨by decide +kernel, mem_tb 991 (by decide +kernel) rfl, mem_tb 58 (by decide +kernel) rfl, by decide +kernel, rfl, rfl⟩
theorem imX6_shift : Cond.instanceMethod yX6_shift ∈ tb_ := mem_tb 990 (by decide +kernel) rfl
theorem seX6_shift : Cond.selects RX6 yX6_shift yX6_shift ∈ tb_ := mem_tb 45 (by decide +kernel) rfl
abbrev mX6_mixColumns : Mi := (yX6_mixColumns, cX6_mixColumns, 8, none, 4, { frames := 2, cells := 0, slots := 0, locals := 44 })
theorem okX6_mixColumns : MiOk mX6_mixColumns := ⟨by decide +kernel, mem_tb 987 (by decide +kernel) rfl, mem_tb 58 (by decide +kernel) rfl, by decide +kernel, rfl, rfl⟩
theorem imX6_mixColumns : Cond.instanceMethod yX6_mixColumns ∈ tb_ := mem_tb 986 (by decide +kernel) rfl
theorem seX6_mixColumns : Cond.selects RX6 yX6_mixColumns yX6_mixColumns ∈ tb_ := mem_tb 44 (by decide +kernel) rfl
abbrev mX6_makeBlock : Mi := (yX6_makeBlock, cX6_makeBlock, 3, none, 0, { frames := 3, cells := 0, slots := 0, locals := 71 })
theorem okX6_makeBlock : MiOk mX6_makeBlock := ⟨by decide +kernel, mem_tb 1015 (by decide +kernel) rfl, mem_tb 58 (by decide +kernel) rfl, by decide +kernel, rfl, rfl⟩
theorem imX6_makeBlock : Cond.instanceMethod yX6_makeBlock ∈ tb_ := mem_tb 1014 (by decide +kernel) rfl
theorem seX6_makeBlock : Cond.selects RX6 yX6_makeBlock yX6_makeBlock ∈ tb_ := mem_tb 50 (by decide +kernel) rfl
abbrev mX6_undoBlock : Mi := (yX6_undoBlock, cX6_undoBlock, 3, none, 0, { frames := 3, cells := 0, slots := 0, locals := 71 })
theorem okX6_undoBlock : MiOk mX6_undoBlock := ⟨by decide +kernel, mem_tb 979 (by decide +kernel) rfl, mem_tb 58 (by decide +kernel) rfl, by decide +kernel, rfl, rfl⟩
theorem imX6_undoBlock : Cond.instanceMethod yX6_undoBlock ∈ tb_ := mem_tb 978 (by decide +kernel) rfl
theorem seX6_undoBlock : Cond.selects RX6 yX6_undoBlock yX6_undoBlock ∈ tb_ := mem_tb 42 (by decide +kernel) rfl
abbrev mX6_makeObjectKey : Mi := (yX6_makeObjectKey, cX6_makeObjectKey, 5, none, 3, { frames := 3, cells := 0, slots := 0, locals := 72 })
theorem okX6_makeObjectKey : MiOk mX6_makeObjectKey := ⟨by decide +kernel, mem_tb 946 (by decide +kernel) rfl, mem_tb 58 (by decide +kernel) rfl, by decide +kernel, rfl, rfl⟩
theorem imX6_makeObjectKey : Cond.instanceMethod yX6_makeObjectKey ∈ tb_ := mem_tb 945 (by decide +kernel) rfl
theorem seX6_makeObjectKey : Cond.selects RX6 yX6_makeObjectKey yX6_makeObjectKey ∈ tb_ := mem_tb 36 (by decide +kernel) rfl
abbrev mX6_isSound : Mi := (yX6_isSound, cX6_isSound, 4, (some .boolean), 3, { frames := 0, cells := 0, slots := 0, locals := 0 })
theorem okX6_isSound : MiOk mX6_isSound := ⟨by decide +kernel, mem_tb 940 (by decide +kernel) rfl, mem_tb 58 (by decide +kernel) rfl, by decide +kernel, rfl, rfl⟩
theorem imX6_isSound : Cond.instanceMethod yX6_isSound ∈ tb_ := mem_tb 939 (by decide +kernel) rfl
theorem seX6_isSound : Cond.selects RX6 yX6_isSound yX6_isSound ∈ tb_ := mem_tb 35 (by decide +kernel) rfl
abbrev mX6_copy : Mi := (yX6_copy, cX6_copy, 2, none, 0, { frames := 0, cells := 0, slots := 0, locals := 0 })
theorem okX6_copy : MiOk mX6_copy := ⟨by decide +kernel, mem_tb 1003 (by decide +kernel) rfl, mem_tb 58 (by decide +kernel) rfl, by decide +kernel, rfl, rfl⟩
theorem imX6_copy : Cond.instanceMethod yX6_copy ∈ tb_ := mem_tb 1002 (by decide +kernel) rfl
theorem seX6_copy : Cond.selects RX6 yX6_copy yX6_copy ∈ tb_ := mem_tb 48 (by decide +kernel) rfl
abbrev mX6_filling : Mi := (yX6_filling, cX6_filling, 4, (some .int), 0, { frames := 5, cells := 0, slots := 0, locals := 115 })
theorem okX6_filling : MiOk mX6_filling := ⟨by decide +kernel, mem_tb 971 (by decide +kernel) rfl, mem_tb 58 (by decide +kernel) rfl, by decide +kernel, rfl, rfl⟩
theorem imX6_filling : Cond.instanceMethod yX6_filling ∈ tb_ := mem_tb 970 (by decide +kernel) rfl
theorem seX6_filling : Cond.selects RX6 yX6_filling yX6_filling ∈ tb_ := mem_tb 40 (by decide +kernel) rfl
abbrev mX6_undoAt : Mi := (yX6_undoAt, cX6_undoAt, 3, none, 1, { frames := 4, cells := 0, slots := 0, locals := 93 })
theorem okX6_undoAt : MiOk mX6_undoAt := ⟨by decide +kernel, mem_tb 975 (by decide +kernel) rfl, mem_tb 58 (by decide +kernel) rfl, by decide +kernel, rfl, rfl⟩
theorem imX6_undoAt : Cond.instanceMethod yX6_undoAt ∈ tb_ := mem_tb 974 (by decide +kernel) rfl
theorem seX6_undoAt : Cond.selects RX6 yX6_undoAt yX6_undoAt ∈ tb_ := mem_tb 41 (by decide +kernel) rfl
abbrev mX6_undoBlocks : Mi := (yX6_undoBlocks, cX6_undoBlocks, 4, (some .int), 0, { frames := 6, cells := 0, slots := 0, locals := 138 })
theorem okX6_undoBlocks : MiOk mX6_undoBlocks := ⟨by decide +kernel, mem_tb 950 (by decide +kernel) rfl, mem_tb 58 (by decide +kernel) rfl, by decide +kernel, rfl, rfl⟩
theorem imX6_undoBlocks : Cond.instanceMethod yX6_undoBlocks ∈ tb_ := mem_tb 949 (by decide +kernel) rfl
theorem seX6_undoBlocks : Cond.selects RX6 yX6_undoBlocks yX6_undoBlocks ∈ tb_ := mem_tb 37 (by decide +kernel) rfl
abbrev mX6_undo : Mi := (yX6_undo, cX6_undo, 4, (some .int), 3, { frames := 7, cells := 0, slots := 0, locals := 161 })
theorem okX6_undo : MiOk mX6_undo := ⟨by decide +kernel, mem_tb 936 (by decide +kernel) rfl, mem_tb 58 (by decide +kernel) rfl, by decide +kernel, rfl, rfl⟩
theorem imX6_undo : Cond.instanceMethod yX6_undo ∈ tb_ := mem_tb 934 (by decide +kernel) rfl
theorem seX6_undo : Cond.selects RX6 yX6_undo yX6_undo ∈ tb_ := mem_tb 935 (by decide +kernel) rfl
abbrev mX6_sealBlocks : Mi := (yX6_sealBlocks, cX6_sealBlocks, 7, none, 2, { frames := 5, cells := 0, slots := 0, locals := 112 })
theorem okX6_sealBlocks : MiOk mX6_sealBlocks := ⟨by decide +kernel, mem_tb 1011 (by decide +kernel) rfl, mem_tb 58 (by decide +kernel) rfl, by decide +kernel, rfl, rfl⟩
theorem imX6_sealBlocks : Cond.instanceMethod yX6_sealBlocks ∈ tb_ := mem_tb 1010 (by decide +kernel) rfl
theorem seX6_sealBlocks : Cond.selects RX6 yX6_sealBlocks yX6_sealBlocks ∈ tb_ := mem_tb 49 (by decide +kernel) rfl
abbrev mX6_seal : Mi := (yX6_seal, cX6_seal, 7, (some .int), 5, { frames := 6, cells := 0, slots := 0, locals := 138 })
theorem okX6_seal : MiOk mX6_seal := ⟨by decide +kernel, mem_tb 1007 (by decide +kernel) rfl, mem_tb 58 (by decide +kernel) rfl, by decide +kernel, rfl, rfl⟩
theorem imX6_seal : Cond.instanceMethod yX6_seal ∈ tb_ := mem_tb 1005 (by decide +kernel) rfl
theorem seX6_seal : Cond.selects RX6 yX6_seal yX6_seal ∈ tb_ := mem_tb 1006 (by decide +kernel) rfl
abbrev mX6_count : Mi := (yX6_count, cX6_count, 2, (some .int), 1, { frames := 0, cells := 0, slots := 0, locals := 0 })
theorem okX6_count : MiOk mX6_count := ⟨by decide +kernel, mem_tb 1019 (by decide +kernel) rfl, mem_tb 58 (by decide +kernel) rfl, by decide +kernel, rfl, rfl⟩
theorem imX6_count : Cond.instanceMethod yX6_count ∈ tb_ := mem_tb 1017 (by decide +kernel) rfl
theorem seX6_count : Cond.selects RX6 yX6_count yX6_count ∈ tb_ := mem_tb 1018 (by decide +kernel) rfl
abbrev mX6_at : Mi := (yX6_at, cX6_at, 2, (some .int), 1, { frames := 0, cells := 0, slots := 0, locals := 0 })
theorem okX6_at : MiOk mX6_at := ⟨by decide +kernel, mem_tb 1023 (by decide +kernel) rfl, mem_tb 58 (by decide +kernel) rfl, by decide +kernel, rfl, rfl⟩
theorem imX6_at : Cond.instanceMethod yX6_at ∈ tb_ := mem_tb 1021 (by decide +kernel) rfl
theorem seX6_at : Cond.selects RX6 yX6_at yX6_at ∈ tb_ := mem_tb 1022 (by decide +kernel) rfl
abbrev mX6_entry : Mi := (yX6_entry, cX6_entry, 4, (some .int), 2, { frames := 0, cells := 0, slots := 0, locals := 0 })
theorem okX6_entry : MiOk mX6_entry := ⟨by decide +kernel, mem_tb 1027 (by decide +kernel) rfl, mem_tb 58 (by decide +kernel) rfl, by decide +kernel, rfl, rfl⟩
theorem imX6_entry : Cond.instanceMethod yX6_entry ∈ tb_ := mem_tb 1025 (by decide +kernel) rfl
theorem seX6_entry : Cond.selects RX6 yX6_entry yX6_entry ∈ tb_ := mem_tb 1026 (by decide +kernel) rfl
abbrev mX6_keep : Mi := (yX6_keep, cX6_keep, 2, (some .int), 0, { frames := 0, cells := 0, slots := 0, locals := 0 })
theorem okX6_keep : MiOk mX6_keep := ⟨by decide +kernel, mem_tb 1031 (by decide +kernel) rfl, mem_tb 58 (by decide +kernel) rfl, by decide +kernel, rfl, rfl⟩
theorem imX6_keep : Cond.instanceMethod yX6_keep ∈ tb_ := mem_tb 1029 (by decide +kernel) rfl
theorem seX6_keep : Cond.selects RX6 yX6_keep yX6_keep ∈ tb_ := mem_tb 1030 (by decide +kernel) rfl
theorem mlRX0_36 : Cond.methodLink RX0 36 yX0_twice ∈ tb_ := mem_tb 565 (by decide +kernel) rfl
theorem mlRX0_40 : Cond.methodLink RX0 40 yX0_fits ∈ tb_ := mem_tb 576 (by decide +kernel) rfl
theorem mlRX0_44 : Cond.methodLink RX0 44 arraycopyName ∈ tb_ := mem_tb 579 (by decide +kernel) rfl
theorem mlRX0_50 : Cond.methodLink RX0 50 yX0_addColumns ∈ tb_ := mem_tb 584 (by decide +kernel) rfl
theorem mlRX0_54 : Cond.methodLink RX0 54 yX0_swapAndTurn ∈ tb_ := mem_tb 639 (by decide +kernel) rfl
theorem mlRX0_57 : Cond.methodLink RX0 57 yX0_mixColumns ∈ tb_ := mem_tb 592 (by decide +kernel) rfl
theorem mlRX0_60 : Cond.methodLink RX0 60 yX0_unmixColumns ∈ tb_ := mem_tb 588 (by decide +kernel) rfl
theorem mlRX0_63 : Cond.methodLink RX0 63 yX0_swapAndTurnBack ∈ tb_ := mem_tb 596 (by decide +kernel) rfl
theorem mlRX1_85 : Cond.methodLink RX1 85 yX1_deriveOwnerKey ∈ tb_ := mem_tb 346 (by decide +kernel) rfl
theorem mlRX1_89 : Cond.methodLink RX1 89 yX3_clear ∈ tb_ := mem_tb 256 (by decide +kernel) rfl
theorem mlRX1_92 : Cond.methodLink RX1 92 yX1_addPadded ∈ tb_ := mem_tb 260 (by decide +kernel) rfl
theorem mlRX1_96 : Cond.methodLink RX1 96 yX1_streamEntry ∈ tb_ := mem_tb 325 (by decide +kernel) rfl
theorem mlRX1_99 : Cond.methodLink RX1 99 yX1_deriveKey ∈ tb_ := mem_tb 252 (by decide +kernel) rfl
theorem mlRX1_102 : Cond.methodLink RX1 102 yX1_makeEntryByTried ∈ tb_ := mem_tb 318 (by decide +kernel) rfl
theorem mlRX1_105 : Cond.methodLink RX1 105 yX3_become ∈ tb_ := mem_tb 341 (by decide +kernel) rfl
theorem mlRX1_108 : Cond.methodLink RX1 108 yX1_isTriedTheUsers ∈ tb_ := mem_tb 314 (by decide +kernel) rfl
theorem mlRX1_112 : Cond.methodLink RX1 112 yX3_addLowestFirst ∈ tb_ := mem_tb 277 (by decide +kernel) rfl
theorem mlRX1_117 : Cond.methodLink RX1 117 yX3_addHighestFirst ∈ tb_ := mem_tb 560 (by decide +kernel) rfl
theorem mlRX1_120 : Cond.methodLink RX1 120 yX2_hash ∈ tb_ := mem_tb 285 (by decide +kernel) rfl
theorem mlRX1_123 : Cond.methodLink RX1 123 yX3_shorten ∈ tb_ := mem_tb 310 (by decide +kernel) rfl
theorem mlRX1_126 : Cond.methodLink RX1 126 Lib.Math.min.name ∈ tb_ := mem_tb 263 (by decide +kernel) rfl
theorem mlRX1_136 : Cond.methodLink RX1 136 yX3_add ∈ tb_ := mem_tb 266 (by decide +kernel) rfl
theorem mlRX1_142 : Cond.methodLink RX1 142 yX3_addRow ∈ tb_ := mem_tb 269 (by decide +kernel) rfl
theorem mlRX1_145 : Cond.methodLink RX1 145 yX3_addTimes ∈ tb_ := mem_tb 281 (by decide +kernel) rfl
theorem mlRX1_148 : Cond.methodLink RX1 148 yX4_stream ∈ tb_ := mem_tb 329 (by decide +kernel) rfl
theorem mlRX1_152 : Cond.methodLink RX1 152 yX1_addPad ∈ tb_ := mem_tb 322 (by decide +kernel) rfl
theorem mlRX1_155 : Cond.methodLink RX1 155 yX3_beginsAs ∈ tb_ := mem_tb 337 (by decide +kernel) rfl
theorem mlRX2_35 : Cond.methodLink RX2 35 yX2_loadWords ∈ tb_ := mem_tb 293 (by decide +kernel) rfl
theorem mlRX2_39 : Cond.methodLink RX2 39 yX2_mixWords ∈ tb_ := mem_tb 300 (by decide +kernel) rfl
theorem mlRX2_42 : Cond.methodLink RX2 42 yX3_clear ∈ tb_ := mem_tb 308 (by decide +kernel) rfl
theorem mlRX2_45 : Cond.methodLink RX2 45 yX3_addLowestFirst ∈ tb_ := mem_tb 309 (by decide +kernel) rfl
theorem mlRX2_49 : Cond.methodLink RX2 49 yX2_endedByte ∈ tb_ := mem_tb 297 (by decide +kernel) rfl
theorem mlRX3_19 : Cond.methodLink RX3 19 yX3_add ∈ tb_ := mem_tb 240 (by decide +kernel) rfl
theorem mlRX3_23 : Cond.methodLink RX3 23 Lib.Math.min.name ∈ tb_ := mem_tb 273 (by decide +kernel) rfl
theorem mlRX3_29 : Cond.methodLink RX3 29 arraycopyName ∈ tb_ := mem_tb 274 (by decide +kernel) rfl
theorem mlRX3_35 : Cond.methodLink RX3 35 yX3_addRow ∈ tb_ := mem_tb 345 (by decide +kernel) rfl
theorem mlRX4_19 : Cond.methodLink RX4 19 yX4_mixTable ∈ tb_ := mem_tb 333 (by decide +kernel) rfl
theorem mlRX5_32 : Cond.methodLink RX5 32 yX3_addHighestFirst ∈ tb_ := mem_tb 236 (by decide +kernel) rfl
theorem mlRX5_53 : Cond.methodLink RX5 53 yX3_shorten ∈ tb_ := mem_tb 481 (by decide +kernel) rfl
theorem mlRX5_76 : Cond.methodLink RX5 76 yX3_clear ∈ tb_ := mem_tb 491 (by decide +kernel) rfl
theorem mlRX5_79 : Cond.methodLink RX5 79 yX1_toldRow ∈ tb_ := mem_tb 500 (by decide +kernel) rfl
theorem mlRX5_90 : Cond.methodLink RX5 90 yX3_become ∈ tb_ := mem_tb 379 (by decide +kernel) rfl
theorem mlRX5_96 : Cond.methodLink RX5 96 yX1_makeOwnerEntry ∈ tb_ := mem_tb 529 (by decide +kernel) rfl
theorem mlRX5_99 : Cond.methodLink RX5 99 yX1_makeUserEntry ∈ tb_ := mem_tb 533 (by decide +kernel) rfl
theorem mlRX5_102 : Cond.methodLink RX5 102 yX1_tryPassword ∈ tb_ := mem_tb 248 (by decide +kernel) rfl
theorem mlRX5_106 : Cond.methodLink RX5 106 yX3_byteAt ∈ tb_ := mem_tb 354 (by decide +kernel) rfl
theorem mlRX5_114 : Cond.methodLink RX5 114 yX2_hash ∈ tb_ := mem_tb 362 (by decide +kernel) rfl
theorem mlRX5_120 : Cond.methodLink RX5 120 yX5_isObject ∈ tb_ := mem_tb 544 (by decide +kernel) rfl
theorem mlRX5_128 : Cond.methodLink RX5 128 yX5_undoBlocks ∈ tb_ := mem_tb 551 (by decide +kernel) rfl
theorem mlRX5_132 : Cond.methodLink RX5 132 yX5_streamOrCopy ∈ tb_ := mem_tb 612 (by decide +kernel) rfl
theorem mlRX5_136 : Cond.methodLink RX5 136 yX5_fillingBytes ∈ tb_ := mem_tb 624 (by decide +kernel) rfl
theorem mlRX5_142 : Cond.methodLink RX5 142 yX5_sealBlocks ∈ tb_ := mem_tb 629 (by decide +kernel) rfl
theorem mlRX5_158 : Cond.methodLink RX5 158 yX1_objectKey ∈ tb_ := mem_tb 555 (by decide +kernel) rfl
theorem mlRX5_162 : Cond.methodLink RX5 162 yX4_stream ∈ tb_ := mem_tb 616 (by decide +kernel) rfl
theorem mlRX5_172 : Cond.methodLink RX5 172 yX0_expand ∈ tb_ := mem_tb 561 (by decide +kernel) rfl
theorem mlRX5_177 : Cond.methodLink RX5 177 yX5_unchain ∈ tb_ := mem_tb 568 (by decide +kernel) rfl
theorem mlRX5_181 : Cond.methodLink RX5 181 yX0_filling ∈ tb_ := mem_tb 604 (by decide +kernel) rfl
theorem mlRX5_184 : Cond.methodLink RX5 184 yX0_storeTo ∈ tb_ := mem_tb 608 (by decide +kernel) rfl
theorem mlRX5_188 : Cond.methodLink RX5 188 yX0_loadFrom ∈ tb_ := mem_tb 572 (by decide +kernel) rfl
theorem mlRX5_191 : Cond.methodLink RX5 191 yX0_unmakeBlock ∈ tb_ := mem_tb 580 (by decide +kernel) rfl
theorem mlRX5_194 : Cond.methodLink RX5 194 yX0_addFrom ∈ tb_ := mem_tb 600 (by decide +kernel) rfl
theorem mlRX5_197 : Cond.methodLink RX5 197 yX3_addRow ∈ tb_ := mem_tb 633 (by decide +kernel) rfl
theorem mlRX5_200 : Cond.methodLink RX5 200 yX3_addTimes ∈ tb_ := mem_tb 634 (by decide +kernel) rfl
theorem mlRX5_204 : Cond.methodLink RX5 204 yX0_makeBlock ∈ tb_ := mem_tb 635 (by decide +kernel) rfl
theorem mlRX6_159 : Cond.methodLink RX6 159 yX6_refused ∈ tb_ := mem_tb 834 (by decide +kernel) rfl
theorem mlRX6_166 : Cond.methodLink RX6 166 yX6_word ∈ tb_ := mem_tb 882 (by decide +kernel) rfl
theorem mlRX6_170 : Cond.methodLink RX6 170 yX6_turned ∈ tb_ := mem_tb 886 (by decide +kernel) rfl
theorem mlRX6_174 : Cond.methodLink RX6 174 yX6_say ∈ tb_ := mem_tb 866 (by decide +kernel) rfl
theorem mlRX6_182 : Cond.methodLink RX6 182 yX6_digestBlock ∈ tb_ := mem_tb 878 (by decide +kernel) rfl
theorem mlRX6_185 : Cond.methodLink RX6 185 yX6_finish ∈ tb_ := mem_tb 870 (by decide +kernel) rfl
theorem mlRX6_191 : Cond.methodLink RX6 191 yX6_mix ∈ tb_ := mem_tb 901 (by decide +kernel) rfl
theorem mlRX6_210 : Cond.methodLink RX6 210 yX6_again ∈ tb_ := mem_tb 889 (by decide +kernel) rfl
theorem mlRX6_214 : Cond.methodLink RX6 214 yX6_takeHand ∈ tb_ := mem_tb 893 (by decide +kernel) rfl
theorem mlRX6_217 : Cond.methodLink RX6 217 yX6_stream ∈ tb_ := mem_tb 897 (by decide +kernel) rfl
theorem mlRX6_223 : Cond.methodLink RX6 223 yX6_padWord ∈ tb_ := mem_tb 858 (by decide +kernel) rfl
theorem mlRX6_226 : Cond.methodLink RX6 226 yX6_makeOwnerKey ∈ tb_ := mem_tb 862 (by decide +kernel) rfl
theorem mlRX6_229 : Cond.methodLink RX6 229 yX6_makeOwnerEntry ∈ tb_ := mem_tb 854 (by decide +kernel) rfl
theorem mlRX6_232 : Cond.methodLink RX6 232 yX6_makeKey ∈ tb_ := mem_tb 905 (by decide +kernel) rfl
theorem mlRX6_235 : Cond.methodLink RX6 235 yX6_makeUserEntry ∈ tb_ := mem_tb 909 (by decide +kernel) rfl
theorem mlRX6_238 : Cond.methodLink RX6 238 yX6_isUsers ∈ tb_ := mem_tb 917 (by decide +kernel) rfl
theorem mlRX6_242 : Cond.methodLink RX6 242 yX6_know ∈ tb_ := mem_tb 921 (by decide +kernel) rfl
theorem mlRX6_245 : Cond.methodLink RX6 245 yX6_doubled ∈ tb_ := mem_tb 965 (by decide +kernel) rfl
theorem mlRX6_248 : Cond.methodLink RX6 248 yX6_product ∈ tb_ := mem_tb 962 (by decide +kernel) rfl
theorem mlRX6_251 : Cond.methodLink RX6 251 yX6_swapped ∈ tb_ := mem_tb 959 (by decide +kernel) rfl
theorem mlRX6_254 : Cond.methodLink RX6 254 yX6_makeSwaps ∈ tb_ := mem_tb 955 (by decide +kernel) rfl
theorem mlRX6_257 : Cond.methodLink RX6 257 yX6_addKey ∈ tb_ := mem_tb 980 (by decide +kernel) rfl
theorem mlRX6_260 : Cond.methodLink RX6 260 yX6_shift ∈ tb_ := mem_tb 988 (by decide +kernel) rfl
theorem mlRX6_263 : Cond.methodLink RX6 263 yX6_mixColumns ∈ tb_ := mem_tb 984 (by decide +kernel) rfl
theorem mlRX6_267 : Cond.methodLink RX6 267 yX6_unswapped ∈ tb_ := mem_tb 992 (by decide +kernel) rfl
theorem mlRX6_272 : Cond.methodLink RX6 272 yX6_undoAt ∈ tb_ := mem_tb 972 (by decide +kernel) rfl
theorem mlRX6_275 : Cond.methodLink RX6 275 yX6_undoBlock ∈ tb_ := mem_tb 976 (by decide +kernel) rfl
theorem mlRX6_278 : Cond.methodLink RX6 278 yX6_makeColumns ∈ tb_ := mem_tb 951 (by decide +kernel) rfl
theorem mlRX6_281 : Cond.methodLink RX6 281 yX6_filling ∈ tb_ := mem_tb 968 (by decide +kernel) rfl
theorem mlRX6_285 : Cond.methodLink RX6 285 yX6_isSound ∈ tb_ := mem_tb 937 (by decide +kernel) rfl
theorem mlRX6_289 : Cond.methodLink RX6 289 yX6_makeObjectKey ∈ tb_ := mem_tb 943 (by decide +kernel) rfl
theorem mlRX6_293 : Cond.methodLink RX6 293 yX6_undoBlocks ∈ tb_ := mem_tb 947 (by decide +kernel) rfl
theorem mlRX6_296 : Cond.methodLink RX6 296 yX6_streamRow ∈ tb_ := mem_tb 996 (by decide +kernel) rfl
theorem mlRX6_299 : Cond.methodLink RX6 299 yX6_copy ∈ tb_ := mem_tb 1000 (by decide +kernel) rfl
theorem mlRX6_302 : Cond.methodLink RX6 302 yX6_makeBlock ∈ tb_ := mem_tb 1012 (by decide +kernel) rfl
theorem mlRX6_305 : Cond.methodLink RX6 305 yX6_sealBlocks ∈ tb_ := mem_tb 1008 (by decide +kernel) rfl
theorem fgRX0_15 : Fl RX0 15 0 1 := ⟨RX0, TX0, 4, rfl, by decide, tbX0, mem_tb 148 (by decide +kernel) rfl⟩
theorem fgRX0_27 : Fl RX0 27 3 1 := ⟨RX3, TX3, 2, rfl, by decide, tbX3, mem_tb 91 (by decide +kernel) rfl⟩
theorem fgRX0_33 : Fl RX0 33 3 0 := ⟨RX3, TX3, 2, rfl, by decide, tbX3, mem_tb 82 (by decide +kernel) rfl⟩
theorem slRX0_24 : Cond.fieldLink RX0 24 "SheetKeys$Blocks" "SWAPS" "[I" ∈ tb_ := mem_tb 145 (by decide +kernel) rfl
theorem fgRX0_18 : Fl RX0 18 0 2 := ⟨RX0, TX0, 4, rfl, by decide, tbX0, mem_tb 149 (by decide +kernel) rfl⟩
theorem fgRX0_21 : Fl RX0 21 0 3 := ⟨RX0, TX0, 4, rfl, by decide, tbX0, mem_tb 150 (by decide +kernel) rfl⟩
theorem fgRX0_9 : Fl RX0 9 0 0 := ⟨RX0, TX0, 4, rfl, by decide, tbX0, mem_tb 147 (by decide +kernel) rfl⟩
theorem fgRX1_30 : Fl RX1 30 1 4 := ⟨RX1, TX1, 17, rfl, by decide, tbX1, mem_tb 168 (by decide +kernel) rfl⟩
theorem fgRX1_34 : Fl RX1 34 1 5 := ⟨RX1, TX1, 17, rfl, by decide, tbX1, mem_tb 170 (by decide +kernel) rfl⟩
theorem fgRX1_37 : Fl RX1 37 1 6 := ⟨RX1, TX1, 17, rfl, by decide, tbX1, mem_tb 172 (by decide +kernel) rfl⟩
theorem fgRX1_40 : Fl RX1 40 1 7 := ⟨RX1, TX1, 17, rfl, by decide, tbX1, mem_tb 173 (by decide +kernel) rfl⟩
theorem fgRX1_43 : Fl RX1 43 1 8 := ⟨RX1, TX1, 17, rfl, by decide, tbX1, mem_tb 174 (by decide +kernel) rfl⟩
theorem fgRX1_76 : Fl RX1 76 1 15 := ⟨RX1, TX1, 17, rfl, by decide, tbX1, mem_tb 185 (by decide +kernel) rfl⟩
theorem fgRX1_46 : Fl RX1 46 1 9 := ⟨RX1, TX1, 17, rfl, by decide, tbX1, mem_tb 175 (by decide +kernel) rfl⟩
theorem fgRX1_73 : Fl RX1 73 1 14 := ⟨RX1, TX1, 17, rfl, by decide, tbX1, mem_tb 184 (by decide +kernel) rfl⟩
theorem fgRX1_79 : Fl RX1 79 1 16 := ⟨RX1, TX1, 17, rfl, by decide, tbX1, mem_tb 186 (by decide +kernel) rfl⟩
theorem fgRX1_70 : Fl RX1 70 1 13 := ⟨RX1, TX1, 17, rfl, by decide, tbX1, mem_tb 183 (by decide +kernel) rfl⟩
theorem fgRX1_52 : Fl RX1 52 1 10 := ⟨RX1, TX1, 17, rfl, by decide, tbX1, mem_tb 177 (by decide +kernel) rfl⟩
theorem fgRX1_15 : Fl RX1 15 1 1 := ⟨RX1, TX1, 17, rfl, by decide, tbX1, mem_tb 162 (by decide +kernel) rfl⟩
theorem fgRX1_82 : Fl RX1 82 3 1 := ⟨RX3, TX3, 2, rfl, by decide, tbX3, mem_tb 87 (by decide +kernel) rfl⟩
theorem fgRX1_132 : Fl RX1 132 3 0 := ⟨RX3, TX3, 2, rfl, by decide, tbX3, mem_tb 86 (by decide +kernel) rfl⟩
theorem slRX1_139 : Cond.fieldLink RX1 139 "SheetKeys$Handler" "PAD" "[I" ∈ tb_ := mem_tb 267 (by decide +kernel) rfl
theorem fgRX1_18 : Fl RX1 18 1 2 := ⟨RX1, TX1, 17, rfl, by decide, tbX1, mem_tb 164 (by decide +kernel) rfl⟩
theorem fgRX1_9 : Fl RX1 9 1 0 := ⟨RX1, TX1, 17, rfl, by decide, tbX1, mem_tb 160 (by decide +kernel) rfl⟩
theorem fgRX1_21 : Fl RX1 21 1 3 := ⟨RX1, TX1, 17, rfl, by decide, tbX1, mem_tb 166 (by decide +kernel) rfl⟩
theorem fgRX1_59 : Fl RX1 59 1 11 := ⟨RX1, TX1, 17, rfl, by decide, tbX1, mem_tb 179 (by decide +kernel) rfl⟩
theorem fpRX2_14 : Fp RX2 14 2 1 .int := ⟨RX2, TX2, 5, tyX2, rfl, by decide, tbX2, mem_tb 114 (by decide +kernel) rfl, rfl, by decide +kernel, tyX2_ok, nmX2⟩
theorem fpRX2_19 : Fp RX2 19 2 2 .int := ⟨RX2, TX2, 5, tyX2, rfl, by decide, tbX2, mem_tb 115 (by decide +kernel) rfl, rfl, by decide +kernel, tyX2_ok, nmX2⟩
theorem fpRX2_23 : Fp RX2 23 2 3 .int := ⟨RX2, TX2, 5, tyX2, rfl, by decide, tbX2, mem_tb 116 (by decide +kernel) rfl, rfl, by decide +kernel, tyX2_ok, nmX2⟩
theorem fpRX2_27 : Fp RX2 27 2 4 .int := ⟨RX2, TX2, 5, tyX2, rfl, by decide, tbX2, mem_tb 117 (by decide +kernel) rfl, rfl, by decide +kernel, tyX2_ok, nmX2⟩
theorem fgRX2_30 : Fl RX2 30 3 1 := ⟨RX3, TX3, 2, rfl, by decide, tbX3, mem_tb 92 (by decide +kernel) rfl⟩
theorem fgRX2_7 : Fl RX2 7 2 0 := ⟨RX2, TX2, 5, rfl, by decide, tbX2, mem_tb 113 (by decide +kernel) rfl⟩
theorem fgRX2_14 : Fl RX2 14 2 1 := ⟨RX2, TX2, 5, rfl, by decide, tbX2, mem_tb 114 (by decide +kernel) rfl⟩
theorem fgRX2_19 : Fl RX2 19 2 2 := ⟨RX2, TX2, 5, rfl, by decide, tbX2, mem_tb 115 (by decide +kernel) rfl⟩
theorem fgRX2_23 : Fl RX2 23 2 3 := ⟨RX2, TX2, 5, rfl, by decide, tbX2, mem_tb 116 (by decide +kernel) rfl⟩
theorem fgRX2_27 : Fl RX2 27 2 4 := ⟨RX2, TX2, 5, rfl, by decide, tbX2, mem_tb 117 (by decide +kernel) rfl⟩
theorem fgRX2_53 : Fl RX2 53 3 0 := ⟨RX3, TX3, 2, rfl, by decide, tbX3, mem_tb 85 (by decide +kernel) rfl⟩
theorem slRX2_56 : Cond.fieldLink RX2 56 "SheetKeys$Hasher" "SINES" "[I" ∈ tb_ := mem_tb 304 (by decide +kernel) rfl
theorem slRX2_59 : Cond.fieldLink RX2 59 "SheetKeys$Hasher" "TURNS" "[I" ∈ tb_ := mem_tb 306 (by decide +kernel) rfl
theorem fgRX3_15 : Fl RX3 15 3 1 := ⟨RX3, TX3, 2, rfl, by decide, tbX3, mem_tb 90 (by decide +kernel) rfl⟩
theorem fgRX3_9 : Fl RX3 9 3 0 := ⟨RX3, TX3, 2, rfl, by decide, tbX3, mem_tb 81 (by decide +kernel) rfl⟩
theorem fpRX3_15 : Fp RX3 15 3 1 .int := ⟨RX3, TX3, 2, tyX3, rfl, by decide, tbX3, mem_tb 90 (by decide +kernel) rfl, rfl, by decide +kernel, tyX3_ok, nmX3⟩
theorem fgRX4_13 : Fl RX4 13 3 1 := ⟨RX3, TX3, 2, rfl, by decide, tbX3, mem_tb 88 (by decide +kernel) rfl⟩
theorem fgRX4_7 : Fl RX4 7 4 0 := ⟨RX4, TX4, 1, rfl, by decide, tbX4, mem_tb 135 (by decide +kernel) rfl⟩
theorem fgRX4_23 : Fl RX4 23 3 0 := ⟨RX3, TX3, 2, rfl, by decide, tbX3, mem_tb 83 (by decide +kernel) rfl⟩
theorem fgRX5_14 : Fl RX5 14 5 0 := ⟨RX5, TX5, 3, rfl, by decide, tbX5, mem_tb 222 (by decide +kernel) rfl⟩
theorem fgRX5_28 : Fl RX5 28 3 1 := ⟨RX3, TX3, 2, rfl, by decide, tbX3, mem_tb 89 (by decide +kernel) rfl⟩
theorem fgRX5_47 : Fl RX5 47 3 0 := ⟨RX3, TX3, 2, rfl, by decide, tbX3, mem_tb 84 (by decide +kernel) rfl⟩
theorem fgRX5_24 : Fl RX5 24 5 2 := ⟨RX5, TX5, 3, rfl, by decide, tbX5, mem_tb 224 (by decide +kernel) rfl⟩
theorem fpRX5_60 : Fp RX5 60 1 0 .int := ⟨RX1, TX1, 17, tyX1, rfl, by decide, tbX1, mem_tb 161 (by decide +kernel) rfl, rfl, by decide +kernel, tyX1_ok, nmX1⟩
theorem fpRX5_63 : Fp RX5 63 1 1 .int := ⟨RX1, TX1, 17, tyX1, rfl, by decide, tbX1, mem_tb 163 (by decide +kernel) rfl, rfl, by decide +kernel, tyX1_ok, nmX1⟩
theorem fpRX5_66 : Fp RX5 66 1 2 .int := ⟨RX1, TX1, 17, tyX1, rfl, by decide, tbX1, mem_tb 165 (by decide +kernel) rfl, rfl, by decide +kernel, tyX1_ok, nmX1⟩
theorem fpRX5_69 : Fp RX5 69 1 3 .boolean := ⟨RX1, TX1, 17, tyX1, rfl, by decide, tbX1, mem_tb 167 (by decide +kernel) rfl, rfl, by decide +kernel, tyX1_ok, nmX1⟩
theorem fgRX5_73 : Fl RX5 73 1 9 := ⟨RX1, TX1, 17, rfl, by decide, tbX1, mem_tb 176 (by decide +kernel) rfl⟩
theorem fgRX5_110 : Fl RX5 110 1 10 := ⟨RX1, TX1, 17, rfl, by decide, tbX1, mem_tb 178 (by decide +kernel) rfl⟩
theorem fgRX5_18 : Fl RX5 18 5 1 := ⟨RX5, TX5, 3, rfl, by decide, tbX5, mem_tb 223 (by decide +kernel) rfl⟩
theorem fgRX5_146 : Fl RX5 146 1 4 := ⟨RX1, TX1, 17, rfl, by decide, tbX1, mem_tb 169 (by decide +kernel) rfl⟩
theorem fgRX5_149 : Fl RX5 149 1 5 := ⟨RX1, TX1, 17, rfl, by decide, tbX1, mem_tb 171 (by decide +kernel) rfl⟩
theorem fgRX5_154 : Fl RX5 154 1 11 := ⟨RX1, TX1, 17, rfl, by decide, tbX1, mem_tb 180 (by decide +kernel) rfl⟩
theorem fgRX5_168 : Fl RX5 168 1 12 := ⟨RX1, TX1, 17, rfl, by decide, tbX1, mem_tb 182 (by decide +kernel) rfl⟩
theorem fpRX5_28 : Fp RX5 28 3 1 .int := ⟨RX3, TX3, 2, tyX3, rfl, by decide, tbX3, mem_tb 89 (by decide +kernel) rfl, rfl, by decide +kernel, tyX3_ok, nmX3⟩
theorem fgRX6_153 : Fl RX6 153 6 0 := ⟨RX6, TX6, 36, rfl, by decide, tbX6, mem_tb 713 (by decide +kernel) rfl⟩
theorem fpRX6_153 : Fp RX6 153 6 0 .int := ⟨RX6, TX6, 36, tyX6, rfl, by decide, tbX6, mem_tb 713 (by decide +kernel) rfl, rfl, by decide +kernel, tyX6_ok, nmX6⟩
theorem fgRX6_156 : Fl RX6 156 6 1 := ⟨RX6, TX6, 36, rfl, by decide, tbX6, mem_tb 714 (by decide +kernel) rfl⟩
theorem fgRX6_7 : Fl RX6 7 6 2 := ⟨RX6, TX6, 36, rfl, by decide, tbX6, mem_tb 715 (by decide +kernel) rfl⟩
theorem fpRX6_156 : Fp RX6 156 6 1 .int := ⟨RX6, TX6, 36, tyX6, rfl, by decide, tbX6, mem_tb 714 (by decide +kernel) rfl, rfl, by decide +kernel, tyX6_ok, nmX6⟩
theorem fgRX6_44 : Fl RX6 44 6 20 := ⟨RX6, TX6, 36, rfl, by decide, tbX6, mem_tb 733 (by decide +kernel) rfl⟩
theorem fgRX6_163 : Fl RX6 163 6 19 := ⟨RX6, TX6, 36, rfl, by decide, tbX6, mem_tb 732 (by decide +kernel) rfl⟩
theorem fpRX6_163 : Fp RX6 163 6 19 .int := ⟨RX6, TX6, 36, tyX6, rfl, by decide, tbX6, mem_tb 732 (by decide +kernel) rfl, rfl, by decide +kernel, tyX6_ok, nmX6⟩
theorem fgRX6_50 : Fl RX6 50 6 22 := ⟨RX6, TX6, 36, rfl, by decide, tbX6, mem_tb 735 (by decide +kernel) rfl⟩
theorem fgRX6_117 : Fl RX6 117 6 23 := ⟨RX6, TX6, 36, rfl, by decide, tbX6, mem_tb 736 (by decide +kernel) rfl⟩
theorem fgRX6_120 : Fl RX6 120 6 24 := ⟨RX6, TX6, 36, rfl, by decide, tbX6, mem_tb 737 (by decide +kernel) rfl⟩
theorem fgRX6_47 : Fl RX6 47 6 21 := ⟨RX6, TX6, 36, rfl, by decide, tbX6, mem_tb 734 (by decide +kernel) rfl⟩
theorem fgRX6_129 : Fl RX6 129 6 28 := ⟨RX6, TX6, 36, rfl, by decide, tbX6, mem_tb 741 (by decide +kernel) rfl⟩
theorem fgRX6_126 : Fl RX6 126 6 27 := ⟨RX6, TX6, 36, rfl, by decide, tbX6, mem_tb 740 (by decide +kernel) rfl⟩
theorem fgRX6_188 : Fl RX6 188 6 26 := ⟨RX6, TX6, 36, rfl, by decide, tbX6, mem_tb 739 (by decide +kernel) rfl⟩
theorem fgRX6_132 : Fl RX6 132 6 29 := ⟨RX6, TX6, 36, rfl, by decide, tbX6, mem_tb 742 (by decide +kernel) rfl⟩
theorem fgRX6_13 : Fl RX6 13 6 4 := ⟨RX6, TX6, 36, rfl, by decide, tbX6, mem_tb 717 (by decide +kernel) rfl⟩
theorem fpRX6_194 : Fp RX6 194 6 3 .int := ⟨RX6, TX6, 36, tyX6, rfl, by decide, tbX6, mem_tb 716 (by decide +kernel) rfl, rfl, by decide +kernel, tyX6_ok, nmX6⟩
theorem fgRX6_197 : Fl RX6 197 6 13 := ⟨RX6, TX6, 36, rfl, by decide, tbX6, mem_tb 726 (by decide +kernel) rfl⟩
theorem fgRX6_200 : Fl RX6 200 6 15 := ⟨RX6, TX6, 36, rfl, by decide, tbX6, mem_tb 728 (by decide +kernel) rfl⟩
theorem fgRX6_135 : Fl RX6 135 6 30 := ⟨RX6, TX6, 36, rfl, by decide, tbX6, mem_tb 743 (by decide +kernel) rfl⟩
theorem fgRX6_123 : Fl RX6 123 6 25 := ⟨RX6, TX6, 36, rfl, by decide, tbX6, mem_tb 738 (by decide +kernel) rfl⟩
theorem fgRX6_35 : Fl RX6 35 6 14 := ⟨RX6, TX6, 36, rfl, by decide, tbX6, mem_tb 727 (by decide +kernel) rfl⟩
theorem fgRX6_38 : Fl RX6 38 6 16 := ⟨RX6, TX6, 36, rfl, by decide, tbX6, mem_tb 729 (by decide +kernel) rfl⟩
theorem fgRX6_26 : Fl RX6 26 6 9 := ⟨RX6, TX6, 36, rfl, by decide, tbX6, mem_tb 722 (by decide +kernel) rfl⟩
theorem fgRX6_23 : Fl RX6 23 6 7 := ⟨RX6, TX6, 36, rfl, by decide, tbX6, mem_tb 720 (by decide +kernel) rfl⟩
theorem fgRX6_203 : Fl RX6 203 6 11 := ⟨RX6, TX6, 36, rfl, by decide, tbX6, mem_tb 724 (by decide +kernel) rfl⟩
theorem fgRX6_32 : Fl RX6 32 6 12 := ⟨RX6, TX6, 36, rfl, by decide, tbX6, mem_tb 725 (by decide +kernel) rfl⟩
theorem fgRX6_16 : Fl RX6 16 6 5 := ⟨RX6, TX6, 36, rfl, by decide, tbX6, mem_tb 718 (by decide +kernel) rfl⟩
theorem fgRX6_206 : Fl RX6 206 6 8 := ⟨RX6, TX6, 36, rfl, by decide, tbX6, mem_tb 721 (by decide +kernel) rfl⟩
theorem fgRX6_20 : Fl RX6 20 6 6 := ⟨RX6, TX6, 36, rfl, by decide, tbX6, mem_tb 719 (by decide +kernel) rfl⟩
theorem fpRX6_188 : Fp RX6 188 6 26 .int := ⟨RX6, TX6, 36, tyX6, rfl, by decide, tbX6, mem_tb 739 (by decide +kernel) rfl, rfl, by decide +kernel, tyX6_ok, nmX6⟩
theorem fpRX6_16 : Fp RX6 16 6 5 .int := ⟨RX6, TX6, 36, tyX6, rfl, by decide, tbX6, mem_tb 718 (by decide +kernel) rfl, rfl, by decide +kernel, tyX6_ok, nmX6⟩
theorem fpRX6_20 : Fp RX6 20 6 6 .int := ⟨RX6, TX6, 36, tyX6, rfl, by decide, tbX6, mem_tb 719 (by decide +kernel) rfl, rfl, by decide +kernel, tyX6_ok, nmX6⟩
theorem fpRX6_23 : Fp RX6 23 6 7 .int := ⟨RX6, TX6, 36, tyX6, rfl, by decide, tbX6, mem_tb 720 (by decide +kernel) rfl, rfl, by decide +kernel, tyX6_ok, nmX6⟩
theorem fpRX6_206 : Fp RX6 206 6 8 .boolean := ⟨RX6, TX6, 36, tyX6, rfl, by decide, tbX6, mem_tb 721 (by decide +kernel) rfl, rfl, by decide +kernel, tyX6_ok, nmX6⟩
theorem fpRX6_220 : Fp RX6 220 6 17 .boolean := ⟨RX6, TX6, 36, tyX6, rfl, by decide, tbX6, mem_tb 730 (by decide +kernel) rfl, rfl, by decide +kernel, tyX6_ok, nmX6⟩
theorem fpRX6_203 : Fp RX6 203 6 11 .int := ⟨RX6, TX6, 36, tyX6, rfl, by decide, tbX6, mem_tb 724 (by decide +kernel) rfl, rfl, by decide +kernel, tyX6_ok, nmX6⟩
theorem fpRX6_197 : Fp RX6 197 6 13 .int := ⟨RX6, TX6, 36, tyX6, rfl, by decide, tbX6, mem_tb 726 (by decide +kernel) rfl, rfl, by decide +kernel, tyX6_ok, nmX6⟩
theorem fpRX6_200 : Fp RX6 200 6 15 .int := ⟨RX6, TX6, 36, tyX6, rfl, by decide, tbX6, mem_tb 728 (by decide +kernel) rfl, rfl, by decide +kernel, tyX6_ok, nmX6⟩
theorem fgRX6_220 : Fl RX6 220 6 17 := ⟨RX6, TX6, 36, rfl, by decide, tbX6, mem_tb 730 (by decide +kernel) rfl⟩
theorem fgRX6_29 : Fl RX6 29 6 10 := ⟨RX6, TX6, 36, rfl, by decide, tbX6, mem_tb 723 (by decide +kernel) rfl⟩
theorem fgRX6_41 : Fl RX6 41 6 18 := ⟨RX6, TX6, 36, rfl, by decide, tbX6, mem_tb 731 (by decide +kernel) rfl⟩
theorem fgRX6_150 : Fl RX6 150 6 35 := ⟨RX6, TX6, 36, rfl, by decide, tbX6, mem_tb 748 (by decide +kernel) rfl⟩
theorem fgRX6_147 : Fl RX6 147 6 34 := ⟨RX6, TX6, 36, rfl, by decide, tbX6, mem_tb 747 (by decide +kernel) rfl⟩
theorem fgRX6_138 : Fl RX6 138 6 31 := ⟨RX6, TX6, 36, rfl, by decide, tbX6, mem_tb 744 (by decide +kernel) rfl⟩
theorem fgRX6_141 : Fl RX6 141 6 32 := ⟨RX6, TX6, 36, rfl, by decide, tbX6, mem_tb 745 (by decide +kernel) rfl⟩
theorem fgRX6_144 : Fl RX6 144 6 33 := ⟨RX6, TX6, 36, rfl, by decide, tbX6, mem_tb 746 (by decide +kernel) rfl⟩
theorem fgRX6_194 : Fl RX6 194 6 3 := ⟨RX6, TX6, 36, rfl, by decide, tbX6, mem_tb 716 (by decide +kernel) rfl⟩
theorem cnRX1_116 : Cond.constant RX1 116 (1933667412 : Int32) ∈ tb_ := mem_tb 559 (by decide +kernel) rfl
theorem cnRX2_13 : Cond.constant RX2 13 (1732584193 : Int32) ∈ tb_ := mem_tb 289 (by decide +kernel) rfl
theorem cnRX2_18 : Cond.constant RX2 18 (-271733879 : Int32) ∈ tb_ := mem_tb 290 (by decide +kernel) rfl
theorem cnRX2_22 : Cond.constant RX2 22 (-1732584194 : Int32) ∈ tb_ := mem_tb 291 (by decide +kernel) rfl
theorem cnRX2_26 : Cond.constant RX2 26 (271733878 : Int32) ∈ tb_ := mem_tb 292 (by decide +kernel) rfl
theorem cnRX5_152 : Cond.constant RX5 152 (8388607 : Int32) ∈ tb_ := mem_tb 547 (by decide +kernel) rfl
theorem cnRX5_153 : Cond.constant RX5 153 (65535 : Int32) ∈ tb_ := mem_tb 548 (by decide +kernel) rfl
theorem cnRX6_178 : Cond.constant RX6 178 (1732584193 : Int32) ∈ tb_ := mem_tb 874 (by decide +kernel) rfl
theorem cnRX6_179 : Cond.constant RX6 179 (-271733879 : Int32) ∈ tb_ := mem_tb 875 (by decide +kernel) rfl
theorem cnRX6_180 : Cond.constant RX6 180 (-1732584194 : Int32) ∈ tb_ := mem_tb 876 (by decide +kernel) rfl
theorem cnRX6_181 : Cond.constant RX6 181 (271733878 : Int32) ∈ tb_ := mem_tb 877 (by decide +kernel) rfl
theorem jn_min_static : Cond.static Lib.Math.min.name ∈ tb_ := mem_tb 264 (by decide +kernel) rfl
theorem jn_min_init : Cond.initialized "java/lang/Math" ∈ tb_ := mem_tb 65 (by decide +kernel) rfl
theorem jn_min_code : Cond.code Lib.Math.min.name Lib.Math.min.code 2 (some .int) ∈ tb_ := mem_tb 265 (by decide +kernel) rfl
theorem jn_copy_native : Cond.native arraycopyName ∈ tb_ := mem_tb 276 (by decide +kernel) rfl
theorem jn_copy_static : Cond.static arraycopyName ∈ tb_ := mem_tb 275 (by decide +kernel) rfl
theorem jn_sys_init : Cond.initialized "java/lang/System" ∈ tb_ := mem_tb 66 (by decide +kernel) rfl
end
section
/-! bytes as numbers: an array holds a list -/
def hs (f : Nat → Int32) (xs : List Nat) : Prop := ∀ j, j < xs.length → f j = nI (xs.getD j 0)
def byt (xs : List Nat) : Prop := ∀ x ∈ xs, x < 256
theorem len_push (xs : List Nat) (y : Nat) : (xs ++ [y]).length = xs.length + 1 := by simp
theorem len_app (xs ys : List Nat) : (xs ++ ys).length = xs.length + ys.length := List.length_append
theorem hs_nil (f : Nat → Int32) : hs f [] := fun j h => absurd h (Nat.not_lt_zero j)
theorem gd_left {xs ys : List Nat} {j : Nat} (h : j < xs.length) : (xs ++ ys).getD j 0 = xs.getD j 0 := by
  simp [List.getD, List.getElem?_append_left h]
theorem gd_right {xs ys : List Nat} {j : Nat} (h : xs.length ≤ j) : (xs ++ ys).getD j 0 = ys.getD (j - xs.length) 0 := by
  simp [List.getD, List.getElem?_append_right h]
theorem hs_push {f : Nat → Int32} {xs : List Nat} {y : Nat} {x : Int32} (h : hs f xs) (hx : x = nI y) : hs (upd f xs.length x) (xs ++ [y]) := by
  intro j hj
  rw [len_push] at hj
  unfold upd
  by_cases e : j = xs.length
  · subst e
    rw [if_pos rfl, gd_right (Nat.le_refl _), Nat.sub_self, hx]
    rfl
  · rw [if_neg e, gd_left (by omega)]
    exact h j (by omega)
theorem hs_set {f : Nat → Int32} {xs : List Nat} {i y : Nat} {x : Int32} (h : hs f xs) (hx : x = nI y) : hs (upd f i x) (xs.set i y) := by
  intro j hj
  rw [List.length_set] at hj
  unfold upd
  by_cases e : j = i
  · subst e
    rw [if_pos rfl, hx]
    simp [List.getD, List.getElem?_set_self hj]
  · rw [if_neg e, h j hj]
    simp [List.getD, List.getElem?_set_ne (Ne.symm e)]
theorem hs_cpy {f h : Nat → Int32} {xs ys : List Nat} (hf : hs f ys) (hh : hs h xs) : hs (va_cpy f h 0 xs.length ys.length) (xs ++ ys) := by
  intro j hj
  rw [len_app] at hj
  by_cases e : j < xs.length
  · rw [pk_cpy_out (Or.inl e), gd_left e]
    exact hh j e
  · rw [pk_cpy_in (by omega) (by omega), gd_right (by omega), Nat.zero_add]
    exact hf _ (by omega)
theorem hs_take {f : Nat → Int32} {xs : List Nat} {k : Nat} (h : hs f xs) : hs f (xs.take k) := by
  intro j hj
  have hj2 : j < xs.length := by
    rw [List.length_take] at hj
    omega
  rw [h j hj2]
  rw [List.length_take] at hj
  simp [List.getD, List.getElem?_take_of_lt (show j < k by omega)]
theorem and255 (x : Int32) : x &&& 255 = nI (x.toBitVec.toNat % 256) := pk_and x 8 rfl
/-- byte j of an int, the lowest is 0 -/
def byj (x : Int32) (j : Nat) : Nat := x.toBitVec.toNat / 2 ^ (8 * j) % 256
theorem byj_lt (x : Int32) (j : Nat) : byj x j < 256 := Nat.mod_lt _ (by decide)
def hif (x : Int32) : List Nat := [byj x 3, byj x 2, byj x 1, byj x 0]
def lof (x : Int32) (m : Nat) : List Nat := (List.range m).map (byj x)
theorem lof_succ (x : Int32) (m : Nat) : lof x (m + 1) = lof x m ++ [byj x m] := by simp [lof, List.range_succ]
theorem lof_len (x : Int32) (m : Nat) : (lof x m).length = m := by simp [lof]
theorem ush_and (x s : Int32) (j : Nat) (hs : ((s.toUInt32 &&& Int32.toUInt32 31).toBitVec % 32).toNat = 8 * j) : (x.toUInt32 >>> (s.toUInt32 &&& Int32.toUInt32 31)).toInt32 &&& 255 = nI (byj x j) := by
  rw [and255, pk_ushr x s (8 * j) hs]
  rfl
theorem and0 (x : Int32) : x &&& 255 = nI (byj x 0) := by
  rw [and255]
  simp [byj]
theorem sh8 : ∀ j, j < 4 → (((nI (8 * j)).toUInt32 &&& Int32.toUInt32 31).toBitVec % 32).toNat = 8 * j := by decide
theorem sh8' : ∀ j, j < 4 → ((8 * nI j : Int32).toUInt32 &&& Int32.toUInt32 31).toBitVec.toNat % 32 = 8 * j := by decide
theorem ix_of {x : Int32} {n : Nat} (h0 : ¬ x < 0) (h1 : x < nI n) (hn : n < 2 ^ 31) : ∃ j, j < n ∧ x = nI j := by
  obtain ⟨j, hj, rfl⟩ := nI_of h0
  exact ⟨j, (nI_ltI hj hn).mp h1, rfl⟩
/-- byte i of a row's list, or -1 -/
def rowAt (xs : List Nat) (i : Int32) : Int32 := if i < 0 ∨ ¬ i < nI xs.length then -1 else nI (xs.getD i.toNatClampNeg 0)
theorem rowAt_n {xs : List Nat} {j : Nat} (h : j < xs.length) (hn : xs.length < 2 ^ 31) : rowAt xs (nI j) = nI (xs.getD j 0) := by
  unfold rowAt
  rw [if_neg, nI_clamp (Nat.lt_trans h hn)]
  rintro (h1 | h1)
  · exact nI_pos (Nat.lt_trans h hn) h1
  · exact h1 (nI_lt h hn)
/-- a row cut to left bytes -/
def cutTo (xs : List Nat) (left : Int32) : List Nat := if left < 0 then xs else xs.take left.toNatClampNeg
theorem cutTo_n (xs : List Nat) {j : Nat} (hj : j < 2 ^ 31) : cutTo xs (nI j) = xs.take j := by
  unfold cutTo
  rw [if_neg (nI_pos hj), nI_clamp hj]
theorem take_all {xs : List Nat} {j : Nat} (h : xs.length ≤ j) : xs.take j = xs := List.take_of_length_le h
theorem cutTo_neg (xs : List Nat) {x : Int32} (h : x < 0) : cutTo xs x = xs := if_pos h
theorem rep_push (xs : List Nat) (i y : Nat) : xs ++ List.replicate (i + 1) y = (xs ++ List.replicate i y) ++ [y] := by
  rw [List.replicate_succ', List.append_assoc]
theorem min_le {a b : Nat} (h : a ≤ b) (hb : b < 2 ^ 31) : (if nI b < nI a then nI b else nI a) = nI a := if_neg (nI_nlt h hb)
theorem hs_same {f h : Nat → Int32} {xs ys : List Nat} {m : Nat} (hf : hs f xs) (hh : hs h ys) (h1 : m ≤ xs.length) (h2 : m ≤ ys.length) (h256 : byt xs) (h256' : byt ys) : (∀ j, j < m → f j = h j) ↔ xs.take m = ys.take m := by
  constructor
  · intro h3
    apply List.ext_getElem?
    intro j
    by_cases hj : j < m
    · rw [List.getElem?_take_of_lt hj, List.getElem?_take_of_lt hj, List.getElem?_eq_getElem (by omega), List.getElem?_eq_getElem (by omega)]
      have e := h3 j hj
      rw [hf j (by omega), hh j (by omega)] at e
      have a1 := h256 xs[j] (List.getElem_mem _)
      have a2 := h256' ys[j] (List.getElem_mem _)
      have g1 : xs.getD j 0 = xs[j] := by simp [List.getD, List.getElem?_eq_getElem (show j < xs.length by omega)]
      have g2 : ys.getD j 0 = ys[j] := by simp [List.getD, List.getElem?_eq_getElem (show j < ys.length by omega)]
      rw [g1, g2] at e
      rw [(nI_eq (by omega) (by omega)).mp e]
    · rw [List.getElem?_eq_none (by rw [List.length_take]; omega), List.getElem?_eq_none (by rw [List.length_take]; omega)]
  · intro h3 j hj
    rw [hf j (by omega), hh j (by omega)]
    have e : (xs.take m)[j]? = (ys.take m)[j]? := by rw [h3]
    rw [List.getElem?_take_of_lt hj, List.getElem?_take_of_lt hj] at e
    simp [List.getD, e]
end
section
set_option maxHeartbeats 4000000 in
set_option maxRecDepth 100000 in
theorem cX3_byteAt9 {w : Wo} {a b n : Nat} {f : Nat → Int32} {xs : List Nat} (ha : a < NW) (hb : b < NW) (hab : a ≠ b) (hwa : w a = ob 3 [.ref b, .int (nI xs.length)]) (hwb : w b = ia n f) (hf : hs f xs) (hx : xs.length ≤ n) (hn : n < 2 ^ 31) (p1 : Int32) : Ctr mX3_byteAt [.ref a, .int p1] w (PI fun r w' => w' = w ∧ r = rowAt xs p1) := by
  refine Ctr_intro okX3_byteAt rfl (Nat.le_of_ble_eq_true rfl) (L := [some (.ref a), some (.int p1)]) rfl (fun g ct C T_ => ?_)
  refine r_iload_n C dX3_byteAt_0 rfl ?_
  refine r_if_lt C 12 dX3_byteAt_1 (by decide) (fun c_1 => ?_) (fun c_1 => ?_)
  · skip
    refine r_iconst C dX3_byteAt_12 (v := (-1)) (by decide) ?_
    refine r_goto C 22 dX3_byteAt_13 (by decide) ?_
    exact r_ireturn C T_ rfl rfl dX3_byteAt_22 (⟨_, rfl, rfl, by unfold rowAt; first | exact (if_pos (Or.inl c_1)).symm | exact (if_pos (Or.inr c_9)).symm⟩)
  · skip
    refine r_iload_n C dX3_byteAt_4 rfl ?_
    refine r_aload_n C dX3_byteAt_5 rfl ?_
    refine r_get C dX3_byteAt_6 fgRX3_15 ha hwa rfl ?_
    refine r_icmp_lt C 16 dX3_byteAt_9 (by decide) (fun c_9 => ?_) (fun c_9 => ?_)
    · skip
      obtain ⟨j, hj, rfl⟩ := ix_of c_1 c_9 (by omega)
      refine r_aload_n C dX3_byteAt_16 rfl ?_
      refine r_get C dX3_byteAt_17 fgRX3_9 ha hwa rfl ?_
      refine r_iload_n C dX3_byteAt_20 rfl ?_
      refine r_ialdN C dX3_byteAt_21 hb hwb (j := j) rfl (by omega) (by omega) ?_
      exact r_ireturn C T_ rfl rfl dX3_byteAt_22 (⟨_, rfl, rfl, (hf j (by omega)).trans (rowAt_n hj (by omega)).symm⟩)
    · skip
      refine r_iconst C dX3_byteAt_12 (v := (-1)) (by decide) ?_
      refine r_goto C 22 dX3_byteAt_13 (by decide) ?_
      exact r_ireturn C T_ rfl rfl dX3_byteAt_22 (⟨_, rfl, rfl, by unfold rowAt; first | exact (if_pos (Or.inl c_1)).symm | exact (if_pos (Or.inr c_9)).symm⟩)
set_option maxHeartbeats 4000000 in
set_option maxRecDepth 100000 in
theorem cX3_clear9 {w : Wo} {a b n : Nat} {f : Nat → Int32} {xs : List Nat} (ha : a < NW) (hb : b < NW) (hab : a ≠ b) (hwa : w a = ob 3 [.ref b, .int (nI xs.length)]) (hwb : w b = ia n f) (hf : hs f xs) (hx : xs.length ≤ n) (hn : n < 2 ^ 31) : Ctr mX3_clear [.ref a] w (PV fun w' => w' = wset w a (ob 3 [.ref b, .int (nI ([] : List Nat).length)])) := by
  refine Ctr_intro okX3_clear rfl (Nat.le_of_ble_eq_true rfl) (L := [some (.ref a)]) rfl (fun g ct C T_ => ?_)
  refine r_aload_n C dX3_clear_0 rfl ?_
  refine r_iconst C dX3_clear_1 (v := 0) (by decide) ?_
  refine r_put C dX3_clear_2 fpRX3_15 ha hwa rfl rfl (Nat.le_of_ble_eq_true rfl) (fs' := [.ref b, .int 0]) rfl ?_
  exact r_return C T_ rfl dX3_clear_5 (⟨rfl, rfl⟩)
set_option maxHeartbeats 4000000 in
set_option maxRecDepth 100000 in
theorem cX3_shorten9 {w : Wo} {a b n : Nat} {f : Nat → Int32} {xs : List Nat} (ha : a < NW) (hb : b < NW) (hab : a ≠ b) (hwa : w a = ob 3 [.ref b, .int (nI xs.length)]) (hwb : w b = ia n f) (hf : hs f xs) (hx : xs.length ≤ n) (hn : n < 2 ^ 31) (p1 : Int32) : Ctr mX3_shorten [.ref a, .int p1] w (PV fun w' => w' = wset w a (ob 3 [.ref b, .int (nI (cutTo xs p1).length)])) := by
  refine Ctr_intro okX3_shorten rfl (Nat.le_of_ble_eq_true rfl) (L := [some (.ref a), some (.int p1)]) rfl (fun g ct C T_ => ?_)
  refine r_iload_n C dX3_shorten_0 rfl ?_
  refine r_if_lt C 17 dX3_shorten_1 (by decide) (fun c_1 => ?_) (fun c_1 => ?_)
  · skip
    exact r_return C T_ rfl dX3_shorten_17 (⟨rfl, by first | rw [cutTo_neg _ c_1, ws_self hwa] | (obtain ⟨j, hj, rfl⟩ := nI_of c_1; rw [cutTo_n _ hj, take_all ((nI_leI (by omega) hj).mp (by simpa using c_9)), ws_self hwa])⟩)
  · skip
    refine r_iload_n C dX3_shorten_4 rfl ?_
    refine r_aload_n C dX3_shorten_5 rfl ?_
    refine r_get C dX3_shorten_6 fgRX3_15 ha hwa rfl ?_
    refine r_icmp_ge C 17 dX3_shorten_9 (by decide) (fun c_9 => ?_) (fun c_9 => ?_)
    · skip
      exact r_return C T_ rfl dX3_shorten_17 (⟨rfl, by first | rw [cutTo_neg _ c_1, ws_self hwa] | (obtain ⟨j, hj, rfl⟩ := nI_of c_1; rw [cutTo_n _ hj, take_all ((nI_leI (by omega) hj).mp (by simpa using c_9)), ws_self hwa])⟩)
    · skip
      obtain ⟨j, hj, rfl⟩ := ix_of c_1 (by simpa using c_9) (by omega)
      refine r_aload_n C dX3_shorten_12 rfl ?_
      refine r_iload_n C dX3_shorten_13 rfl ?_
      refine r_put C dX3_shorten_14 fpRX3_15 ha hwa rfl rfl (Nat.le_of_ble_eq_true rfl) (fs' := [.ref b, .int (nI j)]) rfl ?_
      exact r_return C T_ rfl dX3_shorten_17 (⟨rfl, by rw [cutTo_n _ (by omega), List.length_take, Nat.min_eq_left (by omega)]⟩)
set_option maxHeartbeats 4000000 in
set_option maxRecDepth 100000 in
theorem cX3_add9 {w : Wo} {a b n : Nat} {f : Nat → Int32} {xs : List Nat} (ha : a < NW) (hb : b < NW) (hab : a ≠ b) (hwa : w a = ob 3 [.ref b, .int (nI xs.length)]) (hwb : w b = ia n f) (hf : hs f xs) (hx : xs.length ≤ n) (hn : n < 2 ^ 31) (hk : xs.length < n) {x : Int32} {y : Nat} (hy : x &&& 255 = nI y) : Ctr mX3_add [.ref a, .int x] w (PV fun w' => ∃ f', w' = wset (wset w b (ia n f')) a (ob 3 [.ref b, .int (nI (xs ++ [y]).length)]) ∧ hs f' (xs ++ [y])) := by
  refine Ctr_intro okX3_add rfl (Nat.le_of_ble_eq_true rfl) (L := [some (.ref a), some (.int x)]) rfl (fun g ct C T_ => ?_)
  refine r_aload_n C dX3_add_0 rfl ?_
  refine r_get C dX3_add_1 fgRX3_15 ha hwa rfl ?_
  refine r_aload_n C dX3_add_4 rfl ?_
  refine r_get C dX3_add_5 fgRX3_9 ha hwa rfl ?_
  refine r_alen C dX3_add_8 hb hwb ?_
  refine r_icmp_ge C 36 dX3_add_9 (by decide) (fun c_9 => ?_) (fun c_9 => ?_)
  · skip
    exact absurd c_9 (nI_ge hk hn)
  · skip
    have c_9 : ¬ (n ≤ xs.length) := fun h9 => c_9 ((nI_leI (a := n) (b := xs.length) (by omega) (by omega)).mpr h9)
    refine r_aload_n C dX3_add_12 rfl ?_
    refine r_get C dX3_add_13 fgRX3_9 ha hwa rfl ?_
    refine r_aload_n C dX3_add_16 rfl ?_
    refine r_get C dX3_add_17 fgRX3_15 ha hwa rfl ?_
    refine r_iload_n C dX3_add_20 rfl ?_
    refine r_sipush C dX3_add_21 (v := 255) (by decide) ?_
    refine r_iand C dX3_add_24 ?_
    refine r_iastN C dX3_add_25 hb hwb (j := xs.length) rfl (by omega) (by omega) ?_
    refine r_aload_n C dX3_add_26 rfl ?_
    refine r_dup C dX3_add_27 rfl ?_
    refine r_get C dX3_add_28 fgRX3_15 ha (ws_ne hab hwa) rfl ?_
    refine r_iconst C dX3_add_31 (v := 1) (by decide) ?_
    refine r_iadd C dX3_add_32 ?_
    refine r_top (y := nI (xs.length + 1)) (nI_add xs.length 1) ?_
    refine r_put C dX3_add_33 fpRX3_15 ha (ws_ne hab hwa) rfl rfl (Nat.le_of_ble_eq_true rfl) (fs' := [.ref b, .int (nI (xs.length + 1))]) rfl ?_
    exact r_return C T_ rfl dX3_add_36 (⟨rfl, _, by rw [len_push], hs_push hf hy⟩)
set_option maxHeartbeats 4000000 in
set_option maxRecDepth 100000 in
theorem cX3_addTimes9 {w : Wo} {a b n : Nat} {f : Nat → Int32} {xs : List Nat} (ha : a < NW) (hb : b < NW) (hab : a ≠ b) (hwa : w a = ob 3 [.ref b, .int (nI xs.length)]) (hwb : w b = ia n f) (hf : hs f xs) (hx : xs.length ≤ n) (hn : n < 2 ^ 31) {x : Int32} {y t : Nat} (hy : x &&& 255 = nI y) (hk : xs.length + t ≤ n) : Ctr mX3_addTimes [.ref a, .int x, .int (nI t)] w (PV fun w' => ∃ f', w' = wset (wset w b (ia n f')) a (ob 3 [.ref b, .int (nI (xs ++ List.replicate t y).length)]) ∧ hs f' (xs ++ List.replicate t y)) := by
  refine Ctr_intro okX3_addTimes rfl (Nat.le_of_ble_eq_true rfl) (L := [some (.ref a), some (.int x), some (.int (nI t)), none]) rfl (fun g ct C T_ => ?_)
  refine r_iconst C dX3_addTimes_0 (v := 0) (by decide) ?_
  refine r_istore_n C dX3_addTimes_1 (L' := [some (.ref a), some (.int x), some (.int (nI t)), some (.int 0)]) (by decide) rfl ?_
  have loop_2 : ∀ (d9 : Nat) (i : Nat) (zs : List Nat) (f1 : Nat → Int32), t - i < d9 → i ≤ t → zs = xs ++ List.replicate i y → hs f1 zs → Az g mX3_addTimes ct 0 0 2 [some (.ref a), some (.int x), some (.int (nI t)), some (.int (nI i))] [] (wset (wset w b (ia n f1)) a (ob 3 [.ref b, .int (nI zs.length)])) := by
    intro d9
    induction d9 with
    | zero => intro i zs f1 hd9; exact absurd hd9 (Nat.not_lt_zero _)
    | succ d9 ih_2 =>
      intro i zs f1 hd9 hi hz hf1
      refine r_iload_n C dX3_addTimes_2 rfl ?_
      refine r_iload_n C dX3_addTimes_3 rfl ?_
      refine r_icmp_ge C 18 dX3_addTimes_4 (by decide) (fun c_4 => ?_) (fun c_4 => ?_)
      · skip
        have c_4 : t ≤ i := (nI_leI (a := t) (b := i) (by omega) (by omega)).mp c_4
        exact r_return C T_ rfl dX3_addTimes_18 (⟨rfl, f1, by subst hz; rw [show i = t by omega], by subst hz; rw [show t = i by omega]; exact hf1⟩)
      · skip
        have c_4 : ¬ (t ≤ i) := fun h9 => c_4 ((nI_leI (a := t) (b := i) (by omega) (by omega)).mpr h9)
        refine r_aload_n C dX3_addTimes_7 rfl ?_
        refine r_iload_n C dX3_addTimes_8 rfl ?_
        refine r_callVv C (As := [.int x]) (rest := []) dX3_addTimes_9 (cX3_add9 ha hb hab ws_eq (ws_ne (Ne.symm hab) ws_eq) hf1 (by subst hz; simp only [List.length_append, List.length_cons, List.length_nil, List.length_replicate, lof_len] at *; omega) (by omega) (by subst hz; simp only [List.length_append, List.length_cons, List.length_nil, List.length_replicate, lof_len] at *; omega) hy) okX3_add mlRX3_19 imX3_add seX3_add ⟨by decide, by decide⟩ rfl rfl ha ws_eq rfl rfl (Nat.le_of_ble_eq_true rfl) (by decide) (by decide) (fun w9 h9 => ?_)
        obtain ⟨f1, rfl, h2⟩ := h9
        refine r_eq rfl rfl ((congrArg (fun z => wset (z) a (ob 3 [.ref b, .int (nI ((zs ++ [y]).length))])) ((ws_comm (Ne.symm hab)).trans (congrArg (fun z => wset z a (ob 3 [.ref b, .int (nI zs.length)])) ws_same))).trans ws_same) ?_
        refine r_iinc C dX3_addTimes_12 (v := nI (i + 1)) (L' := [some (.ref a), some (.int x), some (.int (nI t)), some (.int (nI (i + 1)))]) rfl (nI_add i 1) (by decide) rfl ?_
        refine r_goto C 2 dX3_addTimes_15 (by decide) ?_
        exact ih_2 (i + 1) (zs ++ [y]) f1 (by omega) (by omega) (by rw [hz, rep_push]) h2
  refine r_eq rfl rfl (ws_self hwb).symm ?_
  refine r_eq rfl rfl (ws_self (ws_ne hab hwa)).symm ?_
  exact loop_2 _ 0 xs f (Nat.lt_succ_self _) (Nat.zero_le _) (by simp) hf
set_option maxHeartbeats 4000000 in
set_option maxRecDepth 100000 in
theorem cX3_addLowestFirst9 {w : Wo} {a b n : Nat} {f : Nat → Int32} {xs : List Nat} (ha : a < NW) (hb : b < NW) (hab : a ≠ b) (hwa : w a = ob 3 [.ref b, .int (nI xs.length)]) (hwb : w b = ia n f) (hf : hs f xs) (hx : xs.length ≤ n) (hn : n < 2 ^ 31) {x : Int32} {t : Nat} (ht : t ≤ 4) (hk : xs.length + t ≤ n) : Ctr mX3_addLowestFirst [.ref a, .int x, .int (nI t)] w (PV fun w' => ∃ f', w' = wset (wset w b (ia n f')) a (ob 3 [.ref b, .int (nI (xs ++ lof x t).length)]) ∧ hs f' (xs ++ lof x t)) := by
  refine Ctr_intro okX3_addLowestFirst rfl (Nat.le_of_ble_eq_true rfl) (L := [some (.ref a), some (.int x), some (.int (nI t)), none]) rfl (fun g ct C T_ => ?_)
  refine r_iconst C dX3_addLowestFirst_0 (v := 0) (by decide) ?_
  refine r_istore_n C dX3_addLowestFirst_1 (L' := [some (.ref a), some (.int x), some (.int (nI t)), some (.int 0)]) (by decide) rfl ?_
  have loop_2 : ∀ (d9 : Nat) (i : Nat) (zs : List Nat) (f1 : Nat → Int32), t - i < d9 → i ≤ t → zs = xs ++ lof x i → hs f1 zs → Az g mX3_addLowestFirst ct 0 0 2 [some (.ref a), some (.int x), some (.int (nI t)), some (.int (nI i))] [] (wset (wset w b (ia n f1)) a (ob 3 [.ref b, .int (nI zs.length)])) := by
    intro d9
    induction d9 with
    | zero => intro i zs f1 hd9; exact absurd hd9 (Nat.not_lt_zero _)
    | succ d9 ih_2 =>
      intro i zs f1 hd9 hi hz hf1
      refine r_iload_n C dX3_addLowestFirst_2 rfl ?_
      refine r_iload_n C dX3_addLowestFirst_3 rfl ?_
      refine r_icmp_ge C 23 dX3_addLowestFirst_4 (by decide) (fun c_4 => ?_) (fun c_4 => ?_)
      · skip
        have c_4 : t ≤ i := (nI_leI (a := t) (b := i) (by omega) (by omega)).mp c_4
        exact r_return C T_ rfl dX3_addLowestFirst_23 (⟨rfl, f1, by subst hz; rw [show i = t by omega], by subst hz; rw [show t = i by omega]; exact hf1⟩)
      · skip
        have c_4 : ¬ (t ≤ i) := fun h9 => c_4 ((nI_leI (a := t) (b := i) (by omega) (by omega)).mpr h9)
        refine r_aload_n C dX3_addLowestFirst_7 rfl ?_
        refine r_iload_n C dX3_addLowestFirst_8 rfl ?_
        refine r_bipush C dX3_addLowestFirst_9 (v := 8) (by decide) ?_
        refine r_iload_n C dX3_addLowestFirst_11 rfl ?_
        refine r_imul C dX3_addLowestFirst_12 ?_
        refine r_top (y := nI (8 * i)) (pk_mul 8 i) ?_
        refine r_iushr C dX3_addLowestFirst_13 ?_
        refine r_callVv C (As := [.int ((x.toUInt32 >>> ((nI (8 * i)).toUInt32 &&& Int32.toUInt32 31)).toInt32)]) (rest := []) dX3_addLowestFirst_14 (cX3_add9 ha hb hab ws_eq (ws_ne (Ne.symm hab) ws_eq) hf1 (by subst hz; simp only [List.length_append, List.length_cons, List.length_nil, List.length_replicate, lof_len] at *; omega) (by omega) (by subst hz; simp only [List.length_append, List.length_cons, List.length_nil, List.length_replicate, lof_len] at *; omega) (ush_and x _ i (sh8 i (by omega)))) okX3_add mlRX3_19 imX3_add seX3_add ⟨by decide, by decide⟩ rfl rfl ha ws_eq rfl rfl (Nat.le_of_ble_eq_true rfl) (by decide) (by decide) (fun w9 h9 => ?_)
        obtain ⟨f1, rfl, h2⟩ := h9
        refine r_eq rfl rfl ((congrArg (fun z => wset (z) a (ob 3 [.ref b, .int (nI ((zs ++ [byj x i]).length))])) ((ws_comm (Ne.symm hab)).trans (congrArg (fun z => wset z a (ob 3 [.ref b, .int (nI zs.length)])) ws_same))).trans ws_same) ?_
        refine r_iinc C dX3_addLowestFirst_17 (v := nI (i + 1)) (L' := [some (.ref a), some (.int x), some (.int (nI t)), some (.int (nI (i + 1)))]) rfl (nI_add i 1) (by decide) rfl ?_
        refine r_goto C 2 dX3_addLowestFirst_20 (by decide) ?_
        exact ih_2 (i + 1) (zs ++ [byj x i]) f1 (by omega) (by omega) (by rw [hz, lof_succ, List.append_assoc]) h2
  refine r_eq rfl rfl (ws_self hwb).symm ?_
  refine r_eq rfl rfl (ws_self (ws_ne hab hwa)).symm ?_
  exact loop_2 _ 0 xs f (Nat.lt_succ_self _) (Nat.zero_le _) (by simp [lof]) hf
set_option maxHeartbeats 4000000 in
set_option maxRecDepth 100000 in
theorem cX3_addHighestFirst9 {w : Wo} {a b n : Nat} {f : Nat → Int32} {xs : List Nat} (ha : a < NW) (hb : b < NW) (hab : a ≠ b) (hwa : w a = ob 3 [.ref b, .int (nI xs.length)]) (hwb : w b = ia n f) (hf : hs f xs) (hx : xs.length ≤ n) (hn : n < 2 ^ 31) {x : Int32} (hk : xs.length + 4 ≤ n) : Ctr mX3_addHighestFirst [.ref a, .int x] w (PV fun w' => ∃ f', w' = wset (wset w b (ia n f')) a (ob 3 [.ref b, .int (nI (xs ++ hif x).length)]) ∧ hs f' (xs ++ hif x)) := by
  refine Ctr_intro okX3_addHighestFirst rfl (Nat.le_of_ble_eq_true rfl) (L := [some (.ref a), some (.int x)]) rfl (fun g ct C T_ => ?_)
  refine r_aload_n C dX3_addHighestFirst_0 rfl ?_
  refine r_iload_n C dX3_addHighestFirst_1 rfl ?_
  refine r_bipush C dX3_addHighestFirst_2 (v := 24) (by decide) ?_
  refine r_iushr C dX3_addHighestFirst_4 ?_
  refine r_callVv C (As := [.int ((x.toUInt32 >>> ((24 : Int32).toUInt32 &&& Int32.toUInt32 31)).toInt32)]) (rest := []) dX3_addHighestFirst_5 (cX3_add9 ha hb hab hwa hwb hf (by simp only [List.length_append, List.length_cons, List.length_nil] at *; omega) (by omega) (by simp only [List.length_append, List.length_cons, List.length_nil] at *; omega) (ush_and x 24 3 (by decide))) okX3_add mlRX3_19 imX3_add seX3_add ⟨by decide, by decide⟩ rfl rfl ha hwa rfl rfl (Nat.le_of_ble_eq_true rfl) (by decide) (by decide) (fun w9 h9 => ?_)
  obtain ⟨f1, rfl, h2⟩ := h9
  refine r_aload_n C dX3_addHighestFirst_8 rfl ?_
  refine r_iload_n C dX3_addHighestFirst_9 rfl ?_
  refine r_bipush C dX3_addHighestFirst_10 (v := 16) (by decide) ?_
  refine r_iushr C dX3_addHighestFirst_12 ?_
  refine r_callVv C (As := [.int ((x.toUInt32 >>> ((16 : Int32).toUInt32 &&& Int32.toUInt32 31)).toInt32)]) (rest := []) dX3_addHighestFirst_13 (cX3_add9 ha hb hab ws_eq (ws_ne (Ne.symm hab) ws_eq) h2 (by simp only [List.length_append, List.length_cons, List.length_nil] at *; omega) (by omega) (by simp only [List.length_append, List.length_cons, List.length_nil] at *; omega) (ush_and x 16 2 (by decide))) okX3_add mlRX3_19 imX3_add seX3_add ⟨by decide, by decide⟩ rfl rfl ha ws_eq rfl rfl (Nat.le_of_ble_eq_true rfl) (by decide) (by decide) (fun w9 h9 => ?_)
  obtain ⟨f3, rfl, h4⟩ := h9
  refine r_eq rfl rfl ((congrArg (fun z => wset (z) a (ob 3 [.ref b, .int (nI ((xs ++ [byj x 3] ++ [byj x 2]).length))])) ((ws_comm (Ne.symm hab)).trans (congrArg (fun z => wset z a (ob 3 [.ref b, .int (nI ((xs ++ [byj x 3]).length))])) ws_same))).trans ws_same) ?_
  refine r_aload_n C dX3_addHighestFirst_16 rfl ?_
  refine r_iload_n C dX3_addHighestFirst_17 rfl ?_
  refine r_bipush C dX3_addHighestFirst_18 (v := 8) (by decide) ?_
  refine r_iushr C dX3_addHighestFirst_20 ?_
  refine r_callVv C (As := [.int ((x.toUInt32 >>> ((8 : Int32).toUInt32 &&& Int32.toUInt32 31)).toInt32)]) (rest := []) dX3_addHighestFirst_21 (cX3_add9 ha hb hab ws_eq (ws_ne (Ne.symm hab) ws_eq) h4 (by simp only [List.length_append, List.length_cons, List.length_nil] at *; omega) (by omega) (by simp only [List.length_append, List.length_cons, List.length_nil] at *; omega) (ush_and x 8 1 (by decide))) okX3_add mlRX3_19 imX3_add seX3_add ⟨by decide, by decide⟩ rfl rfl ha ws_eq rfl rfl (Nat.le_of_ble_eq_true rfl) (by decide) (by decide) (fun w9 h9 => ?_)
  obtain ⟨f5, rfl, h6⟩ := h9
  refine r_eq rfl rfl ((congrArg (fun z => wset (z) a (ob 3 [.ref b, .int (nI ((xs ++ [byj x 3] ++ [byj x 2] ++ [byj x 1]).length))])) ((ws_comm (Ne.symm hab)).trans (congrArg (fun z => wset z a (ob 3 [.ref b, .int (nI ((xs ++ [byj x 3] ++ [byj x 2]).length))])) ws_same))).trans ws_same) ?_
  refine r_aload_n C dX3_addHighestFirst_24 rfl ?_
  refine r_iload_n C dX3_addHighestFirst_25 rfl ?_
  refine r_callVv C (As := [.int x]) (rest := []) dX3_addHighestFirst_26 (cX3_add9 ha hb hab ws_eq (ws_ne (Ne.symm hab) ws_eq) h6 (by simp only [List.length_append, List.length_cons, List.length_nil] at *; omega) (by omega) (by simp only [List.length_append, List.length_cons, List.length_nil] at *; omega) (and0 x)) okX3_add mlRX3_19 imX3_add seX3_add ⟨by decide, by decide⟩ rfl rfl ha ws_eq rfl rfl (Nat.le_of_ble_eq_true rfl) (by decide) (by decide) (fun w9 h9 => ?_)
  obtain ⟨f7, rfl, h8⟩ := h9
  refine r_eq rfl rfl ((congrArg (fun z => wset (z) a (ob 3 [.ref b, .int (nI ((xs ++ [byj x 3] ++ [byj x 2] ++ [byj x 1] ++ [byj x 0]).length))])) ((ws_comm (Ne.symm hab)).trans (congrArg (fun z => wset z a (ob 3 [.ref b, .int (nI ((xs ++ [byj x 3] ++ [byj x 2] ++ [byj x 1]).length))])) ws_same))).trans ws_same) ?_
  exact r_return C T_ rfl dX3_addHighestFirst_29 (⟨rfl, _, by simp only [List.append_assoc]; rfl, by have := h8; simp only [List.append_assoc] at this; exact this⟩)
set_option maxHeartbeats 4000000 in
set_option maxRecDepth 100000 in
theorem cX3_addRow9 {w : Wo} {a b n : Nat} {f : Nat → Int32} {xs : List Nat} (ha : a < NW) (hb : b < NW) (hab : a ≠ b) (hwa : w a = ob 3 [.ref b, .int (nI xs.length)]) (hwb : w b = ia n f) (hf : hs f xs) (hx : xs.length ≤ n) (hn : n < 2 ^ 31) {a2 b2 n2 : Nat} {f2 : Nat → Int32} {ys : List Nat} (ha2 : a2 < NW) (hb2 : b2 < NW) (haa : a ≠ a2) (hab2 : a ≠ b2) (hba2 : b ≠ a2) (hbb : b ≠ b2) (hw2 : w a2 = ob 3 [.ref b2, .int (nI ys.length)]) (hwb2 : w b2 = ia n2 f2) (hf2 : hs f2 ys) (hy : ys.length ≤ n2) (hn2 : n2 < 2 ^ 31) (hk : xs.length + ys.length ≤ n) : Ctr mX3_addRow [.ref a, .ref a2] w (PV fun w' => ∃ f', w' = wset (wset w b (ia n f')) a (ob 3 [.ref b, .int (nI (xs ++ ys).length)]) ∧ hs f' (xs ++ ys)) := by
  refine Ctr_intro okX3_addRow rfl (Nat.le_of_ble_eq_true rfl) (L := [some (.ref a), some (.ref a2), none]) rfl (fun g ct C T_ => ?_)
  refine r_aload_n C dX3_addRow_0 rfl ?_
  refine r_get C dX3_addRow_1 fgRX3_15 ha2 hw2 rfl ?_
  refine r_aload_n C dX3_addRow_4 rfl ?_
  refine r_get C dX3_addRow_5 fgRX3_9 ha hwa rfl ?_
  refine r_alen C dX3_addRow_8 hb hwb ?_
  refine r_aload_n C dX3_addRow_9 rfl ?_
  refine r_get C dX3_addRow_10 fgRX3_15 ha hwa rfl ?_
  refine r_isub C dX3_addRow_13 ?_
  refine r_top (y := nI (n - xs.length)) (pk_sub (a := n) (b := xs.length) (by omega)) ?_
  refine r_min C dX3_addRow_14 mlRX3_23 jn_min_static jn_min_init jn_min_code (by decide) (Nat.le_of_ble_eq_true rfl) (by decide) (by decide) ?_
  refine r_top (y := nI ys.length) (min_le (by omega) (by omega)) ?_
  refine r_istore_n C dX3_addRow_17 (L' := [some (.ref a), some (.ref a2), some (.int (nI ys.length))]) (by decide) rfl ?_
  refine r_aload_n C dX3_addRow_18 rfl ?_
  refine r_get C dX3_addRow_19 fgRX3_9 ha2 hw2 rfl ?_
  refine r_iconst C dX3_addRow_22 (v := 0) (by decide) ?_
  refine r_aload_n C dX3_addRow_23 rfl ?_
  refine r_get C dX3_addRow_24 fgRX3_9 ha hwa rfl ?_
  refine r_aload_n C dX3_addRow_27 rfl ?_
  refine r_get C dX3_addRow_28 fgRX3_15 ha hwa rfl ?_
  refine r_iload_n C dX3_addRow_31 rfl ?_
  refine r_copyN C dX3_addRow_32 mlRX3_29 jn_copy_native jn_copy_static jn_sys_init hb2 hwb2 hb hwb (sn := 0) (dn := xs.length) (ln := ys.length) rfl rfl rfl (by omega) (by omega) (by omega) (by omega) (by omega) (by decide) (Nat.le_of_ble_eq_true rfl) ?_
  refine r_aload_n C dX3_addRow_35 rfl ?_
  refine r_dup C dX3_addRow_36 rfl ?_
  refine r_get C dX3_addRow_37 fgRX3_15 ha (ws_ne hab hwa) rfl ?_
  refine r_iload_n C dX3_addRow_40 rfl ?_
  refine r_iadd C dX3_addRow_41 ?_
  refine r_top (y := nI (xs.length + ys.length)) (nI_add xs.length ys.length) ?_
  refine r_put C dX3_addRow_42 fpRX3_15 ha (ws_ne hab hwa) rfl rfl (Nat.le_of_ble_eq_true rfl) (fs' := [.ref b, .int (nI (xs.length + ys.length))]) rfl ?_
  exact r_return C T_ rfl dX3_addRow_45 (⟨rfl, _, by rw [len_app], hs_cpy hf2 hf⟩)
set_option maxHeartbeats 4000000 in
set_option maxRecDepth 100000 in
theorem cX3_become9 {w : Wo} {a b n : Nat} {f : Nat → Int32} {xs : List Nat} (ha : a < NW) (hb : b < NW) (hab : a ≠ b) (hwa : w a = ob 3 [.ref b, .int (nI xs.length)]) (hwb : w b = ia n f) (hf : hs f xs) (hx : xs.length ≤ n) (hn : n < 2 ^ 31) {a2 b2 n2 : Nat} {f2 : Nat → Int32} {ys : List Nat} (ha2 : a2 < NW) (hb2 : b2 < NW) (haa : a ≠ a2) (hab2 : a ≠ b2) (hba2 : b ≠ a2) (hbb : b ≠ b2) (hw2 : w a2 = ob 3 [.ref b2, .int (nI ys.length)]) (hwb2 : w b2 = ia n2 f2) (hf2 : hs f2 ys) (hy : ys.length ≤ n2) (hn2 : n2 < 2 ^ 31) (hk : ys.length ≤ n) : Ctr mX3_become [.ref a, .ref a2] w (PV fun w' => ∃ f', w' = wset (wset w b (ia n f')) a (ob 3 [.ref b, .int (nI ys.length)]) ∧ hs f' ys) := by
  refine Ctr_intro okX3_become rfl (Nat.le_of_ble_eq_true rfl) (L := [some (.ref a), some (.ref a2)]) rfl (fun g ct C T_ => ?_)
  refine r_aload_n C dX3_become_0 rfl ?_
  refine r_iconst C dX3_become_1 (v := 0) (by decide) ?_
  refine r_put C dX3_become_2 fpRX3_15 ha hwa rfl rfl (Nat.le_of_ble_eq_true rfl) (fs' := [.ref b, .int 0]) rfl ?_
  refine r_aload_n C dX3_become_5 rfl ?_
  refine r_aload_n C dX3_become_6 rfl ?_
  refine r_callVv C (As := [.ref a2]) (rest := []) dX3_become_7 (cX3_addRow9 (xs := []) (ys := ys) ha hb hab ws_eq (ws_ne (Ne.symm hab) hwb) (hs_nil f) (Nat.zero_le _) hn ha2 hb2 haa hab2 hba2 hbb (ws_ne (Ne.symm haa) hw2) (ws_ne (Ne.symm hab2) hwb2) hf2 hy hn2 (by simpa using hk)) okX3_addRow mlRX3_35 imX3_addRow seX3_addRow ⟨by decide, by decide⟩ rfl rfl ha ws_eq rfl rfl (Nat.le_of_ble_eq_true rfl) (by decide) (by decide) (fun w9 h9 => ?_)
  obtain ⟨f1, rfl, h2⟩ := h9
  refine r_eq rfl rfl ((ws_comm hab).trans (congrArg (fun z => wset z b (ia n f1)) ws_same)) ?_
  exact r_return C T_ rfl dX3_become_10 (⟨rfl, _, ws_comm (Ne.symm hab), h2⟩)
set_option maxHeartbeats 4000000 in
set_option maxRecDepth 100000 in
theorem cX3_beginsAs9 {w : Wo} {a b n : Nat} {f : Nat → Int32} {xs : List Nat} (ha : a < NW) (hb : b < NW) (hab : a ≠ b) (hwa : w a = ob 3 [.ref b, .int (nI xs.length)]) (hwb : w b = ia n f) (hf : hs f xs) (hx : xs.length ≤ n) (hn : n < 2 ^ 31) {a2 b2 n2 : Nat} {f2 : Nat → Int32} {ys : List Nat} (ha2 : a2 < NW) (hb2 : b2 < NW) (haa : a ≠ a2) (hab2 : a ≠ b2) (hba2 : b ≠ a2) (hbb : b ≠ b2) (hw2 : w a2 = ob 3 [.ref b2, .int (nI ys.length)]) (hwb2 : w b2 = ia n2 f2) (hf2 : hs f2 ys) (hy : ys.length ≤ n2) (hn2 : n2 < 2 ^ 31) {t : Nat} (hm : t ≤ xs.length) (hm2 : t ≤ ys.length) (hbx : byt xs) (hby : byt ys) : Ctr mX3_beginsAs [.ref a, .ref a2, .int (nI t)] w (PI fun r w' => w' = w ∧ r = (if xs.take t = ys.take t then 1 else 0)) := by
  refine Ctr_intro okX3_beginsAs rfl (Nat.le_of_ble_eq_true rfl) (L := [some (.ref a), some (.ref a2), some (.int (nI t)), none]) rfl (fun g ct C T_ => ?_)
  refine r_aload_n C dX3_beginsAs_0 rfl ?_
  refine r_get C dX3_beginsAs_1 fgRX3_15 ha hwa rfl ?_
  refine r_iload_n C dX3_beginsAs_4 rfl ?_
  refine r_icmp_lt C 16 dX3_beginsAs_5 (by decide) (fun c_5 => ?_) (fun c_5 => ?_)
  · skip
    exact absurd c_5 (nI_nlt hm (by omega))
  · skip
    have c_5 : ¬ (xs.length < t) := fun h9 => c_5 ((nI_ltI (a := xs.length) (b := t) (by omega) (by omega)).mpr h9)
    refine r_aload_n C dX3_beginsAs_8 rfl ?_
    refine r_get C dX3_beginsAs_9 fgRX3_15 ha2 hw2 rfl ?_
    refine r_iload_n C dX3_beginsAs_12 rfl ?_
    refine r_icmp_ge C 18 dX3_beginsAs_13 (by decide) (fun c_13 => ?_) (fun c_13 => ?_)
    · skip
      have c_13 : t ≤ ys.length := (nI_leI (a := t) (b := ys.length) (by omega) (by omega)).mp c_13
      refine r_iconst C dX3_beginsAs_18 (v := 0) (by decide) ?_
      refine r_istore_n C dX3_beginsAs_19 (L' := [some (.ref a), some (.ref a2), some (.int (nI t)), some (.int 0)]) (by decide) rfl ?_
      have loop_20 : ∀ (d9 : Nat) (i : Nat), t - i < d9 → i ≤ t → (∀ j, j < i → f j = f2 j) → Az g mX3_beginsAs ct 0 0 20 [some (.ref a), some (.ref a2), some (.int (nI t)), some (.int (nI i))] [] w := by
        intro d9
        induction d9 with
        | zero => intro i hd9; exact absurd hd9 (Nat.not_lt_zero _)
        | succ d9 ih_20 =>
          intro i hd9 hi he
          refine r_iload_n C dX3_beginsAs_20 rfl ?_
          refine r_iload_n C dX3_beginsAs_21 rfl ?_
          refine r_icmp_ge C 48 dX3_beginsAs_22 (by decide) (fun c_22 => ?_) (fun c_22 => ?_)
          · skip
            have c_22 : t ≤ i := (nI_leI (a := t) (b := i) (by omega) (by omega)).mp c_22
            refine r_iconst C dX3_beginsAs_48 (v := 1) (by decide) ?_
            exact r_ireturn C T_ rfl (by decide) dX3_beginsAs_49 (⟨_, rfl, rfl, (if_pos ((hs_same hf hf2 hm hm2 hbx hby).mp (fun j hj => he j (by omega)))).symm⟩)
          · skip
            have c_22 : ¬ (t ≤ i) := fun h9 => c_22 ((nI_leI (a := t) (b := i) (by omega) (by omega)).mpr h9)
            refine r_aload_n C dX3_beginsAs_25 rfl ?_
            refine r_get C dX3_beginsAs_26 fgRX3_9 ha hwa rfl ?_
            refine r_iload_n C dX3_beginsAs_29 rfl ?_
            refine r_ialdN C dX3_beginsAs_30 hb hwb (j := i) rfl (by omega) (by omega) ?_
            refine r_aload_n C dX3_beginsAs_31 rfl ?_
            refine r_get C dX3_beginsAs_32 fgRX3_9 ha2 hw2 rfl ?_
            refine r_iload_n C dX3_beginsAs_35 rfl ?_
            refine r_ialdN C dX3_beginsAs_36 hb2 hwb2 (j := i) rfl (by omega) (by omega) ?_
            refine r_icmp_eq C 42 dX3_beginsAs_37 (by decide) (fun c_37 => ?_) (fun c_37 => ?_)
            · skip
              refine r_iinc C dX3_beginsAs_42 (v := nI (i + 1)) (L' := [some (.ref a), some (.ref a2), some (.int (nI t)), some (.int (nI (i + 1)))]) rfl (nI_add i 1) (by decide) rfl ?_
              refine r_goto C 20 dX3_beginsAs_45 (by decide) ?_
              exact ih_20 (i + 1) (by omega) (by omega) (lt_s he c_37)
            · skip
              refine r_iconst C dX3_beginsAs_40 (v := 0) (by decide) ?_
              exact r_ireturn C T_ rfl (by decide) dX3_beginsAs_41 (⟨_, rfl, rfl, (if_neg (fun e9 => c_37 ((hs_same hf hf2 hm hm2 hbx hby).mpr e9 i (by omega)))).symm⟩)
      exact loop_20 _ 0 (Nat.lt_succ_self _) (Nat.zero_le _) (fun j hj => absurd hj (Nat.not_lt_zero j))
    · skip
      exact absurd (nI_le hm2 (by omega)) c_13
end
section
/-! STREAM, as numbers -/
def swp (T : Nat → Nat) (i j : Nat) : Nat → Nat := fun k => if k = j then T i else if k = i then T j else T k
def ksaS (key : List Nat) (x : Nat) : Nat → (Nat → Nat) × Nat
  | 0 => (id, 0)
  | i + 1 => (swp (ksaS key x i).1 i (((ksaS key x i).2 + (ksaS key x i).1 i + (key.getD (i % key.length) 0 ^^^ x)) % 256), ((ksaS key x i).2 + (ksaS key x i).1 i + (key.getD (i % key.length) 0 ^^^ x)) % 256)
def prg (T0 : Nat → Nat) : Nat → (Nat → Nat) × Nat
  | 0 => (T0, 0)
  | k + 1 => (swp (prg T0 k).1 ((k + 1) % 256) (((prg T0 k).2 + (prg T0 k).1 ((k + 1) % 256)) % 256), ((prg T0 k).2 + (prg T0 k).1 ((k + 1) % 256)) % 256)
/-- the stream's byte k out of the table T0 -/
def prb (T0 : Nat → Nat) (k : Nat) : Nat := (prg T0 (k + 1)).1 (((prg T0 k).1 ((k + 1) % 256) + (prg T0 k).1 (prg T0 (k + 1)).2) % 256)
def ksb (key : List Nat) (x k : Nat) : Nat := prb (ksaS key x 256).1 k
def xorS (T0 : Nat → Nat) (xs : List Nat) : List Nat := (List.range xs.length).map (fun k => xs.getD k 0 ^^^ prb T0 k)
def strm (key : List Nat) (x : Nat) (xs : List Nat) : List Nat := xorS (ksaS key x 256).1 xs
/-- the array holds the table -/
def ht (f : Nat → Int32) (T : Nat → Nat) : Prop := ∀ k, k < 256 → f k = nI (T k)
def t256 (T : Nat → Nat) : Prop := ∀ k, k < 256 → T k < 256
theorem t_id : t256 id := fun _ h => h
theorem t_swp {T : Nat → Nat} (h : t256 T) {i j : Nat} (hi : i < 256) (hj : j < 256) : t256 (swp T i j) := by
  intro k hk
  unfold swp
  split
  · exact h i hi
  · split
    · exact h j hj
    · exact h k hk
theorem t_ksa (key : List Nat) (x : Nat) : ∀ n, n ≤ 256 → t256 (ksaS key x n).1 ∧ (ksaS key x n).2 < 256
  | 0, _ => ⟨t_id, by show 0 < 256; decide⟩
  | n + 1, h => ⟨t_swp (t_ksa key x n (by omega)).1 (by omega) (Nat.mod_lt _ (by decide)), Nat.mod_lt _ (by decide)⟩
theorem t_prg {T0 : Nat → Nat} (h : t256 T0) : ∀ n, t256 (prg T0 n).1 ∧ (prg T0 n).2 < 256
  | 0 => ⟨h, by show 0 < 256; decide⟩
  | n + 1 => ⟨t_swp (t_prg h n).1 (Nat.mod_lt _ (by decide)) (Nat.mod_lt _ (by decide)), Nat.mod_lt _ (by decide)⟩
theorem t_prb {T0 : Nat → Nat} (h : t256 T0) (k : Nat) : prb T0 k < 256 := (t_prg h (k + 1)).1 _ (Nat.mod_lt _ (by decide))
theorem ht_id {f : Nat → Int32} (h : ∀ k, k < 256 → f k = nI k) : ht f id := h
theorem ht_swp {f : Nat → Int32} {T : Nat → Nat} (h : ht f T) {i j : Nat} (hi : i < 256) (hj : j < 256) : ht (upd (upd f i (f j)) j (f i)) (swp T i j) := by
  intro k hk
  unfold upd swp
  by_cases e : k = j
  · rw [if_pos e, if_pos e]
    exact h i hi
  · rw [if_neg e, if_neg e]
    by_cases e2 : k = i
    · rw [if_pos e2, if_pos e2]
      exact h j hj
    · rw [if_neg e2, if_neg e2]
      exact h k hk
theorem xorS_len (T0 : Nat → Nat) (xs : List Nat) : (xorS T0 xs).length = xs.length := by simp [xorS]
theorem strm_len (key : List Nat) (x : Nat) (xs : List Nat) : (strm key x xs).length = xs.length := xorS_len _ _
theorem xorS_at (T0 : Nat → Nat) (xs : List Nat) {k : Nat} (h : k < xs.length) : (xorS T0 xs).getD k 0 = xs.getD k 0 ^^^ prb T0 k := by
  simp [xorS, List.getD, h]
theorem byt_getD {xs : List Nat} (h : byt xs) (k : Nat) : xs.getD k 0 < 256 := by
  by_cases hk : k < xs.length
  · have : xs.getD k 0 = xs[k] := by simp [List.getD, List.getElem?_eq_getElem hk]
    rw [this]
    exact h _ (List.getElem_mem _)
  · have : xs.getD k 0 = 0 := by simp [List.getD, List.getElem?_eq_none (Nat.le_of_not_lt hk)]
    rw [this]
    decide
theorem xor_lt {a b : Nat} (ha : a < 256) (hb : b < 256) : a ^^^ b < 256 := Nat.xor_lt_two_pow (n := 8) ha hb
theorem byt_xorS {T0 : Nat → Nat} (h : t256 T0) {xs : List Nat} (hx : byt xs) : byt (xorS T0 xs) := by
  intro y hy
  obtain ⟨k, -, rfl⟩ := List.mem_map.mp hy
  exact xor_lt (byt_getD hx k) (t_prb h k)
theorem byt_strm (key : List Nat) (x : Nat) {xs : List Nat} (hx : byt xs) : byt (strm key x xs) := byt_xorS (t_ksa key x 256 (Nat.le_refl _)).1 hx
/-- streams change places -/
theorem xorS_comm (T1 T2 : Nat → Nat) (xs : List Nat) : xorS T1 (xorS T2 xs) = xorS T2 (xorS T1 xs) := by
  apply List.ext_getElem?
  intro k
  by_cases hk : k < xs.length
  · have g1 : ∀ ys : List Nat, ys.length = xs.length → ys[k]? = some (ys.getD k 0) := fun ys e => by simp [List.getD, List.getElem?_eq_getElem (show k < ys.length by omega)]
    rw [g1 _ (by rw [xorS_len, xorS_len]), g1 _ (by rw [xorS_len, xorS_len]), xorS_at _ _ (by rw [xorS_len]; exact hk), xorS_at _ _ hk, xorS_at _ _ (by rw [xorS_len]; exact hk), xorS_at _ _ hk, Nat.xor_assoc, Nat.xor_assoc, Nat.xor_comm (prb T2 k)]
  · rw [List.getElem?_eq_none (by rw [xorS_len, xorS_len]; omega), List.getElem?_eq_none (by rw [xorS_len, xorS_len]; omega)]
theorem nx_xor9 (a b : Nat) : nI a ^^^ nI b = nI (a ^^^ b) := by
  apply Int32.toBitVec_inj.mp
  show (nI a).toBitVec ^^^ (nI b).toBitVec = (nI (a ^^^ b)).toBitVec
  apply BitVec.eq_of_toNat_eq
  have t : ∀ n, (nI n).toBitVec.toNat = n % 2 ^ 32 := fun n => by
    show (BitVec.ofNat 32 n).toNat = _
    simp
  rw [BitVec.toNat_xor, t, t, t, Nat.xor_mod_two_pow]
end
section
theorem modS1 {i n k : Nat} (h : k = i % n) (h1 : k + 1 < n) : k + 1 = (i + 1) % n := by
  rw [← Nat.mod_add_mod, ← h, Nat.mod_eq_of_lt h1]
theorem modS0 {i n k : Nat} (h : k = i % n) (h1 : ¬ k + 1 < n) (hn : 0 < n) : 0 = (i + 1) % n := by
  have : k < n := by rw [h]; exact Nat.mod_lt _ hn
  rw [← Nat.mod_add_mod, ← h, show k + 1 = n by omega, Nat.mod_self]
theorem ht_swp' {f : Nat → Int32} {T : Nat → Nat} (h : ht f T) {i j : Nat} (hi : i < 256) (hj : j < 256) : ht (upd (upd f i (nI (T j))) j (nI (T i))) (swp T i j) := by
  rw [← h j hj, ← h i hi]
  exact ht_swp h hi hj
theorem hs_pre {f : Nat → Int32} {xs ys : List Nat} {g : Nat → Nat} (hl : ys.length = xs.length) (h : ∀ m, m < xs.length → f m = nI (g m)) (hg : ∀ m, m < xs.length → ys.getD m 0 = g m) : hs f ys := fun m hm => by
  rw [hg m (by omega)]
  exact h m (by omega)
theorem up_lt {f : Nat → Int32} {k : Nat} {x : Int32} {p : Nat → Int32} (h : ∀ m, m < k → f m = p m) (hx : x = p k) : ∀ m, m < k + 1 → upd f k x m = p m := by
  intro m hm
  unfold upd
  by_cases e : m = k
  · rw [if_pos e, e, hx]
  · rw [if_neg e]
    exact h m (by omega)
theorem up_ge {f : Nat → Int32} {k n : Nat} {x : Int32} {p : Nat → Int32} (h : ∀ m, k ≤ m → m < n → f m = p m) : ∀ m, k + 1 ≤ m → m < n → upd f k x m = p m := by
  intro m hm hn
  unfold upd
  rw [if_neg (by omega)]
  exact h m (by omega) hn
end
section
set_option maxHeartbeats 4000000 in
set_option maxRecDepth 100000 in
theorem cX4_mixTable9 {w : Wo} {s tb a2 b2 : Nat} (l_s : s < NW) (l_tb : tb < NW) (l_a2 : a2 < NW) (l_b2 : b2 < NW) (n_s_tb : s ≠ tb) (n_s_a2 : s ≠ a2) (n_s_b2 : s ≠ b2) (n_tb_a2 : tb ≠ a2) (n_tb_b2 : tb ≠ b2) (n_a2_b2 : a2 ≠ b2) {n2 : Nat} {ft : Nat → Int32} (w_s : w s = ob 4 [.ref tb]) (w_tb : w tb = ia 256 ft) {f2 : Nat → Int32} {ys : List Nat} (w_a2 : w a2 = ob 3 [.ref b2, .int (nI ys.length)]) (w_b2 : w b2 = ia n2 f2) (h_ys : hs f2 ys) (k_ys : ys.length ≤ n2) (hn2 : n2 < 2 ^ 31) {ch : Nat} (hch : ch < 256) (hy0 : 0 < ys.length) (hby : byt ys) : Ctr mX4_mixTable [.ref s, .ref a2, .int (nI ch)] w (PV fun w' => ∃ ft', w' = wset w tb (ia 256 ft') ∧ ht ft' (ksaS ys ch 256).1) := by
  refine Ctr_intro okX4_mixTable rfl (Nat.le_of_ble_eq_true rfl) (L := [some (.ref s), some (.ref a2), some (.int (nI ch)), none, none, none, none]) rfl (fun g ct C T_ => ?_)
  refine r_iconst C dX4_mixTable_0 (v := 0) (by decide) ?_
  refine r_istore_n C dX4_mixTable_1 (L' := [some (.ref s), some (.ref a2), some (.int (nI ch)), some (.int 0), none, none, none]) (by decide) rfl ?_
  have loop_2 : ∀ (d9 : Nat) (i : Nat) (f1 : Nat → Int32), 256 - i < d9 → i ≤ 256 → (∀ k, k < i → f1 k = nI k) → Az g mX4_mixTable ct 0 0 2 [some (.ref s), some (.ref a2), some (.int (nI ch)), some (.int (nI i)), none, none, none] [] (wset w tb (ia 256 f1)) := by
    intro d9
    induction d9 with
    | zero => intro i f1 hd9; exact absurd hd9 (Nat.not_lt_zero _)
    | succ d9 ih_2 =>
      intro i f1 hd9 hi hp
      refine r_iload_n C dX4_mixTable_2 rfl ?_
      refine r_sipush C dX4_mixTable_3 (v := 256) (by decide) ?_
      refine r_icmp_ge C 22 dX4_mixTable_6 (by decide) (fun c_6 => ?_) (fun c_6 => ?_)
      · skip
        have c_6 : 256 ≤ i := (nI_leI (a := 256) (b := i) (by omega) (by omega)).mp c_6
        refine r_iconst C dX4_mixTable_22 (v := 0) (by decide) ?_
        refine r_istore_n C dX4_mixTable_23 (L' := [some (.ref s), some (.ref a2), some (.int (nI ch)), some (.int 0), none, none, none]) (by decide) rfl ?_
        refine r_iconst C dX4_mixTable_24 (v := 0) (by decide) ?_
        refine r_istore C dX4_mixTable_25 (L' := [some (.ref s), some (.ref a2), some (.int (nI ch)), some (.int 0), some (.int 0), none, none]) (by decide) rfl ?_
        refine r_iconst C dX4_mixTable_27 (v := 0) (by decide) ?_
        refine r_istore C dX4_mixTable_28 (L' := [some (.ref s), some (.ref a2), some (.int (nI ch)), some (.int 0), some (.int 0), some (.int 0), none]) (by decide) rfl ?_
        have loop_30 : ∀ (d9 : Nat) (i : Nat) (j : Nat) (kk : Nat) (T : Nat → Nat) (f3 : Nat → Int32), 256 - i < d9 → i ≤ 256 → T = (ksaS ys ch i).1 → j = (ksaS ys ch i).2 → kk = i % ys.length → ht f3 T → Az g mX4_mixTable ct 0 0 30 [some (.ref s), some (.ref a2), some (.int (nI ch)), some (.int (nI j)), some (.int (nI kk)), some (.int (nI i)), none] [] (wset w tb (ia 256 f3)) := by
          intro d9
          induction d9 with
          | zero => intro i j kk T f3 hd9; exact absurd hd9 (Nat.not_lt_zero _)
          | succ d9 ih_30 =>
            intro i j kk T f3 hd9 hi hT hj hk hf3
            have hT6 : t256 T := by rw [hT]; exact (t_ksa ys ch i hi).1
            have hj6 : j < 256 := by rw [hj]; exact (t_ksa ys ch i hi).2
            have hk6 : kk < ys.length := by rw [hk]; exact Nat.mod_lt _ hy0
            refine r_iload C dX4_mixTable_30 rfl ?_
            refine r_sipush C dX4_mixTable_32 (v := 256) (by decide) ?_
            refine r_icmp_ge C 108 dX4_mixTable_35 (by decide) (fun c_35 => ?_) (fun c_35 => ?_)
            · skip
              have c_35 : 256 ≤ i := (nI_leI (a := 256) (b := i) (by omega) (by omega)).mp c_35
              exact r_return C T_ rfl dX4_mixTable_108 (⟨rfl, _, rfl, by rw [hT, show i = 256 by omega] at hf3; exact hf3⟩)
            · skip
              have c_35 : ¬ (256 ≤ i) := fun h9 => c_35 ((nI_leI (a := 256) (b := i) (by omega) (by omega)).mpr h9)
              refine r_aload_n C dX4_mixTable_38 rfl ?_
              refine r_get C dX4_mixTable_39 fgRX4_7 l_s (ws_ne n_s_tb w_s) rfl ?_
              refine r_iload C dX4_mixTable_42 rfl ?_
              refine r_ialdN C dX4_mixTable_44 l_tb ws_eq (j := i) rfl (by omega) (by decide) ?_
              refine r_top (y := nI (T i)) (hf3 i (by omega)) ?_
              have hT7 : T i < 256 := hT6 i (by omega)
              refine r_istore C dX4_mixTable_45 (L' := [some (.ref s), some (.ref a2), some (.int (nI ch)), some (.int (nI j)), some (.int (nI kk)), some (.int (nI i)), some (.int (nI (T i)))]) (by decide) rfl ?_
              refine r_iload_n C dX4_mixTable_47 rfl ?_
              refine r_iload C dX4_mixTable_48 rfl ?_
              refine r_iadd C dX4_mixTable_50 ?_
              refine r_top (y := nI (j + (T i))) (nI_add j (T i)) ?_
              refine r_aload_n C dX4_mixTable_51 rfl ?_
              refine r_get C dX4_mixTable_52 fgRX4_23 l_a2 (ws_ne (Ne.symm n_tb_a2) w_a2) rfl ?_
              refine r_iload C dX4_mixTable_55 rfl ?_
              refine r_ialdN C dX4_mixTable_57 l_b2 (ws_ne (Ne.symm n_tb_b2) w_b2) (j := kk) rfl (by omega) (by omega) ?_
              refine r_top (y := nI (ys.getD kk 0)) (h_ys kk hk6) ?_
              have hx7 : ys.getD kk 0 ^^^ ch < 256 := xor_lt (byt_getD hby kk) hch
              refine r_iload_n C dX4_mixTable_58 rfl ?_
              refine r_ixor C dX4_mixTable_59 ?_
              refine r_top (y := nI ((ys.getD kk 0) ^^^ ch)) (nx_xor9 (ys.getD kk 0) ch) ?_
              refine r_iadd C dX4_mixTable_60 ?_
              refine r_top (y := nI ((j + (T i)) + ((ys.getD kk 0) ^^^ ch))) (nI_add (j + (T i)) ((ys.getD kk 0) ^^^ ch)) ?_
              refine r_sipush C dX4_mixTable_61 (v := 255) (by decide) ?_
              refine r_iand C dX4_mixTable_64 ?_
              refine r_top (y := nI (((j + (T i)) + ((ys.getD kk 0) ^^^ ch)) % 256)) (pk_andN (n := (j + (T i)) + ((ys.getD kk 0) ^^^ ch)) (by omega) 8 rfl) ?_
              obtain ⟨j2, hj2⟩ : ∃ z : Nat, z = ((j + (T i)) + ((ys.getD kk 0) ^^^ ch)) % 256 := ⟨_, rfl⟩
              refine r_top (congrArg nI hj2.symm) ?_
              have hj3 : j2 < 256 := by omega
              refine r_istore_n C dX4_mixTable_65 (L' := [some (.ref s), some (.ref a2), some (.int (nI ch)), some (.int (nI j2)), some (.int (nI kk)), some (.int (nI i)), some (.int (nI (T i)))]) (by decide) rfl ?_
              refine r_aload_n C dX4_mixTable_66 rfl ?_
              refine r_get C dX4_mixTable_67 fgRX4_7 l_s (ws_ne n_s_tb w_s) rfl ?_
              refine r_iload C dX4_mixTable_70 rfl ?_
              refine r_aload_n C dX4_mixTable_72 rfl ?_
              refine r_get C dX4_mixTable_73 fgRX4_7 l_s (ws_ne n_s_tb w_s) rfl ?_
              refine r_iload_n C dX4_mixTable_76 rfl ?_
              refine r_ialdN C dX4_mixTable_77 l_tb ws_eq (j := j2) rfl (by omega) (by decide) ?_
              refine r_top (y := nI (T j2)) (hf3 j2 hj3) ?_
              refine r_iastN C dX4_mixTable_78 l_tb ws_eq (j := i) rfl (by omega) (by decide) ?_
              refine r_eq rfl rfl ws_same ?_
              refine r_aload_n C dX4_mixTable_79 rfl ?_
              refine r_get C dX4_mixTable_80 fgRX4_7 l_s (ws_ne n_s_tb w_s) rfl ?_
              refine r_iload_n C dX4_mixTable_83 rfl ?_
              refine r_iload C dX4_mixTable_84 rfl ?_
              refine r_iastN C dX4_mixTable_86 l_tb ws_eq (j := j2) rfl (by omega) (by decide) ?_
              refine r_eq rfl rfl ws_same ?_
              refine r_iinc C dX4_mixTable_87 (v := nI (kk + 1)) (L' := [some (.ref s), some (.ref a2), some (.int (nI ch)), some (.int (nI j2)), some (.int (nI (kk + 1))), some (.int (nI i)), some (.int (nI (T i)))]) rfl (nI_add kk 1) (by decide) rfl ?_
              refine r_iload C dX4_mixTable_90 rfl ?_
              refine r_aload_n C dX4_mixTable_92 rfl ?_
              refine r_get C dX4_mixTable_93 fgRX4_13 l_a2 (ws_ne (Ne.symm n_tb_a2) w_a2) rfl ?_
              refine r_icmp_lt C 102 dX4_mixTable_96 (by decide) (fun c_96 => ?_) (fun c_96 => ?_)
              · skip
                have c_96 : (kk + 1) < ys.length := (nI_ltI (a := kk + 1) (b := ys.length) (by omega) (by omega)).mp c_96
                refine r_iinc C dX4_mixTable_102 (v := nI (i + 1)) (L' := [some (.ref s), some (.ref a2), some (.int (nI ch)), some (.int (nI j2)), some (.int (nI (kk + 1))), some (.int (nI (i + 1))), some (.int (nI (T i)))]) rfl (nI_add i 1) (by decide) rfl ?_
                refine r_goto C 30 dX4_mixTable_105 (by decide) ?_
                refine r_forget [some (.ref s), some (.ref a2), some (.int (nI ch)), some (.int (nI j2)), some (.int (nI (kk + 1))), some (.int (nI (i + 1))), none] ⟨Or.inr rfl, Or.inr rfl, Or.inr rfl, Or.inr rfl, Or.inr rfl, Or.inr rfl, Or.inl rfl, trivial⟩ ?_
                exact ih_30 (i + 1) j2 (kk + 1) (swp T i j2) _ (by omega) (by omega) (by rw [hj2, hk, hj, hT]; rfl) (by rw [hj2, hk, hj, hT]; rfl) (modS1 hk c_96) (ht_swp' hf3 (by omega) hj3)
              · skip
                have c_96 : ¬ ((kk + 1) < ys.length) := fun h9 => c_96 ((nI_ltI (a := kk + 1) (b := ys.length) (by omega) (by omega)).mpr h9)
                refine r_iconst C dX4_mixTable_99 (v := 0) (by decide) ?_
                refine r_istore C dX4_mixTable_100 (L' := [some (.ref s), some (.ref a2), some (.int (nI ch)), some (.int (nI j2)), some (.int 0), some (.int (nI i)), some (.int (nI (T i)))]) (by decide) rfl ?_
                refine r_iinc C dX4_mixTable_102 (v := nI (i + 1)) (L' := [some (.ref s), some (.ref a2), some (.int (nI ch)), some (.int (nI j2)), some (.int 0), some (.int (nI (i + 1))), some (.int (nI (T i)))]) rfl (nI_add i 1) (by decide) rfl ?_
                refine r_goto C 30 dX4_mixTable_105 (by decide) ?_
                refine r_forget [some (.ref s), some (.ref a2), some (.int (nI ch)), some (.int (nI j2)), some (.int 0), some (.int (nI (i + 1))), none] ⟨Or.inr rfl, Or.inr rfl, Or.inr rfl, Or.inr rfl, Or.inr rfl, Or.inr rfl, Or.inl rfl, trivial⟩ ?_
                exact ih_30 (i + 1) j2 0 (swp T i j2) _ (by omega) (by omega) (by rw [hj2, hk, hj, hT]; rfl) (by rw [hj2, hk, hj, hT]; rfl) (modS0 hk c_96 hy0) (ht_swp' hf3 (by omega) hj3)
        exact loop_30 _ 0 0 0 id f1 (Nat.lt_succ_self _) (by omega) rfl rfl (by rw [Nat.zero_mod]) (ht_id (fun k hk => hp k (by omega)))
      · skip
        have c_6 : ¬ (256 ≤ i) := fun h9 => c_6 ((nI_leI (a := 256) (b := i) (by omega) (by omega)).mpr h9)
        refine r_aload_n C dX4_mixTable_9 rfl ?_
        refine r_get C dX4_mixTable_10 fgRX4_7 l_s (ws_ne n_s_tb w_s) rfl ?_
        refine r_iload_n C dX4_mixTable_13 rfl ?_
        refine r_iload_n C dX4_mixTable_14 rfl ?_
        refine r_iastN C dX4_mixTable_15 l_tb ws_eq (j := i) rfl (by omega) (by decide) ?_
        refine r_eq rfl rfl ws_same ?_
        refine r_iinc C dX4_mixTable_16 (v := nI (i + 1)) (L' := [some (.ref s), some (.ref a2), some (.int (nI ch)), some (.int (nI (i + 1))), none, none, none]) rfl (nI_add i 1) (by decide) rfl ?_
        refine r_goto C 2 dX4_mixTable_19 (by decide) ?_
        exact ih_2 (i + 1) _ (by omega) (by omega) (up_lt hp rfl)
  refine r_eq rfl rfl (ws_self w_tb).symm ?_
  exact loop_2 _ 0 ft (Nat.lt_succ_self _) (by omega) (fun k hk => absurd hk (Nat.not_lt_zero k))
set_option maxHeartbeats 4000000 in
set_option maxRecDepth 100000 in
theorem cX4_stream9 {w : Wo} {s tb a2 b2 a b : Nat} (l_s : s < NW) (l_tb : tb < NW) (l_a2 : a2 < NW) (l_b2 : b2 < NW) (l_a : a < NW) (l_b : b < NW) (n_s_tb : s ≠ tb) (n_s_a2 : s ≠ a2) (n_s_b2 : s ≠ b2) (n_s_a : s ≠ a) (n_s_b : s ≠ b) (n_tb_a2 : tb ≠ a2) (n_tb_b2 : tb ≠ b2) (n_tb_a : tb ≠ a) (n_tb_b : tb ≠ b) (n_a2_b2 : a2 ≠ b2) (n_a2_a : a2 ≠ a) (n_a2_b : a2 ≠ b) (n_b2_a : b2 ≠ a) (n_b2_b : b2 ≠ b) (n_a_b : a ≠ b) {n2 n : Nat} {ft : Nat → Int32} (w_s : w s = ob 4 [.ref tb]) (w_tb : w tb = ia 256 ft) {f2 : Nat → Int32} {ys : List Nat} (w_a2 : w a2 = ob 3 [.ref b2, .int (nI ys.length)]) (w_b2 : w b2 = ia n2 f2) (h_ys : hs f2 ys) (k_ys : ys.length ≤ n2) (hn2 : n2 < 2 ^ 31) {ch : Nat} (hch : ch < 256) (hy0 : 0 < ys.length) (hby : byt ys) {f : Nat → Int32} {xs : List Nat} (w_a : w a = ob 3 [.ref b, .int (nI xs.length)]) (w_b : w b = ia n f) (h_xs : hs f xs) (k_xs : xs.length ≤ n) (hn : n < 2 ^ 31) : Ctr mX4_stream [.ref s, .ref a, .ref a2, .int (nI ch)] w (PV fun w' => ∃ ft' f', w' = wset (wset w tb (ia 256 ft')) b (ia n f') ∧ hs f' (strm ys ch xs)) := by
  refine Ctr_intro okX4_stream rfl (Nat.le_of_ble_eq_true rfl) (L := [some (.ref s), some (.ref a), some (.ref a2), some (.int (nI ch)), none, none, none, none, none]) rfl (fun g ct C T_ => ?_)
  refine r_aload_n C dX4_stream_0 rfl ?_
  refine r_get C dX4_stream_1 fgRX4_13 l_a2 w_a2 rfl ?_
  refine r_if_ne C 8 dX4_stream_4 (by decide) (fun c_4 => ?_) (fun c_4 => ?_)
  · skip
    refine r_aload_n C dX4_stream_8 rfl ?_
    refine r_aload_n C dX4_stream_9 rfl ?_
    refine r_iload_n C dX4_stream_10 rfl ?_
    refine r_callVv C (As := [.ref a2, .int (nI ch)]) (rest := []) dX4_stream_11 (cX4_mixTable9 l_s l_tb l_a2 l_b2 n_s_tb n_s_a2 n_s_b2 n_tb_a2 n_tb_b2 n_a2_b2 w_s w_tb w_a2 w_b2 h_ys k_ys hn2 hch hy0 hby) okX4_mixTable mlRX4_19 imX4_mixTable seX4_mixTable ⟨by decide, by decide⟩ rfl rfl l_s w_s rfl rfl (Nat.le_of_ble_eq_true rfl) (by decide) (by decide) (fun w9 h9 => ?_)
    obtain ⟨f0, rfl, h0⟩ := h9
    refine r_iconst C dX4_stream_14 (v := 0) (by decide) ?_
    refine r_istore C dX4_stream_15 (L' := [some (.ref s), some (.ref a), some (.ref a2), some (.int (nI ch)), some (.int 0), none, none, none, none]) (by decide) rfl ?_
    refine r_iconst C dX4_stream_17 (v := 0) (by decide) ?_
    refine r_istore C dX4_stream_18 (L' := [some (.ref s), some (.ref a), some (.ref a2), some (.int (nI ch)), some (.int 0), some (.int 0), none, none, none]) (by decide) rfl ?_
    refine r_iconst C dX4_stream_20 (v := 0) (by decide) ?_
    refine r_istore C dX4_stream_21 (L' := [some (.ref s), some (.ref a), some (.ref a2), some (.int (nI ch)), some (.int 0), some (.int 0), some (.int 0), none, none]) (by decide) rfl ?_
    have loop_23 : ∀ (d9 : Nat) (k : Nat) (i0 : Nat) (j : Nat) (T : Nat → Nat) (f3 : Nat → Int32) (f1 : Nat → Int32), xs.length - k < d9 → k ≤ xs.length → i0 = k % 256 → T = (prg (ksaS ys ch 256).1 k).1 → j = (prg (ksaS ys ch 256).1 k).2 → ht f3 T → (∀ m, m < k → f1 m = nI (xs.getD m 0 ^^^ prb (ksaS ys ch 256).1 m)) → (∀ m, k ≤ m → m < xs.length → f1 m = nI (xs.getD m 0)) → Az g mX4_stream ct 0 0 23 [some (.ref s), some (.ref a), some (.ref a2), some (.int (nI ch)), some (.int (nI i0)), some (.int (nI j)), some (.int (nI k)), none, none] [] (wset (wset w tb (ia 256 f3)) b (ia n f1)) := by
      intro d9
      induction d9 with
      | zero => intro k i0 j T f3 f1 hd9; exact absurd hd9 (Nat.not_lt_zero _)
      | succ d9 ih_23 =>
        intro k i0 j T f3 f1 hd9 hk hi0 hT hj hf3 hlo hhi
        have hT6 : t256 T := by rw [hT]; exact (t_prg (t_ksa ys ch 256 (Nat.le_refl _)).1 k).1
        have hj6 : j < 256 := by rw [hj]; exact (t_prg (t_ksa ys ch 256 (Nat.le_refl _)).1 k).2
        refine r_iload C dX4_stream_23 rfl ?_
        refine r_aload_n C dX4_stream_25 rfl ?_
        refine r_get C dX4_stream_26 fgRX4_13 l_a (ws_ne n_a_b (ws_ne (Ne.symm n_tb_a) w_a)) rfl ?_
        refine r_icmp_ge C 119 dX4_stream_29 (by decide) (fun c_29 => ?_) (fun c_29 => ?_)
        · skip
          have c_29 : xs.length ≤ k := (nI_leI (a := xs.length) (b := k) (by omega) (by omega)).mp c_29
          exact r_return C T_ rfl dX4_stream_119 (⟨rfl, _, _, rfl, hs_pre (strm_len _ _ _) (fun m hm => hlo m (by omega)) (fun m hm => xorS_at _ _ hm)⟩)
        · skip
          have c_29 : ¬ (xs.length ≤ k) := fun h9 => c_29 ((nI_leI (a := xs.length) (b := k) (by omega) (by omega)).mpr h9)
          refine r_iload C dX4_stream_32 rfl ?_
          refine r_iconst C dX4_stream_34 (v := 1) (by decide) ?_
          refine r_iadd C dX4_stream_35 ?_
          refine r_top (y := nI (i0 + 1)) (nI_add i0 1) ?_
          refine r_sipush C dX4_stream_36 (v := 255) (by decide) ?_
          refine r_iand C dX4_stream_39 ?_
          refine r_top (y := nI ((k + 1) % 256)) ((pk_andN (n := i0 + 1) (by omega) 8 rfl).trans (congrArg nI (show (i0 + 1) % 2 ^ 8 = (k + 1) % 256 by omega))) ?_
          obtain ⟨i1, hi1⟩ : ∃ z : Nat, z = (k + 1) % 256 := ⟨_, rfl⟩
          refine r_top (congrArg nI hi1.symm) ?_
          have hi2 : i1 < 256 := by omega
          refine r_istore C dX4_stream_40 (L' := [some (.ref s), some (.ref a), some (.ref a2), some (.int (nI ch)), some (.int (nI i1)), some (.int (nI j)), some (.int (nI k)), none, none]) (by decide) rfl ?_
          refine r_aload_n C dX4_stream_42 rfl ?_
          refine r_get C dX4_stream_43 fgRX4_7 l_s (ws_ne n_s_b (ws_ne n_s_tb w_s)) rfl ?_
          refine r_iload C dX4_stream_46 rfl ?_
          refine r_ialdN C dX4_stream_48 l_tb (ws_ne n_tb_b ws_eq) (j := i1) rfl (by omega) (by decide) ?_
          refine r_top (y := nI (T i1)) (hf3 i1 hi2) ?_
          have hT7 : T i1 < 256 := hT6 i1 hi2
          refine r_istore C dX4_stream_49 (L' := [some (.ref s), some (.ref a), some (.ref a2), some (.int (nI ch)), some (.int (nI i1)), some (.int (nI j)), some (.int (nI k)), some (.int (nI (T i1))), none]) (by decide) rfl ?_
          refine r_iload C dX4_stream_51 rfl ?_
          refine r_iload C dX4_stream_53 rfl ?_
          refine r_iadd C dX4_stream_55 ?_
          refine r_top (y := nI (j + (T i1))) (nI_add j (T i1)) ?_
          refine r_sipush C dX4_stream_56 (v := 255) (by decide) ?_
          refine r_iand C dX4_stream_59 ?_
          refine r_top (y := nI ((j + (T i1)) % 256)) (pk_andN (n := j + (T i1)) (by omega) 8 rfl) ?_
          obtain ⟨j1, hj1⟩ : ∃ z : Nat, z = (j + (T i1)) % 256 := ⟨_, rfl⟩
          refine r_top (congrArg nI hj1.symm) ?_
          have hj2 : j1 < 256 := by omega
          refine r_istore C dX4_stream_60 (L' := [some (.ref s), some (.ref a), some (.ref a2), some (.int (nI ch)), some (.int (nI i1)), some (.int (nI j1)), some (.int (nI k)), some (.int (nI (T i1))), none]) (by decide) rfl ?_
          refine r_aload_n C dX4_stream_62 rfl ?_
          refine r_get C dX4_stream_63 fgRX4_7 l_s (ws_ne n_s_b (ws_ne n_s_tb w_s)) rfl ?_
          refine r_iload C dX4_stream_66 rfl ?_
          refine r_ialdN C dX4_stream_68 l_tb (ws_ne n_tb_b ws_eq) (j := j1) rfl (by omega) (by decide) ?_
          refine r_top (y := nI (T j1)) (hf3 j1 hj2) ?_
          have hT8 : T j1 < 256 := hT6 j1 hj2
          refine r_istore C dX4_stream_69 (L' := [some (.ref s), some (.ref a), some (.ref a2), some (.int (nI ch)), some (.int (nI i1)), some (.int (nI j1)), some (.int (nI k)), some (.int (nI (T i1))), some (.int (nI (T j1)))]) (by decide) rfl ?_
          refine r_aload_n C dX4_stream_71 rfl ?_
          refine r_get C dX4_stream_72 fgRX4_7 l_s (ws_ne n_s_b (ws_ne n_s_tb w_s)) rfl ?_
          refine r_iload C dX4_stream_75 rfl ?_
          refine r_iload C dX4_stream_77 rfl ?_
          refine r_iastN C dX4_stream_79 l_tb (ws_ne n_tb_b ws_eq) (j := i1) rfl (by omega) (by decide) ?_
          refine r_eq rfl rfl ((ws_comm n_tb_b).trans (congrArg (fun z => wset z b (ia n f1)) ws_same)) ?_
          refine r_aload_n C dX4_stream_80 rfl ?_
          refine r_get C dX4_stream_81 fgRX4_7 l_s (ws_ne n_s_b (ws_ne n_s_tb w_s)) rfl ?_
          refine r_iload C dX4_stream_84 rfl ?_
          refine r_iload C dX4_stream_86 rfl ?_
          refine r_iastN C dX4_stream_88 l_tb (ws_ne n_tb_b ws_eq) (j := j1) rfl (by omega) (by decide) ?_
          refine r_eq rfl rfl ((ws_comm n_tb_b).trans (congrArg (fun z => wset z b (ia n f1)) ws_same)) ?_
          refine r_aload_n C dX4_stream_89 rfl ?_
          refine r_get C dX4_stream_90 fgRX4_23 l_a (ws_ne n_a_b (ws_ne (Ne.symm n_tb_a) w_a)) rfl ?_
          refine r_iload C dX4_stream_93 rfl ?_
          refine r_dup2 C dX4_stream_95 rfl rfl ?_
          refine r_ialdN C dX4_stream_96 l_b ws_eq (j := k) rfl (by omega) (by omega) ?_
          refine r_top (y := nI (xs.getD k 0)) (hhi k (Nat.le_refl _) (by omega)) ?_
          refine r_aload_n C dX4_stream_97 rfl ?_
          refine r_get C dX4_stream_98 fgRX4_7 l_s (ws_ne n_s_b (ws_ne n_s_tb w_s)) rfl ?_
          refine r_iload C dX4_stream_101 rfl ?_
          refine r_iload C dX4_stream_103 rfl ?_
          refine r_iadd C dX4_stream_105 ?_
          refine r_top (y := nI ((T i1) + (T j1))) (nI_add (T i1) (T j1)) ?_
          refine r_sipush C dX4_stream_106 (v := 255) (by decide) ?_
          refine r_iand C dX4_stream_109 ?_
          refine r_top (y := nI (((T i1) + (T j1)) % 256)) (pk_andN (n := (T i1) + (T j1)) (by omega) 8 rfl) ?_
          refine r_ialdN C dX4_stream_110 l_tb (ws_ne n_tb_b ws_eq) (j := ((T i1) + (T j1)) % 256) rfl (by omega) (by decide) ?_
          refine r_top (y := nI (swp T i1 j1 ((T i1 + T j1) % 256))) (ht_swp' hf3 hi2 hj2 _ (Nat.mod_lt _ (by decide))) ?_
          have hprb : prb (ksaS ys ch 256).1 k = swp T i1 j1 ((T i1 + T j1) % 256) := by rw [hj1, hi1, hj, hT]; rfl
          refine r_ixor C dX4_stream_111 ?_
          refine r_top (y := nI ((xs.getD k 0) ^^^ (swp T i1 j1 ((T i1 + T j1) % 256)))) (nx_xor9 (xs.getD k 0) (swp T i1 j1 ((T i1 + T j1) % 256))) ?_
          refine r_iastN C dX4_stream_112 l_b ws_eq (j := k) rfl (by omega) (by omega) ?_
          refine r_eq rfl rfl ws_same ?_
          refine r_iinc C dX4_stream_113 (v := nI (k + 1)) (L' := [some (.ref s), some (.ref a), some (.ref a2), some (.int (nI ch)), some (.int (nI i1)), some (.int (nI j1)), some (.int (nI (k + 1))), some (.int (nI (T i1))), some (.int (nI (T j1)))]) rfl (nI_add k 1) (by decide) rfl ?_
          refine r_goto C 23 dX4_stream_116 (by decide) ?_
          refine r_forget [some (.ref s), some (.ref a), some (.ref a2), some (.int (nI ch)), some (.int (nI i1)), some (.int (nI j1)), some (.int (nI (k + 1))), none, none] ⟨Or.inr rfl, Or.inr rfl, Or.inr rfl, Or.inr rfl, Or.inr rfl, Or.inr rfl, Or.inr rfl, Or.inl rfl, Or.inl rfl, trivial⟩ ?_
          exact ih_23 (k + 1) i1 j1 (swp T i1 j1) _ _ (by omega) (by omega) hi1 (by rw [hj1, hi1, hj, hT]; rfl) (by rw [hj1, hi1, hj, hT]; rfl) (ht_swp' hf3 hi2 hj2) (up_lt hlo (by rw [hprb])) (up_ge hhi)
    refine r_eq rfl rfl (ws_self (ws_ne (Ne.symm n_tb_b) w_b)).symm ?_
    exact loop_23 _ 0 0 0 ((ksaS ys ch 256).1) f0 f (Nat.lt_succ_self _) (by omega) rfl rfl rfl h0 (fun m hm => absurd hm (Nat.not_lt_zero m)) (fun m _ hm => h_xs m hm)
  · skip
    exact absurd c_4 (nI_ne0 hy0 (by omega))
end
section
/-! DIGEST -/
abbrev Q4 : Type := Int32 × Int32 × Int32 × Int32
def mdF (i : Nat) (b c d : Int32) : Int32 := if i < 16 then (b &&& c) ||| ((b ^^^ (-1)) &&& d) else if i < 32 then (d &&& b) ||| ((d ^^^ (-1)) &&& c) else if i < 48 then (b ^^^ c) ^^^ d else c ^^^ (b ||| (d ^^^ (-1)))
def mdG (i : Nat) : Nat := if i < 16 then i % 16 else if i < 32 then (5 * i + 1) % 16 else if i < 48 then (3 * i + 5) % 16 else (7 * i) % 16
def mdT (i : Nat) : Int32 := tabf turL (i / 16 * 4 + i % 4)
def rotl (v y : Int32) : Int32 := (v <<< (y &&& 31)) ||| (v.toUInt32 >>> ((32 - y).toUInt32 &&& Int32.toUInt32 31)).toInt32
def mdf (M : Nat → Int32) (i : Nat) (s : Q4) : Int32 := mdF i s.2.1 s.2.2.1 s.2.2.2 + ((s.1 + tabf sinL i) + M (mdG i))
def mdS (M : Nat → Int32) (i : Nat) (s : Q4) : Q4 := (s.2.2.2, s.2.1 + rotl (mdf M i s) (mdT i), s.2.1, s.2.2.1)
def mdR (M : Nat → Int32) : Nat → Q4 → Q4
  | 0, s => s
  | i + 1, s => mdS M i (mdR M i s)
def mdC (M : Nat → Int32) (s : Q4) : Q4 := (s.1 + (mdR M 64 s).1, s.2.1 + (mdR M 64 s).2.1, s.2.2.1 + (mdR M 64 s).2.2.1, s.2.2.2 + (mdR M 64 s).2.2.2)
def mdIV : Q4 := (1732584193, -271733879, -1732584194, 271733878)
def nch (n : Nat) : Nat := (n + 8) / 64 + 1
def endB (xs : List Nat) (k : Nat) : Nat := if k < xs.length then xs.getD k 0 else if k = xs.length then 128 else 0
def le4 (p : Nat → Nat) (k : Nat) : Int32 := ((nI (p k) ||| (nI (p (k + 1)) <<< ((8 : Int32) &&& 31))) ||| (nI (p (k + 2)) <<< ((16 : Int32) &&& 31))) ||| (nI (p (k + 3)) <<< ((24 : Int32) &&& 31))
def mdW (xs : List Nat) (c j : Nat) : Int32 := if c + 1 = nch xs.length ∧ j = 14 then nI (8 * xs.length) else le4 (endB xs) (c * 64 + 4 * j)
def mdX (xs : List Nat) : Nat → Q4
  | 0 => mdIV
  | c + 1 => mdC (mdW xs c) (mdX xs c)
def q4l (s : Q4) : List Nat := ((lof s.1 4 ++ lof s.2.1 4) ++ lof s.2.2.1 4) ++ lof s.2.2.2 4
def md5 (xs : List Nat) : List Nat := q4l (mdX xs (nch xs.length))
theorem q4l_len (s : Q4) : (q4l s).length = 16 := by simp [q4l, lof_len]
theorem md5_len (xs : List Nat) : (md5 xs).length = 16 := q4l_len _
theorem byt_lof (x : Int32) (m : Nat) : byt (lof x m) := by
  intro y hy
  obtain ⟨j, -, rfl⟩ := List.mem_map.mp hy
  exact byj_lt x j
theorem byt_app {xs ys : List Nat} (h1 : byt xs) (h2 : byt ys) : byt (xs ++ ys) := fun x hx => (List.mem_append.mp hx).elim (h1 x) (h2 x)
theorem byt_q4l (s : Q4) : byt (q4l s) := byt_app (byt_app (byt_app (byt_lof _ _) (byt_lof _ _)) (byt_lof _ _)) (byt_lof _ _)
theorem byt_md5 (xs : List Nat) : byt (md5 xs) := byt_q4l _
theorem mdG_lt (i : Nat) : mdG i < 16 := by
  unfold mdG
  split
  · omega
  · split
    · omega
    · split <;> omega
theorem mdR_congr {M N : Nat → Int32} (h : ∀ j, j < 16 → M j = N j) (s : Q4) : ∀ i, mdR M i s = mdR N i s
  | 0 => rfl
  | i + 1 => by
    rw [mdR, mdR, mdR_congr h s i]
    unfold mdS mdf
    rw [h _ (mdG_lt i)]
theorem mdC_congr {M N : Nat → Int32} (h : ∀ j, j < 16 → M j = N j) (s : Q4) : mdC M s = mdC N s := by
  unfold mdC
  rw [mdR_congr h]
theorem byt_take {xs : List Nat} (h : byt xs) (k : Nat) : byt (xs.take k) := fun x hx => h x (List.mem_of_mem_take hx)
end
section
set_option maxHeartbeats 4000000 in
set_option maxRecDepth 100000 in
theorem cX2_endedByte9 {w : Wo} {a b : Nat} (l_a : a < NW) (l_b : b < NW) (n_a_b : a ≠ b) {n : Nat} {f : Nat → Int32} {xs : List Nat} (w_a : w a = ob 3 [.ref b, .int (nI xs.length)]) (w_b : w b = ia n f) (h_xs : hs f xs) (k_xs : xs.length ≤ n) (hn : n < 2 ^ 31) {k : Nat} (hk : k < 2 ^ 31) : Ctr mX2_endedByte [.ref a, .int (nI k)] w (PI fun r w' => w' = w ∧ r = nI (endB xs k)) := by
  refine Ctr_intro okX2_endedByte rfl (Nat.le_of_ble_eq_true rfl) (L := [some (.ref a), some (.int (nI k))]) rfl (fun g ct C T_ => ?_)
  refine r_iload_n C dX2_endedByte_0 rfl ?_
  refine r_if_lt C 19 dX2_endedByte_1 (by decide) (fun c_1 => ?_) (fun c_1 => ?_)
  · skip
    exact absurd c_1 (nI_pos (by omega))
  · skip
    refine r_iload_n C dX2_endedByte_4 rfl ?_
    refine r_aload_n C dX2_endedByte_5 rfl ?_
    refine r_get C dX2_endedByte_6 fgRX2_30 l_a w_a rfl ?_
    refine r_icmp_ge C 19 dX2_endedByte_9 (by decide) (fun c_9 => ?_) (fun c_9 => ?_)
    · skip
      have c_9 : xs.length ≤ k := (nI_leI (a := xs.length) (b := k) (by omega) (by omega)).mp c_9
      refine r_iload_n C dX2_endedByte_19 rfl ?_
      refine r_aload_n C dX2_endedByte_20 rfl ?_
      refine r_get C dX2_endedByte_21 fgRX2_30 l_a w_a rfl ?_
      refine r_icmp_ne C 33 dX2_endedByte_24 (by decide) (fun c_24 => ?_) (fun c_24 => ?_)
      · skip
        have c_24 : ¬ (k = xs.length) := fun h9 => c_24 ((nI_eq (a := k) (b := xs.length) (by omega) (by omega)).mpr h9)
        refine r_iconst C dX2_endedByte_33 (v := 0) (by decide) ?_
        exact r_ireturn C T_ rfl rfl dX2_endedByte_34 (⟨_, rfl, rfl, by unfold endB; rw [if_neg (by omega), if_neg (by omega)]; rfl⟩)
      · skip
        have c_24 : k = xs.length := (nI_eq (a := k) (b := xs.length) (by omega) (by omega)).mp c_24
        refine r_sipush C dX2_endedByte_27 (v := 128) (by decide) ?_
        refine r_goto C 34 dX2_endedByte_30 (by decide) ?_
        exact r_ireturn C T_ rfl rfl dX2_endedByte_34 (⟨_, rfl, rfl, by unfold endB; rw [if_neg (by omega), if_pos (by omega)]; rfl⟩)
    · skip
      have c_9 : ¬ (xs.length ≤ k) := fun h9 => c_9 ((nI_leI (a := xs.length) (b := k) (by omega) (by omega)).mpr h9)
      refine r_aload_n C dX2_endedByte_12 rfl ?_
      refine r_get C dX2_endedByte_13 fgRX2_53 l_a w_a rfl ?_
      refine r_iload_n C dX2_endedByte_16 rfl ?_
      refine r_ialdN C dX2_endedByte_17 l_b w_b (j := k) rfl (by omega) (by omega) ?_
      exact r_ireturn C T_ rfl rfl dX2_endedByte_18 (⟨_, rfl, rfl, by unfold endB; rw [if_pos (by omega)]; exact h_xs k (by omega)⟩)
set_option maxHeartbeats 4000000 in
set_option maxRecDepth 100000 in
theorem cX2_loadWords9 {w : Wo} {h wd a b : Nat} (l_h : h < NW) (l_wd : wd < NW) (l_a : a < NW) (l_b : b < NW) (n_h_wd : h ≠ wd) (n_h_a : h ≠ a) (n_h_b : h ≠ b) (n_wd_a : wd ≠ a) (n_wd_b : wd ≠ b) (n_a_b : a ≠ b) {n : Nat} {fw : Nat → Int32} {sA sB sC sD : Int32} (w_h : w h = ob 2 [.ref wd, .int sA, .int sB, .int sC, .int sD]) (w_wd : w wd = ia 16 fw) {f : Nat → Int32} {xs : List Nat} (w_a : w a = ob 3 [.ref b, .int (nI xs.length)]) (w_b : w b = ia n f) (h_xs : hs f xs) (k_xs : xs.length ≤ n) (hn : n < 2 ^ 31) {q0 : Nat} (hq : q0 < 2 ^ 30) : Ctr mX2_loadWords [.ref h, .ref a, .int (nI q0)] w (PV fun w' => ∃ f', w' = wset w wd (ia 16 f') ∧ ∀ j, j < 16 → f' j = le4 (endB xs) (q0 + 4 * j)) := by
  refine Ctr_intro okX2_loadWords rfl (Nat.le_of_ble_eq_true rfl) (L := [some (.ref h), some (.ref a), some (.int (nI q0)), none, none]) rfl (fun g ct C T_ => ?_)
  refine r_iconst C dX2_loadWords_0 (v := 0) (by decide) ?_
  refine r_istore_n C dX2_loadWords_1 (L' := [some (.ref h), some (.ref a), some (.int (nI q0)), some (.int 0), none]) (by decide) rfl ?_
  have loop_2 : ∀ (d9 : Nat) (i : Nat) (f1 : Nat → Int32), 16 - i < d9 → i ≤ 16 → (∀ j, j < i → f1 j = le4 (endB xs) (q0 + 4 * j)) → Az g mX2_loadWords ct 0 0 2 [some (.ref h), some (.ref a), some (.int (nI q0)), some (.int (nI i)), none] [] (wset w wd (ia 16 f1)) := by
    intro d9
    induction d9 with
    | zero => intro i f1 hd9; exact absurd hd9 (Nat.not_lt_zero _)
    | succ d9 ih_2 =>
      intro i f1 hd9 hi hp
      refine r_iload_n C dX2_loadWords_2 rfl ?_
      refine r_bipush C dX2_loadWords_3 (v := 16) (by decide) ?_
      refine r_icmp_ge C 69 dX2_loadWords_5 (by decide) (fun c_5 => ?_) (fun c_5 => ?_)
      · skip
        have c_5 : 16 ≤ i := (nI_leI (a := 16) (b := i) (by omega) (by omega)).mp c_5
        exact r_return C T_ rfl dX2_loadWords_69 (⟨rfl, _, rfl, fun j hj => hp j (by omega)⟩)
      · skip
        have c_5 : ¬ (16 ≤ i) := fun h9 => c_5 ((nI_leI (a := 16) (b := i) (by omega) (by omega)).mpr h9)
        refine r_iload_n C dX2_loadWords_8 rfl ?_
        refine r_iconst C dX2_loadWords_9 (v := 4) (by decide) ?_
        refine r_iload_n C dX2_loadWords_10 rfl ?_
        refine r_imul C dX2_loadWords_11 ?_
        refine r_top (y := nI (4 * i)) (pk_mul 4 i) ?_
        refine r_iadd C dX2_loadWords_12 ?_
        refine r_top (y := nI (q0 + (4 * i))) (nI_add q0 (4 * i)) ?_
        refine r_istore C dX2_loadWords_13 (L' := [some (.ref h), some (.ref a), some (.int (nI q0)), some (.int (nI i)), some (.int (nI (q0 + (4 * i))))]) (by decide) rfl ?_
        refine r_aload_n C dX2_loadWords_15 rfl ?_
        refine r_get C dX2_loadWords_16 fgRX2_7 l_h (ws_ne n_h_wd w_h) rfl ?_
        refine r_iload_n C dX2_loadWords_19 rfl ?_
        refine r_aload_n C dX2_loadWords_20 rfl ?_
        refine r_iload C dX2_loadWords_21 rfl ?_
        refine r_callSi C (As := [.ref a, .int (nI (q0 + (4 * i)))]) (rest := [.int (nI i), .ref wd]) dX2_loadWords_23 (cX2_endedByte9 l_a l_b n_a_b (ws_ne (Ne.symm n_wd_a) w_a) (ws_ne (Ne.symm n_wd_b) w_b) h_xs k_xs hn (k := q0 + (4 * i)) (by omega)) okX2_endedByte mlRX2_49 stX2_endedByte ⟨by decide, by decide⟩ rfl rfl (Nat.le_of_ble_eq_true rfl) (by decide) (by decide) (fun r1 w9 h9 => ?_)
        obtain ⟨e9, rfl⟩ := h9
        have e9 := e9.symm
        subst e9
        refine r_aload_n C dX2_loadWords_26 rfl ?_
        refine r_iload C dX2_loadWords_27 rfl ?_
        refine r_iconst C dX2_loadWords_29 (v := 1) (by decide) ?_
        refine r_iadd C dX2_loadWords_30 ?_
        refine r_top (y := nI ((q0 + (4 * i)) + 1)) (nI_add (q0 + (4 * i)) 1) ?_
        refine r_callSi C (As := [.ref a, .int (nI ((q0 + (4 * i)) + 1))]) (rest := [.int (nI (endB xs (q0 + (4 * i)))), .int (nI i), .ref wd]) dX2_loadWords_31 (cX2_endedByte9 l_a l_b n_a_b (ws_ne (Ne.symm n_wd_a) w_a) (ws_ne (Ne.symm n_wd_b) w_b) h_xs k_xs hn (k := (q0 + (4 * i)) + 1) (by omega)) okX2_endedByte mlRX2_49 stX2_endedByte ⟨by decide, by decide⟩ rfl rfl (Nat.le_of_ble_eq_true rfl) (by decide) (by decide) (fun r2 w9 h9 => ?_)
        obtain ⟨e9, rfl⟩ := h9
        have e9 := e9.symm
        subst e9
        refine r_bipush C dX2_loadWords_34 (v := 8) (by decide) ?_
        refine r_ishl C dX2_loadWords_36 ?_
        refine r_ior C dX2_loadWords_37 ?_
        refine r_aload_n C dX2_loadWords_38 rfl ?_
        refine r_iload C dX2_loadWords_39 rfl ?_
        refine r_iconst C dX2_loadWords_41 (v := 2) (by decide) ?_
        refine r_iadd C dX2_loadWords_42 ?_
        refine r_top (y := nI ((q0 + (4 * i)) + 2)) (nI_add (q0 + (4 * i)) 2) ?_
        refine r_callSi C (As := [.ref a, .int (nI ((q0 + (4 * i)) + 2))]) (rest := [.int ((nI (endB xs (q0 + (4 * i)))) ||| ((nI (endB xs ((q0 + (4 * i)) + 1))) <<< (8 &&& 31))), .int (nI i), .ref wd]) dX2_loadWords_43 (cX2_endedByte9 l_a l_b n_a_b (ws_ne (Ne.symm n_wd_a) w_a) (ws_ne (Ne.symm n_wd_b) w_b) h_xs k_xs hn (k := (q0 + (4 * i)) + 2) (by omega)) okX2_endedByte mlRX2_49 stX2_endedByte ⟨by decide, by decide⟩ rfl rfl (Nat.le_of_ble_eq_true rfl) (by decide) (by decide) (fun r3 w9 h9 => ?_)
        obtain ⟨e9, rfl⟩ := h9
        have e9 := e9.symm
        subst e9
        refine r_bipush C dX2_loadWords_46 (v := 16) (by decide) ?_
        refine r_ishl C dX2_loadWords_48 ?_
        refine r_ior C dX2_loadWords_49 ?_
        refine r_aload_n C dX2_loadWords_50 rfl ?_
        refine r_iload C dX2_loadWords_51 rfl ?_
        refine r_iconst C dX2_loadWords_53 (v := 3) (by decide) ?_
        refine r_iadd C dX2_loadWords_54 ?_
        refine r_top (y := nI ((q0 + (4 * i)) + 3)) (nI_add (q0 + (4 * i)) 3) ?_
        refine r_callSi C (As := [.ref a, .int (nI ((q0 + (4 * i)) + 3))]) (rest := [.int (((nI (endB xs (q0 + (4 * i)))) ||| ((nI (endB xs ((q0 + (4 * i)) + 1))) <<< (8 &&& 31))) ||| ((nI (endB xs ((q0 + (4 * i)) + 2))) <<< (16 &&& 31))), .int (nI i), .ref wd]) dX2_loadWords_55 (cX2_endedByte9 l_a l_b n_a_b (ws_ne (Ne.symm n_wd_a) w_a) (ws_ne (Ne.symm n_wd_b) w_b) h_xs k_xs hn (k := (q0 + (4 * i)) + 3) (by omega)) okX2_endedByte mlRX2_49 stX2_endedByte ⟨by decide, by decide⟩ rfl rfl (Nat.le_of_ble_eq_true rfl) (by decide) (by decide) (fun r4 w9 h9 => ?_)
        obtain ⟨e9, rfl⟩ := h9
        have e9 := e9.symm
        subst e9
        refine r_bipush C dX2_loadWords_58 (v := 24) (by decide) ?_
        refine r_ishl C dX2_loadWords_60 ?_
        refine r_ior C dX2_loadWords_61 ?_
        refine r_iastN C dX2_loadWords_62 l_wd ws_eq (j := i) rfl (by omega) (by decide) ?_
        refine r_eq rfl rfl ws_same ?_
        refine r_iinc C dX2_loadWords_63 (v := nI (i + 1)) (L' := [some (.ref h), some (.ref a), some (.int (nI q0)), some (.int (nI (i + 1))), some (.int (nI (q0 + (4 * i))))]) rfl (nI_add i 1) (by decide) rfl ?_
        refine r_goto C 2 dX2_loadWords_66 (by decide) ?_
        refine r_forget [some (.ref h), some (.ref a), some (.int (nI q0)), some (.int (nI (i + 1))), none] ⟨Or.inr rfl, Or.inr rfl, Or.inr rfl, Or.inr rfl, Or.inl rfl, trivial⟩ ?_
        exact ih_2 (i + 1) _ (by omega) (by omega) (up_lt hp rfl)
  refine r_eq rfl rfl (ws_self w_wd).symm ?_
  exact loop_2 _ 0 fw (Nat.lt_succ_self _) (by omega) (fun j hj => absurd hj (Nat.not_lt_zero j))
set_option maxHeartbeats 4000000 in
set_option maxRecDepth 100000 in
theorem cX2_mixWords9 {w : Wo} {h wd : Nat} (l_h : h < NW) (l_wd : wd < NW) (n_h_wd : h ≠ wd) {fw : Nat → Int32} {sA sB sC sD : Int32} (w_h : w h = ob 2 [.ref wd, .int sA, .int sB, .int sC, .int sD]) (w_wd : w wd = ia 16 fw) : Ctr mX2_mixWords [.ref h] w (PV fun w' => w' = wset w h (ob 2 [.ref wd, .int (mdC fw (sA, sB, sC, sD)).1, .int (mdC fw (sA, sB, sC, sD)).2.1, .int (mdC fw (sA, sB, sC, sD)).2.2.1, .int (mdC fw (sA, sB, sC, sD)).2.2.2])) := by
  refine Ctr_intro okX2_mixWords rfl (Nat.le_of_ble_eq_true rfl) (L := [some (.ref h), none, none, none, none, none, none, none, none]) rfl (fun g ct C T_ => ?_)
  refine r_aload_n C dX2_mixWords_0 rfl ?_
  refine r_get C dX2_mixWords_1 fgRX2_14 l_h w_h rfl ?_
  refine r_istore_n C dX2_mixWords_4 (L' := [some (.ref h), some (.int sA), none, none, none, none, none, none, none]) (by decide) rfl ?_
  refine r_aload_n C dX2_mixWords_5 rfl ?_
  refine r_get C dX2_mixWords_6 fgRX2_19 l_h w_h rfl ?_
  refine r_istore_n C dX2_mixWords_9 (L' := [some (.ref h), some (.int sA), some (.int sB), none, none, none, none, none, none]) (by decide) rfl ?_
  refine r_aload_n C dX2_mixWords_10 rfl ?_
  refine r_get C dX2_mixWords_11 fgRX2_23 l_h w_h rfl ?_
  refine r_istore_n C dX2_mixWords_14 (L' := [some (.ref h), some (.int sA), some (.int sB), some (.int sC), none, none, none, none, none]) (by decide) rfl ?_
  refine r_aload_n C dX2_mixWords_15 rfl ?_
  refine r_get C dX2_mixWords_16 fgRX2_27 l_h w_h rfl ?_
  refine r_istore C dX2_mixWords_19 (L' := [some (.ref h), some (.int sA), some (.int sB), some (.int sC), some (.int sD), none, none, none, none]) (by decide) rfl ?_
  refine r_iconst C dX2_mixWords_21 (v := 0) (by decide) ?_
  refine r_istore C dX2_mixWords_22 (L' := [some (.ref h), some (.int sA), some (.int sB), some (.int sC), some (.int sD), some (.int 0), none, none, none]) (by decide) rfl ?_
  have loop_24 : ∀ (d9 : Nat) (i : Nat) (a : Int32) (b : Int32) (c : Int32) (d : Int32), 64 - i < d9 → i ≤ 64 → (a, b, c, d) = mdR fw i (sA, sB, sC, sD) → Az g mX2_mixWords ct 0 0 24 [some (.ref h), some (.int a), some (.int b), some (.int c), some (.int d), some (.int (nI i)), none, none, none] [] w := by
    intro d9
    induction d9 with
    | zero => intro i a b c d hd9; exact absurd hd9 (Nat.not_lt_zero _)
    | succ d9 ih_24 =>
      intro i a b c d hd9 hi he
      refine r_iload C dX2_mixWords_24 rfl ?_
      refine r_bipush C dX2_mixWords_26 (v := 64) (by decide) ?_
      refine r_icmp_ge C 203 dX2_mixWords_28 (by decide) (fun c_28 => ?_) (fun c_28 => ?_)
      · skip
        have c_28 : 64 ≤ i := (nI_leI (a := 64) (b := i) (by omega) (by omega)).mp c_28
        refine r_aload_n C dX2_mixWords_203 rfl ?_
        refine r_dup C dX2_mixWords_204 rfl ?_
        refine r_get C dX2_mixWords_205 fgRX2_14 l_h w_h rfl ?_
        refine r_iload_n C dX2_mixWords_208 rfl ?_
        refine r_iadd C dX2_mixWords_209 ?_
        refine r_put C dX2_mixWords_210 fpRX2_14 l_h w_h rfl rfl (Nat.le_of_ble_eq_true rfl) (fs' := [.ref wd, .int (sA + a), .int sB, .int sC, .int sD]) rfl ?_
        refine r_aload_n C dX2_mixWords_213 rfl ?_
        refine r_dup C dX2_mixWords_214 rfl ?_
        refine r_get C dX2_mixWords_215 fgRX2_19 l_h ws_eq rfl ?_
        refine r_iload_n C dX2_mixWords_218 rfl ?_
        refine r_iadd C dX2_mixWords_219 ?_
        refine r_put C dX2_mixWords_220 fpRX2_19 l_h ws_eq rfl rfl (Nat.le_of_ble_eq_true rfl) (fs' := [.ref wd, .int (sA + a), .int (sB + b), .int sC, .int sD]) rfl ?_
        refine r_eq rfl rfl ws_same ?_
        refine r_aload_n C dX2_mixWords_223 rfl ?_
        refine r_dup C dX2_mixWords_224 rfl ?_
        refine r_get C dX2_mixWords_225 fgRX2_23 l_h ws_eq rfl ?_
        refine r_iload_n C dX2_mixWords_228 rfl ?_
        refine r_iadd C dX2_mixWords_229 ?_
        refine r_put C dX2_mixWords_230 fpRX2_23 l_h ws_eq rfl rfl (Nat.le_of_ble_eq_true rfl) (fs' := [.ref wd, .int (sA + a), .int (sB + b), .int (sC + c), .int sD]) rfl ?_
        refine r_eq rfl rfl ws_same ?_
        refine r_aload_n C dX2_mixWords_233 rfl ?_
        refine r_dup C dX2_mixWords_234 rfl ?_
        refine r_get C dX2_mixWords_235 fgRX2_27 l_h ws_eq rfl ?_
        refine r_iload C dX2_mixWords_238 rfl ?_
        refine r_iadd C dX2_mixWords_240 ?_
        refine r_put C dX2_mixWords_241 fpRX2_27 l_h ws_eq rfl rfl (Nat.le_of_ble_eq_true rfl) (fs' := [.ref wd, .int (sA + a), .int (sB + b), .int (sC + c), .int (sD + d)]) rfl ?_
        refine r_eq rfl rfl ws_same ?_
        exact r_return C T_ rfl dX2_mixWords_244 (⟨rfl, by unfold mdC; rw [show (64 : Nat) = i by omega, ← he]⟩)
      · skip
        have c_28 : ¬ (64 ≤ i) := fun h9 => c_28 ((nI_leI (a := 64) (b := i) (by omega) (by omega)).mpr h9)
        refine r_iload C dX2_mixWords_31 rfl ?_
        refine r_bipush C dX2_mixWords_33 (v := 16) (by decide) ?_
        refine r_icmp_ge C 57 dX2_mixWords_35 (by decide) (fun c_35 => ?_) (fun c_35 => ?_)
        · skip
          have c_35 : 16 ≤ i := (nI_leI (a := 16) (b := i) (by omega) (by omega)).mp c_35
          refine r_iload C dX2_mixWords_57 rfl ?_
          refine r_bipush C dX2_mixWords_59 (v := 32) (by decide) ?_
          refine r_icmp_ge C 88 dX2_mixWords_61 (by decide) (fun c_61 => ?_) (fun c_61 => ?_)
          · skip
            have c_61 : 32 ≤ i := (nI_leI (a := 32) (b := i) (by omega) (by omega)).mp c_61
            refine r_iload C dX2_mixWords_88 rfl ?_
            refine r_bipush C dX2_mixWords_90 (v := 48) (by decide) ?_
            refine r_icmp_ge C 114 dX2_mixWords_92 (by decide) (fun c_92 => ?_) (fun c_92 => ?_)
            · skip
              have c_92 : 48 ≤ i := (nI_leI (a := 48) (b := i) (by omega) (by omega)).mp c_92
              refine r_iload_n C dX2_mixWords_114 rfl ?_
              refine r_iload_n C dX2_mixWords_115 rfl ?_
              refine r_iload C dX2_mixWords_116 rfl ?_
              refine r_iconst C dX2_mixWords_118 (v := (-1)) (by decide) ?_
              refine r_ixor C dX2_mixWords_119 ?_
              refine r_ior C dX2_mixWords_120 ?_
              refine r_ixor C dX2_mixWords_121 ?_
              refine r_istore C dX2_mixWords_122 (L' := [some (.ref h), some (.int a), some (.int b), some (.int c), some (.int d), some (.int (nI i)), some (.int (c ^^^ (b ||| (d ^^^ (-1))))), none, none]) (by decide) rfl ?_
              refine r_bipush C dX2_mixWords_124 (v := 7) (by decide) ?_
              refine r_iload C dX2_mixWords_126 rfl ?_
              refine r_imul C dX2_mixWords_128 ?_
              refine r_top (y := nI (7 * i)) (pk_mul 7 i) ?_
              refine r_istore C dX2_mixWords_129 (L' := [some (.ref h), some (.int a), some (.int b), some (.int c), some (.int d), some (.int (nI i)), some (.int (c ^^^ (b ||| (d ^^^ (-1))))), some (.int (nI (7 * i))), none]) (by decide) rfl ?_
              refine r_iload C dX2_mixWords_131 rfl ?_
              refine r_iload_n C dX2_mixWords_133 rfl ?_
              refine r_gets C (j := 1) dX2_mixWords_134 rfl slRX2_56 ?_
              refine r_iload C dX2_mixWords_137 rfl ?_
              refine r_tald C dX2_mixWords_139 (j := 1) (t := i) rfl rfl rfl (by show _ < 64; omega) (by decide) ?_
              refine r_iadd C dX2_mixWords_140 ?_
              refine r_aload_n C dX2_mixWords_141 rfl ?_
              refine r_get C dX2_mixWords_142 fgRX2_7 l_h w_h rfl ?_
              refine r_iload C dX2_mixWords_145 rfl ?_
              refine r_bipush C dX2_mixWords_147 (v := 15) (by decide) ?_
              refine r_iand C dX2_mixWords_149 ?_
              refine r_top (y := nI ((7 * i) % 16)) (pk_andN (n := 7 * i) (by omega) 4 rfl) ?_
              refine r_ialdN C dX2_mixWords_150 l_wd w_wd (j := (7 * i) % 16) rfl (by omega) (by decide) ?_
              refine r_iadd C dX2_mixWords_151 ?_
              refine r_iadd C dX2_mixWords_152 ?_
              obtain ⟨fv, hfv⟩ : ∃ z : Int32, z = (c ^^^ (b ||| (d ^^^ (-1)))) + ((a + (tabf sinL i)) + (fw ((7 * i) % 16))) := ⟨_, rfl⟩
              refine r_top hfv.symm ?_
              refine r_istore C dX2_mixWords_153 (L' := [some (.ref h), some (.int a), some (.int b), some (.int c), some (.int d), some (.int (nI i)), some (.int fv), some (.int (nI (7 * i))), none]) (by decide) rfl ?_
              refine r_gets C (j := 2) dX2_mixWords_155 rfl slRX2_59 ?_
              refine r_iload C dX2_mixWords_158 rfl ?_
              refine r_iconst C dX2_mixWords_160 (v := 4) (by decide) ?_
              refine r_ishr C dX2_mixWords_161 ?_
              refine r_top (y := nI (i / 16)) ((pk_shrN (by omega) _ 4 (by decide)).trans (congrArg nI (show i / 2 ^ 4 = i / 16 by omega))) ?_
              refine r_iconst C dX2_mixWords_162 (v := 4) (by decide) ?_
              refine r_imul C dX2_mixWords_163 ?_
              refine r_top (y := nI ((i / 16) * 4)) (pk_mul (i / 16) 4) ?_
              refine r_iload C dX2_mixWords_164 rfl ?_
              refine r_iconst C dX2_mixWords_166 (v := 3) (by decide) ?_
              refine r_iand C dX2_mixWords_167 ?_
              refine r_top (y := nI (i % 4)) (pk_andN (n := i) (by omega) 2 rfl) ?_
              refine r_iadd C dX2_mixWords_168 ?_
              refine r_top (y := nI (((i / 16) * 4) + (i % 4))) (nI_add ((i / 16) * 4) (i % 4)) ?_
              refine r_tald C dX2_mixWords_169 (j := 2) (t := ((i / 16) * 4) + (i % 4)) rfl rfl rfl (by show _ < 16; omega) (by decide) ?_
              refine r_istore C dX2_mixWords_170 (L' := [some (.ref h), some (.int a), some (.int b), some (.int c), some (.int d), some (.int (nI i)), some (.int fv), some (.int (nI (7 * i))), some (.int (tabf turL (((i / 16) * 4) + (i % 4))))]) (by decide) rfl ?_
              refine r_iload C dX2_mixWords_172 rfl ?_
              refine r_istore_n C dX2_mixWords_174 (L' := [some (.ref h), some (.int d), some (.int b), some (.int c), some (.int d), some (.int (nI i)), some (.int fv), some (.int (nI (7 * i))), some (.int (tabf turL (((i / 16) * 4) + (i % 4))))]) (by decide) rfl ?_
              refine r_iload_n C dX2_mixWords_175 rfl ?_
              refine r_istore C dX2_mixWords_176 (L' := [some (.ref h), some (.int d), some (.int b), some (.int c), some (.int c), some (.int (nI i)), some (.int fv), some (.int (nI (7 * i))), some (.int (tabf turL (((i / 16) * 4) + (i % 4))))]) (by decide) rfl ?_
              refine r_iload_n C dX2_mixWords_178 rfl ?_
              refine r_istore_n C dX2_mixWords_179 (L' := [some (.ref h), some (.int d), some (.int b), some (.int b), some (.int c), some (.int (nI i)), some (.int fv), some (.int (nI (7 * i))), some (.int (tabf turL (((i / 16) * 4) + (i % 4))))]) (by decide) rfl ?_
              refine r_iload_n C dX2_mixWords_180 rfl ?_
              refine r_iload C dX2_mixWords_181 rfl ?_
              refine r_iload C dX2_mixWords_183 rfl ?_
              refine r_ishl C dX2_mixWords_185 ?_
              refine r_iload C dX2_mixWords_186 rfl ?_
              refine r_bipush C dX2_mixWords_188 (v := 32) (by decide) ?_
              refine r_iload C dX2_mixWords_190 rfl ?_
              refine r_isub C dX2_mixWords_192 ?_
              refine r_iushr C dX2_mixWords_193 ?_
              refine r_ior C dX2_mixWords_194 ?_
              refine r_iadd C dX2_mixWords_195 ?_
              refine r_istore_n C dX2_mixWords_196 (L' := [some (.ref h), some (.int d), some (.int (b + ((fv <<< ((tabf turL (((i / 16) * 4) + (i % 4))) &&& 31)) ||| ((fv.toUInt32 >>> ((32 - (tabf turL (((i / 16) * 4) + (i % 4)))).toUInt32 &&& Int32.toUInt32 31)).toInt32)))), some (.int b), some (.int c), some (.int (nI i)), some (.int fv), some (.int (nI (7 * i))), some (.int (tabf turL (((i / 16) * 4) + (i % 4))))]) (by decide) rfl ?_
              refine r_iinc C dX2_mixWords_197 (v := nI (i + 1)) (L' := [some (.ref h), some (.int d), some (.int (b + ((fv <<< ((tabf turL (((i / 16) * 4) + (i % 4))) &&& 31)) ||| ((fv.toUInt32 >>> ((32 - (tabf turL (((i / 16) * 4) + (i % 4)))).toUInt32 &&& Int32.toUInt32 31)).toInt32)))), some (.int b), some (.int c), some (.int (nI (i + 1))), some (.int fv), some (.int (nI (7 * i))), some (.int (tabf turL (((i / 16) * 4) + (i % 4))))]) rfl (nI_add i 1) (by decide) rfl ?_
              refine r_goto C 24 dX2_mixWords_200 (by decide) ?_
              refine r_forget [some (.ref h), some (.int d), some (.int (b + ((fv <<< ((tabf turL (((i / 16) * 4) + (i % 4))) &&& 31)) ||| ((fv.toUInt32 >>> ((32 - (tabf turL (((i / 16) * 4) + (i % 4)))).toUInt32 &&& Int32.toUInt32 31)).toInt32)))), some (.int b), some (.int c), some (.int (nI (i + 1))), none, none, none] ⟨Or.inr rfl, Or.inr rfl, Or.inr rfl, Or.inr rfl, Or.inr rfl, Or.inr rfl, Or.inl rfl, Or.inl rfl, Or.inl rfl, trivial⟩ ?_
              exact ih_24 (i + 1) d (b + ((fv <<< ((tabf turL (((i / 16) * 4) + (i % 4))) &&& 31)) ||| ((fv.toUInt32 >>> ((32 - (tabf turL (((i / 16) * 4) + (i % 4)))).toUInt32 &&& Int32.toUInt32 31)).toInt32))) b c (by omega) (by omega) (by rw [mdR, ← he]; simp only [mdS, mdf, mdF, mdG, mdT, rotl, if_neg (show ¬ i < 16 by omega), if_neg (show ¬ i < 32 by omega), if_neg (show ¬ i < 48 by omega)]; rw [hfv])
            · skip
              have c_92 : ¬ (48 ≤ i) := fun h9 => c_92 ((nI_leI (a := 48) (b := i) (by omega) (by omega)).mpr h9)
              refine r_iload_n C dX2_mixWords_95 rfl ?_
              refine r_iload_n C dX2_mixWords_96 rfl ?_
              refine r_ixor C dX2_mixWords_97 ?_
              refine r_iload C dX2_mixWords_98 rfl ?_
              refine r_ixor C dX2_mixWords_100 ?_
              refine r_istore C dX2_mixWords_101 (L' := [some (.ref h), some (.int a), some (.int b), some (.int c), some (.int d), some (.int (nI i)), some (.int ((b ^^^ c) ^^^ d)), none, none]) (by decide) rfl ?_
              refine r_iconst C dX2_mixWords_103 (v := 3) (by decide) ?_
              refine r_iload C dX2_mixWords_104 rfl ?_
              refine r_imul C dX2_mixWords_106 ?_
              refine r_top (y := nI (3 * i)) (pk_mul 3 i) ?_
              refine r_iconst C dX2_mixWords_107 (v := 5) (by decide) ?_
              refine r_iadd C dX2_mixWords_108 ?_
              refine r_top (y := nI ((3 * i) + 5)) (nI_add (3 * i) 5) ?_
              refine r_istore C dX2_mixWords_109 (L' := [some (.ref h), some (.int a), some (.int b), some (.int c), some (.int d), some (.int (nI i)), some (.int ((b ^^^ c) ^^^ d)), some (.int (nI ((3 * i) + 5))), none]) (by decide) rfl ?_
              refine r_goto C 131 dX2_mixWords_111 (by decide) ?_
              refine r_iload C dX2_mixWords_131 rfl ?_
              refine r_iload_n C dX2_mixWords_133 rfl ?_
              refine r_gets C (j := 1) dX2_mixWords_134 rfl slRX2_56 ?_
              refine r_iload C dX2_mixWords_137 rfl ?_
              refine r_tald C dX2_mixWords_139 (j := 1) (t := i) rfl rfl rfl (by show _ < 64; omega) (by decide) ?_
              refine r_iadd C dX2_mixWords_140 ?_
              refine r_aload_n C dX2_mixWords_141 rfl ?_
              refine r_get C dX2_mixWords_142 fgRX2_7 l_h w_h rfl ?_
              refine r_iload C dX2_mixWords_145 rfl ?_
              refine r_bipush C dX2_mixWords_147 (v := 15) (by decide) ?_
              refine r_iand C dX2_mixWords_149 ?_
              refine r_top (y := nI (((3 * i) + 5) % 16)) (pk_andN (n := (3 * i) + 5) (by omega) 4 rfl) ?_
              refine r_ialdN C dX2_mixWords_150 l_wd w_wd (j := ((3 * i) + 5) % 16) rfl (by omega) (by decide) ?_
              refine r_iadd C dX2_mixWords_151 ?_
              refine r_iadd C dX2_mixWords_152 ?_
              obtain ⟨fv, hfv⟩ : ∃ z : Int32, z = ((b ^^^ c) ^^^ d) + ((a + (tabf sinL i)) + (fw (((3 * i) + 5) % 16))) := ⟨_, rfl⟩
              refine r_top hfv.symm ?_
              refine r_istore C dX2_mixWords_153 (L' := [some (.ref h), some (.int a), some (.int b), some (.int c), some (.int d), some (.int (nI i)), some (.int fv), some (.int (nI ((3 * i) + 5))), none]) (by decide) rfl ?_
              refine r_gets C (j := 2) dX2_mixWords_155 rfl slRX2_59 ?_
              refine r_iload C dX2_mixWords_158 rfl ?_
              refine r_iconst C dX2_mixWords_160 (v := 4) (by decide) ?_
              refine r_ishr C dX2_mixWords_161 ?_
              refine r_top (y := nI (i / 16)) ((pk_shrN (by omega) _ 4 (by decide)).trans (congrArg nI (show i / 2 ^ 4 = i / 16 by omega))) ?_
              refine r_iconst C dX2_mixWords_162 (v := 4) (by decide) ?_
              refine r_imul C dX2_mixWords_163 ?_
              refine r_top (y := nI ((i / 16) * 4)) (pk_mul (i / 16) 4) ?_
              refine r_iload C dX2_mixWords_164 rfl ?_
              refine r_iconst C dX2_mixWords_166 (v := 3) (by decide) ?_
              refine r_iand C dX2_mixWords_167 ?_
              refine r_top (y := nI (i % 4)) (pk_andN (n := i) (by omega) 2 rfl) ?_
              refine r_iadd C dX2_mixWords_168 ?_
              refine r_top (y := nI (((i / 16) * 4) + (i % 4))) (nI_add ((i / 16) * 4) (i % 4)) ?_
              refine r_tald C dX2_mixWords_169 (j := 2) (t := ((i / 16) * 4) + (i % 4)) rfl rfl rfl (by show _ < 16; omega) (by decide) ?_
              refine r_istore C dX2_mixWords_170 (L' := [some (.ref h), some (.int a), some (.int b), some (.int c), some (.int d), some (.int (nI i)), some (.int fv), some (.int (nI ((3 * i) + 5))), some (.int (tabf turL (((i / 16) * 4) + (i % 4))))]) (by decide) rfl ?_
              refine r_iload C dX2_mixWords_172 rfl ?_
              refine r_istore_n C dX2_mixWords_174 (L' := [some (.ref h), some (.int d), some (.int b), some (.int c), some (.int d), some (.int (nI i)), some (.int fv), some (.int (nI ((3 * i) + 5))), some (.int (tabf turL (((i / 16) * 4) + (i % 4))))]) (by decide) rfl ?_
              refine r_iload_n C dX2_mixWords_175 rfl ?_
              refine r_istore C dX2_mixWords_176 (L' := [some (.ref h), some (.int d), some (.int b), some (.int c), some (.int c), some (.int (nI i)), some (.int fv), some (.int (nI ((3 * i) + 5))), some (.int (tabf turL (((i / 16) * 4) + (i % 4))))]) (by decide) rfl ?_
              refine r_iload_n C dX2_mixWords_178 rfl ?_
              refine r_istore_n C dX2_mixWords_179 (L' := [some (.ref h), some (.int d), some (.int b), some (.int b), some (.int c), some (.int (nI i)), some (.int fv), some (.int (nI ((3 * i) + 5))), some (.int (tabf turL (((i / 16) * 4) + (i % 4))))]) (by decide) rfl ?_
              refine r_iload_n C dX2_mixWords_180 rfl ?_
              refine r_iload C dX2_mixWords_181 rfl ?_
              refine r_iload C dX2_mixWords_183 rfl ?_
              refine r_ishl C dX2_mixWords_185 ?_
              refine r_iload C dX2_mixWords_186 rfl ?_
              refine r_bipush C dX2_mixWords_188 (v := 32) (by decide) ?_
              refine r_iload C dX2_mixWords_190 rfl ?_
              refine r_isub C dX2_mixWords_192 ?_
              refine r_iushr C dX2_mixWords_193 ?_
              refine r_ior C dX2_mixWords_194 ?_
              refine r_iadd C dX2_mixWords_195 ?_
              refine r_istore_n C dX2_mixWords_196 (L' := [some (.ref h), some (.int d), some (.int (b + ((fv <<< ((tabf turL (((i / 16) * 4) + (i % 4))) &&& 31)) ||| ((fv.toUInt32 >>> ((32 - (tabf turL (((i / 16) * 4) + (i % 4)))).toUInt32 &&& Int32.toUInt32 31)).toInt32)))), some (.int b), some (.int c), some (.int (nI i)), some (.int fv), some (.int (nI ((3 * i) + 5))), some (.int (tabf turL (((i / 16) * 4) + (i % 4))))]) (by decide) rfl ?_
              refine r_iinc C dX2_mixWords_197 (v := nI (i + 1)) (L' := [some (.ref h), some (.int d), some (.int (b + ((fv <<< ((tabf turL (((i / 16) * 4) + (i % 4))) &&& 31)) ||| ((fv.toUInt32 >>> ((32 - (tabf turL (((i / 16) * 4) + (i % 4)))).toUInt32 &&& Int32.toUInt32 31)).toInt32)))), some (.int b), some (.int c), some (.int (nI (i + 1))), some (.int fv), some (.int (nI ((3 * i) + 5))), some (.int (tabf turL (((i / 16) * 4) + (i % 4))))]) rfl (nI_add i 1) (by decide) rfl ?_
              refine r_goto C 24 dX2_mixWords_200 (by decide) ?_
              refine r_forget [some (.ref h), some (.int d), some (.int (b + ((fv <<< ((tabf turL (((i / 16) * 4) + (i % 4))) &&& 31)) ||| ((fv.toUInt32 >>> ((32 - (tabf turL (((i / 16) * 4) + (i % 4)))).toUInt32 &&& Int32.toUInt32 31)).toInt32)))), some (.int b), some (.int c), some (.int (nI (i + 1))), none, none, none] ⟨Or.inr rfl, Or.inr rfl, Or.inr rfl, Or.inr rfl, Or.inr rfl, Or.inr rfl, Or.inl rfl, Or.inl rfl, Or.inl rfl, trivial⟩ ?_
              exact ih_24 (i + 1) d (b + ((fv <<< ((tabf turL (((i / 16) * 4) + (i % 4))) &&& 31)) ||| ((fv.toUInt32 >>> ((32 - (tabf turL (((i / 16) * 4) + (i % 4)))).toUInt32 &&& Int32.toUInt32 31)).toInt32))) b c (by omega) (by omega) (by rw [mdR, ← he]; simp only [mdS, mdf, mdF, mdG, mdT, rotl, if_neg (show ¬ i < 16 by omega), if_neg (show ¬ i < 32 by omega), if_pos (show i < 48 by omega)]; rw [hfv])
          · skip
            have c_61 : ¬ (32 ≤ i) := fun h9 => c_61 ((nI_leI (a := 32) (b := i) (by omega) (by omega)).mpr h9)
            refine r_iload C dX2_mixWords_64 rfl ?_
            refine r_iload_n C dX2_mixWords_66 rfl ?_
            refine r_iand C dX2_mixWords_67 ?_
            refine r_iload C dX2_mixWords_68 rfl ?_
            refine r_iconst C dX2_mixWords_70 (v := (-1)) (by decide) ?_
            refine r_ixor C dX2_mixWords_71 ?_
            refine r_iload_n C dX2_mixWords_72 rfl ?_
            refine r_iand C dX2_mixWords_73 ?_
            refine r_ior C dX2_mixWords_74 ?_
            refine r_istore C dX2_mixWords_75 (L' := [some (.ref h), some (.int a), some (.int b), some (.int c), some (.int d), some (.int (nI i)), some (.int ((d &&& b) ||| ((d ^^^ (-1)) &&& c))), none, none]) (by decide) rfl ?_
            refine r_iconst C dX2_mixWords_77 (v := 5) (by decide) ?_
            refine r_iload C dX2_mixWords_78 rfl ?_
            refine r_imul C dX2_mixWords_80 ?_
            refine r_top (y := nI (5 * i)) (pk_mul 5 i) ?_
            refine r_iconst C dX2_mixWords_81 (v := 1) (by decide) ?_
            refine r_iadd C dX2_mixWords_82 ?_
            refine r_top (y := nI ((5 * i) + 1)) (nI_add (5 * i) 1) ?_
            refine r_istore C dX2_mixWords_83 (L' := [some (.ref h), some (.int a), some (.int b), some (.int c), some (.int d), some (.int (nI i)), some (.int ((d &&& b) ||| ((d ^^^ (-1)) &&& c))), some (.int (nI ((5 * i) + 1))), none]) (by decide) rfl ?_
            refine r_goto C 131 dX2_mixWords_85 (by decide) ?_
            refine r_iload C dX2_mixWords_131 rfl ?_
            refine r_iload_n C dX2_mixWords_133 rfl ?_
            refine r_gets C (j := 1) dX2_mixWords_134 rfl slRX2_56 ?_
            refine r_iload C dX2_mixWords_137 rfl ?_
            refine r_tald C dX2_mixWords_139 (j := 1) (t := i) rfl rfl rfl (by show _ < 64; omega) (by decide) ?_
            refine r_iadd C dX2_mixWords_140 ?_
            refine r_aload_n C dX2_mixWords_141 rfl ?_
            refine r_get C dX2_mixWords_142 fgRX2_7 l_h w_h rfl ?_
            refine r_iload C dX2_mixWords_145 rfl ?_
            refine r_bipush C dX2_mixWords_147 (v := 15) (by decide) ?_
            refine r_iand C dX2_mixWords_149 ?_
            refine r_top (y := nI (((5 * i) + 1) % 16)) (pk_andN (n := (5 * i) + 1) (by omega) 4 rfl) ?_
            refine r_ialdN C dX2_mixWords_150 l_wd w_wd (j := ((5 * i) + 1) % 16) rfl (by omega) (by decide) ?_
            refine r_iadd C dX2_mixWords_151 ?_
            refine r_iadd C dX2_mixWords_152 ?_
            obtain ⟨fv, hfv⟩ : ∃ z : Int32, z = ((d &&& b) ||| ((d ^^^ (-1)) &&& c)) + ((a + (tabf sinL i)) + (fw (((5 * i) + 1) % 16))) := ⟨_, rfl⟩
            refine r_top hfv.symm ?_
            refine r_istore C dX2_mixWords_153 (L' := [some (.ref h), some (.int a), some (.int b), some (.int c), some (.int d), some (.int (nI i)), some (.int fv), some (.int (nI ((5 * i) + 1))), none]) (by decide) rfl ?_
            refine r_gets C (j := 2) dX2_mixWords_155 rfl slRX2_59 ?_
            refine r_iload C dX2_mixWords_158 rfl ?_
            refine r_iconst C dX2_mixWords_160 (v := 4) (by decide) ?_
            refine r_ishr C dX2_mixWords_161 ?_
            refine r_top (y := nI (i / 16)) ((pk_shrN (by omega) _ 4 (by decide)).trans (congrArg nI (show i / 2 ^ 4 = i / 16 by omega))) ?_
            refine r_iconst C dX2_mixWords_162 (v := 4) (by decide) ?_
            refine r_imul C dX2_mixWords_163 ?_
            refine r_top (y := nI ((i / 16) * 4)) (pk_mul (i / 16) 4) ?_
            refine r_iload C dX2_mixWords_164 rfl ?_
            refine r_iconst C dX2_mixWords_166 (v := 3) (by decide) ?_
            refine r_iand C dX2_mixWords_167 ?_
            refine r_top (y := nI (i % 4)) (pk_andN (n := i) (by omega) 2 rfl) ?_
            refine r_iadd C dX2_mixWords_168 ?_
            refine r_top (y := nI (((i / 16) * 4) + (i % 4))) (nI_add ((i / 16) * 4) (i % 4)) ?_
            refine r_tald C dX2_mixWords_169 (j := 2) (t := ((i / 16) * 4) + (i % 4)) rfl rfl rfl (by show _ < 16; omega) (by decide) ?_
            refine r_istore C dX2_mixWords_170 (L' := [some (.ref h), some (.int a), some (.int b), some (.int c), some (.int d), some (.int (nI i)), some (.int fv), some (.int (nI ((5 * i) + 1))), some (.int (tabf turL (((i / 16) * 4) + (i % 4))))]) (by decide) rfl ?_
            refine r_iload C dX2_mixWords_172 rfl ?_
            refine r_istore_n C dX2_mixWords_174 (L' := [some (.ref h), some (.int d), some (.int b), some (.int c), some (.int d), some (.int (nI i)), some (.int fv), some (.int (nI ((5 * i) + 1))), some (.int (tabf turL (((i / 16) * 4) + (i % 4))))]) (by decide) rfl ?_
            refine r_iload_n C dX2_mixWords_175 rfl ?_
            refine r_istore C dX2_mixWords_176 (L' := [some (.ref h), some (.int d), some (.int b), some (.int c), some (.int c), some (.int (nI i)), some (.int fv), some (.int (nI ((5 * i) + 1))), some (.int (tabf turL (((i / 16) * 4) + (i % 4))))]) (by decide) rfl ?_
            refine r_iload_n C dX2_mixWords_178 rfl ?_
            refine r_istore_n C dX2_mixWords_179 (L' := [some (.ref h), some (.int d), some (.int b), some (.int b), some (.int c), some (.int (nI i)), some (.int fv), some (.int (nI ((5 * i) + 1))), some (.int (tabf turL (((i / 16) * 4) + (i % 4))))]) (by decide) rfl ?_
            refine r_iload_n C dX2_mixWords_180 rfl ?_
            refine r_iload C dX2_mixWords_181 rfl ?_
            refine r_iload C dX2_mixWords_183 rfl ?_
            refine r_ishl C dX2_mixWords_185 ?_
            refine r_iload C dX2_mixWords_186 rfl ?_
            refine r_bipush C dX2_mixWords_188 (v := 32) (by decide) ?_
            refine r_iload C dX2_mixWords_190 rfl ?_
            refine r_isub C dX2_mixWords_192 ?_
            refine r_iushr C dX2_mixWords_193 ?_
            refine r_ior C dX2_mixWords_194 ?_
            refine r_iadd C dX2_mixWords_195 ?_
            refine r_istore_n C dX2_mixWords_196 (L' := [some (.ref h), some (.int d), some (.int (b + ((fv <<< ((tabf turL (((i / 16) * 4) + (i % 4))) &&& 31)) ||| ((fv.toUInt32 >>> ((32 - (tabf turL (((i / 16) * 4) + (i % 4)))).toUInt32 &&& Int32.toUInt32 31)).toInt32)))), some (.int b), some (.int c), some (.int (nI i)), some (.int fv), some (.int (nI ((5 * i) + 1))), some (.int (tabf turL (((i / 16) * 4) + (i % 4))))]) (by decide) rfl ?_
            refine r_iinc C dX2_mixWords_197 (v := nI (i + 1)) (L' := [some (.ref h), some (.int d), some (.int (b + ((fv <<< ((tabf turL (((i / 16) * 4) + (i % 4))) &&& 31)) ||| ((fv.toUInt32 >>> ((32 - (tabf turL (((i / 16) * 4) + (i % 4)))).toUInt32 &&& Int32.toUInt32 31)).toInt32)))), some (.int b), some (.int c), some (.int (nI (i + 1))), some (.int fv), some (.int (nI ((5 * i) + 1))), some (.int (tabf turL (((i / 16) * 4) + (i % 4))))]) rfl (nI_add i 1) (by decide) rfl ?_
            refine r_goto C 24 dX2_mixWords_200 (by decide) ?_
            refine r_forget [some (.ref h), some (.int d), some (.int (b + ((fv <<< ((tabf turL (((i / 16) * 4) + (i % 4))) &&& 31)) ||| ((fv.toUInt32 >>> ((32 - (tabf turL (((i / 16) * 4) + (i % 4)))).toUInt32 &&& Int32.toUInt32 31)).toInt32)))), some (.int b), some (.int c), some (.int (nI (i + 1))), none, none, none] ⟨Or.inr rfl, Or.inr rfl, Or.inr rfl, Or.inr rfl, Or.inr rfl, Or.inr rfl, Or.inl rfl, Or.inl rfl, Or.inl rfl, trivial⟩ ?_
            exact ih_24 (i + 1) d (b + ((fv <<< ((tabf turL (((i / 16) * 4) + (i % 4))) &&& 31)) ||| ((fv.toUInt32 >>> ((32 - (tabf turL (((i / 16) * 4) + (i % 4)))).toUInt32 &&& Int32.toUInt32 31)).toInt32))) b c (by omega) (by omega) (by rw [mdR, ← he]; simp only [mdS, mdf, mdF, mdG, mdT, rotl, if_neg (show ¬ i < 16 by omega), if_pos (show i < 32 by omega)]; rw [hfv])
        · skip
          have c_35 : ¬ (16 ≤ i) := fun h9 => c_35 ((nI_leI (a := 16) (b := i) (by omega) (by omega)).mpr h9)
          refine r_iload_n C dX2_mixWords_38 rfl ?_
          refine r_iload_n C dX2_mixWords_39 rfl ?_
          refine r_iand C dX2_mixWords_40 ?_
          refine r_iload_n C dX2_mixWords_41 rfl ?_
          refine r_iconst C dX2_mixWords_42 (v := (-1)) (by decide) ?_
          refine r_ixor C dX2_mixWords_43 ?_
          refine r_iload C dX2_mixWords_44 rfl ?_
          refine r_iand C dX2_mixWords_46 ?_
          refine r_ior C dX2_mixWords_47 ?_
          refine r_istore C dX2_mixWords_48 (L' := [some (.ref h), some (.int a), some (.int b), some (.int c), some (.int d), some (.int (nI i)), some (.int ((b &&& c) ||| ((b ^^^ (-1)) &&& d))), none, none]) (by decide) rfl ?_
          refine r_iload C dX2_mixWords_50 rfl ?_
          refine r_istore C dX2_mixWords_52 (L' := [some (.ref h), some (.int a), some (.int b), some (.int c), some (.int d), some (.int (nI i)), some (.int ((b &&& c) ||| ((b ^^^ (-1)) &&& d))), some (.int (nI i)), none]) (by decide) rfl ?_
          refine r_goto C 131 dX2_mixWords_54 (by decide) ?_
          refine r_iload C dX2_mixWords_131 rfl ?_
          refine r_iload_n C dX2_mixWords_133 rfl ?_
          refine r_gets C (j := 1) dX2_mixWords_134 rfl slRX2_56 ?_
          refine r_iload C dX2_mixWords_137 rfl ?_
          refine r_tald C dX2_mixWords_139 (j := 1) (t := i) rfl rfl rfl (by show _ < 64; omega) (by decide) ?_
          refine r_iadd C dX2_mixWords_140 ?_
          refine r_aload_n C dX2_mixWords_141 rfl ?_
          refine r_get C dX2_mixWords_142 fgRX2_7 l_h w_h rfl ?_
          refine r_iload C dX2_mixWords_145 rfl ?_
          refine r_bipush C dX2_mixWords_147 (v := 15) (by decide) ?_
          refine r_iand C dX2_mixWords_149 ?_
          refine r_top (y := nI (i % 16)) (pk_andN (n := i) (by omega) 4 rfl) ?_
          refine r_ialdN C dX2_mixWords_150 l_wd w_wd (j := i % 16) rfl (by omega) (by decide) ?_
          refine r_iadd C dX2_mixWords_151 ?_
          refine r_iadd C dX2_mixWords_152 ?_
          obtain ⟨fv, hfv⟩ : ∃ z : Int32, z = ((b &&& c) ||| ((b ^^^ (-1)) &&& d)) + ((a + (tabf sinL i)) + (fw (i % 16))) := ⟨_, rfl⟩
          refine r_top hfv.symm ?_
          refine r_istore C dX2_mixWords_153 (L' := [some (.ref h), some (.int a), some (.int b), some (.int c), some (.int d), some (.int (nI i)), some (.int fv), some (.int (nI i)), none]) (by decide) rfl ?_
          refine r_gets C (j := 2) dX2_mixWords_155 rfl slRX2_59 ?_
          refine r_iload C dX2_mixWords_158 rfl ?_
          refine r_iconst C dX2_mixWords_160 (v := 4) (by decide) ?_
          refine r_ishr C dX2_mixWords_161 ?_
          refine r_top (y := nI (i / 16)) ((pk_shrN (by omega) _ 4 (by decide)).trans (congrArg nI (show i / 2 ^ 4 = i / 16 by omega))) ?_
          refine r_iconst C dX2_mixWords_162 (v := 4) (by decide) ?_
          refine r_imul C dX2_mixWords_163 ?_
          refine r_top (y := nI ((i / 16) * 4)) (pk_mul (i / 16) 4) ?_
          refine r_iload C dX2_mixWords_164 rfl ?_
          refine r_iconst C dX2_mixWords_166 (v := 3) (by decide) ?_
          refine r_iand C dX2_mixWords_167 ?_
          refine r_top (y := nI (i % 4)) (pk_andN (n := i) (by omega) 2 rfl) ?_
          refine r_iadd C dX2_mixWords_168 ?_
          refine r_top (y := nI (((i / 16) * 4) + (i % 4))) (nI_add ((i / 16) * 4) (i % 4)) ?_
          refine r_tald C dX2_mixWords_169 (j := 2) (t := ((i / 16) * 4) + (i % 4)) rfl rfl rfl (by show _ < 16; omega) (by decide) ?_
          refine r_istore C dX2_mixWords_170 (L' := [some (.ref h), some (.int a), some (.int b), some (.int c), some (.int d), some (.int (nI i)), some (.int fv), some (.int (nI i)), some (.int (tabf turL (((i / 16) * 4) + (i % 4))))]) (by decide) rfl ?_
          refine r_iload C dX2_mixWords_172 rfl ?_
          refine r_istore_n C dX2_mixWords_174 (L' := [some (.ref h), some (.int d), some (.int b), some (.int c), some (.int d), some (.int (nI i)), some (.int fv), some (.int (nI i)), some (.int (tabf turL (((i / 16) * 4) + (i % 4))))]) (by decide) rfl ?_
          refine r_iload_n C dX2_mixWords_175 rfl ?_
          refine r_istore C dX2_mixWords_176 (L' := [some (.ref h), some (.int d), some (.int b), some (.int c), some (.int c), some (.int (nI i)), some (.int fv), some (.int (nI i)), some (.int (tabf turL (((i / 16) * 4) + (i % 4))))]) (by decide) rfl ?_
          refine r_iload_n C dX2_mixWords_178 rfl ?_
          refine r_istore_n C dX2_mixWords_179 (L' := [some (.ref h), some (.int d), some (.int b), some (.int b), some (.int c), some (.int (nI i)), some (.int fv), some (.int (nI i)), some (.int (tabf turL (((i / 16) * 4) + (i % 4))))]) (by decide) rfl ?_
          refine r_iload_n C dX2_mixWords_180 rfl ?_
          refine r_iload C dX2_mixWords_181 rfl ?_
          refine r_iload C dX2_mixWords_183 rfl ?_
          refine r_ishl C dX2_mixWords_185 ?_
          refine r_iload C dX2_mixWords_186 rfl ?_
          refine r_bipush C dX2_mixWords_188 (v := 32) (by decide) ?_
          refine r_iload C dX2_mixWords_190 rfl ?_
          refine r_isub C dX2_mixWords_192 ?_
          refine r_iushr C dX2_mixWords_193 ?_
          refine r_ior C dX2_mixWords_194 ?_
          refine r_iadd C dX2_mixWords_195 ?_
          refine r_istore_n C dX2_mixWords_196 (L' := [some (.ref h), some (.int d), some (.int (b + ((fv <<< ((tabf turL (((i / 16) * 4) + (i % 4))) &&& 31)) ||| ((fv.toUInt32 >>> ((32 - (tabf turL (((i / 16) * 4) + (i % 4)))).toUInt32 &&& Int32.toUInt32 31)).toInt32)))), some (.int b), some (.int c), some (.int (nI i)), some (.int fv), some (.int (nI i)), some (.int (tabf turL (((i / 16) * 4) + (i % 4))))]) (by decide) rfl ?_
          refine r_iinc C dX2_mixWords_197 (v := nI (i + 1)) (L' := [some (.ref h), some (.int d), some (.int (b + ((fv <<< ((tabf turL (((i / 16) * 4) + (i % 4))) &&& 31)) ||| ((fv.toUInt32 >>> ((32 - (tabf turL (((i / 16) * 4) + (i % 4)))).toUInt32 &&& Int32.toUInt32 31)).toInt32)))), some (.int b), some (.int c), some (.int (nI (i + 1))), some (.int fv), some (.int (nI i)), some (.int (tabf turL (((i / 16) * 4) + (i % 4))))]) rfl (nI_add i 1) (by decide) rfl ?_
          refine r_goto C 24 dX2_mixWords_200 (by decide) ?_
          refine r_forget [some (.ref h), some (.int d), some (.int (b + ((fv <<< ((tabf turL (((i / 16) * 4) + (i % 4))) &&& 31)) ||| ((fv.toUInt32 >>> ((32 - (tabf turL (((i / 16) * 4) + (i % 4)))).toUInt32 &&& Int32.toUInt32 31)).toInt32)))), some (.int b), some (.int c), some (.int (nI (i + 1))), none, none, none] ⟨Or.inr rfl, Or.inr rfl, Or.inr rfl, Or.inr rfl, Or.inr rfl, Or.inr rfl, Or.inl rfl, Or.inl rfl, Or.inl rfl, trivial⟩ ?_
          exact ih_24 (i + 1) d (b + ((fv <<< ((tabf turL (((i / 16) * 4) + (i % 4))) &&& 31)) ||| ((fv.toUInt32 >>> ((32 - (tabf turL (((i / 16) * 4) + (i % 4)))).toUInt32 &&& Int32.toUInt32 31)).toInt32))) b c (by omega) (by omega) (by rw [mdR, ← he]; simp only [mdS, mdf, mdF, mdG, mdT, rotl, if_pos (show i < 16 by omega)]; rw [hfv])
  exact loop_24 _ 0 sA sB sC sD (Nat.lt_succ_self _) (by omega) rfl
end
section
theorem mdW_last {xs : List Nat} {c : Nat} {f1 : Nat → Int32} (h : ∀ j, j < 16 → f1 j = le4 (endB xs) (c * 64 + 4 * j)) (hc : c + 1 = nch xs.length) (j : Nat) (hj : j < 16) : upd f1 14 (nI (8 * xs.length)) j = mdW xs c j := by
  unfold mdW upd
  by_cases e : j = 14
  · rw [if_pos e, if_pos ⟨hc, e⟩]
  · rw [if_neg e, if_neg (fun z => e z.2)]
    exact h j hj
set_option maxHeartbeats 4000000 in
set_option maxRecDepth 100000 in
theorem cX2_hash9 {w : Wo} {h wd a2 b2 a b : Nat} (l_h : h < NW) (l_wd : wd < NW) (l_a2 : a2 < NW) (l_b2 : b2 < NW) (l_a : a < NW) (l_b : b < NW) (n_h_wd : h ≠ wd) (n_h_a2 : h ≠ a2) (n_h_b2 : h ≠ b2) (n_h_a : h ≠ a) (n_h_b : h ≠ b) (n_wd_a2 : wd ≠ a2) (n_wd_b2 : wd ≠ b2) (n_wd_a : wd ≠ a) (n_wd_b : wd ≠ b) (n_a2_b2 : a2 ≠ b2) (n_a2_a : a2 ≠ a) (n_a2_b : a2 ≠ b) (n_b2_a : b2 ≠ a) (n_b2_b : b2 ≠ b) (n_a_b : a ≠ b) {n2 n : Nat} {fw : Nat → Int32} {sA sB sC sD : Int32} (w_h : w h = ob 2 [.ref wd, .int sA, .int sB, .int sC, .int sD]) (w_wd : w wd = ia 16 fw) {f2 : Nat → Int32} {ys : List Nat} (w_a2 : w a2 = ob 3 [.ref b2, .int (nI ys.length)]) (w_b2 : w b2 = ia n2 f2) (h_ys : hs f2 ys) (k_ys : ys.length ≤ n2) (hn2 : n2 ≤ 1048576) {f : Nat → Int32} {xs : List Nat} (w_a : w a = ob 3 [.ref b, .int (nI xs.length)]) (w_b : w b = ia n f) (h_xs : hs f xs) (k_xs : xs.length ≤ n) (hn : n ≤ 1048576) (h16 : 16 ≤ n) : Ctr mX2_hash [.ref h, .ref a2, .ref a] w (PV fun w' => ∃ tA tB tC tD fw' f', w' = wset (wset (wset (wset w h (ob 2 [.ref wd, .int tA, .int tB, .int tC, .int tD])) wd (ia 16 fw')) a (ob 3 [.ref b, .int (nI (md5 ys).length)])) b (ia n f') ∧ hs f' (md5 ys)) := by
  refine Ctr_intro okX2_hash rfl (Nat.le_of_ble_eq_true rfl) (L := [some (.ref h), some (.ref a2), some (.ref a), none, none]) rfl (fun g ct C T_ => ?_)
  refine r_aload_n C dX2_hash_0 rfl ?_
  refine r_ldc C dX2_hash_1 cnRX2_13 ?_
  refine r_put C dX2_hash_3 fpRX2_14 l_h w_h rfl rfl (Nat.le_of_ble_eq_true rfl) (fs' := [.ref wd, .int 1732584193, .int sB, .int sC, .int sD]) rfl ?_
  refine r_aload_n C dX2_hash_6 rfl ?_
  refine r_ldc C dX2_hash_7 cnRX2_18 ?_
  refine r_put C dX2_hash_9 fpRX2_19 l_h ws_eq rfl rfl (Nat.le_of_ble_eq_true rfl) (fs' := [.ref wd, .int 1732584193, .int (-271733879), .int sC, .int sD]) rfl ?_
  refine r_eq rfl rfl ws_same ?_
  refine r_aload_n C dX2_hash_12 rfl ?_
  refine r_ldc C dX2_hash_13 cnRX2_22 ?_
  refine r_put C dX2_hash_15 fpRX2_23 l_h ws_eq rfl rfl (Nat.le_of_ble_eq_true rfl) (fs' := [.ref wd, .int 1732584193, .int (-271733879), .int (-1732584194), .int sD]) rfl ?_
  refine r_eq rfl rfl ws_same ?_
  refine r_aload_n C dX2_hash_18 rfl ?_
  refine r_ldc C dX2_hash_19 cnRX2_26 ?_
  refine r_put C dX2_hash_21 fpRX2_27 l_h ws_eq rfl rfl (Nat.le_of_ble_eq_true rfl) (fs' := [.ref wd, .int 1732584193, .int (-271733879), .int (-1732584194), .int 271733878]) rfl ?_
  refine r_eq rfl rfl ws_same ?_
  refine r_aload_n C dX2_hash_24 rfl ?_
  refine r_get C dX2_hash_25 fgRX2_30 l_a2 (ws_ne (Ne.symm n_h_a2) w_a2) rfl ?_
  refine r_bipush C dX2_hash_28 (v := 8) (by decide) ?_
  refine r_iadd C dX2_hash_30 ?_
  refine r_top (y := nI (ys.length + 8)) (nI_add ys.length 8) ?_
  refine r_bipush C dX2_hash_31 (v := 64) (by decide) ?_
  refine r_idiv C dX2_hash_33 (by decide) ?_
  refine r_top (y := nI ((ys.length + 8) / 64)) (pk_div (a := ys.length + 8) (d := 64) (by omega) (by omega) (by omega)) ?_
  refine r_iconst C dX2_hash_34 (v := 1) (by decide) ?_
  refine r_iadd C dX2_hash_35 ?_
  refine r_top (y := nI (((ys.length + 8) / 64) + 1)) (nI_add ((ys.length + 8) / 64) 1) ?_
  refine r_istore_n C dX2_hash_36 (L' := [some (.ref h), some (.ref a2), some (.ref a), some (.int (nI (((ys.length + 8) / 64) + 1))), none]) (by decide) rfl ?_
  refine r_iconst C dX2_hash_37 (v := 0) (by decide) ?_
  refine r_istore C dX2_hash_38 (L' := [some (.ref h), some (.ref a2), some (.ref a), some (.int (nI (((ys.length + 8) / 64) + 1))), some (.int 0)]) (by decide) rfl ?_
  have loop_40 : ∀ (d9 : Nat) (c : Nat) (fv : Nat → Int32) (vA : Int32) (vB : Int32) (vC : Int32) (vD : Int32), nch ys.length - c < d9 → c ≤ nch ys.length → (vA, vB, vC, vD) = mdX ys c → Az g mX2_hash ct 0 0 40 [some (.ref h), some (.ref a2), some (.ref a), some (.int (nI ((ys.length + 8) / 64 + 1))), some (.int (nI c))] [] (wset (wset w h (ob 2 [.ref wd, .int vA, .int vB, .int vC, .int vD])) wd (ia 16 fv)) := by
    intro d9
    induction d9 with
    | zero => intro c fv vA vB vC vD hd9; exact absurd hd9 (Nat.not_lt_zero _)
    | succ d9 ih_40 =>
      intro c fv vA vB vC vD hd9 hc he
      have hc9 : nch ys.length = (ys.length + 8) / 64 + 1 := rfl
      refine r_iload C dX2_hash_40 rfl ?_
      refine r_iload_n C dX2_hash_42 rfl ?_
      refine r_icmp_ge C 88 dX2_hash_43 (by decide) (fun c_43 => ?_) (fun c_43 => ?_)
      · skip
        have c_43 : ((ys.length + 8) / 64 + 1) ≤ c := (nI_leI (a := (ys.length + 8) / 64 + 1) (b := c) (by omega) (by omega)).mp c_43
        refine r_aload_n C dX2_hash_88 rfl ?_
        refine r_callVv C (As := []) (rest := []) dX2_hash_89 (cX3_clear9 l_a l_b n_a_b (ws_ne (Ne.symm n_wd_a) (ws_ne (Ne.symm n_h_a) w_a)) (ws_ne (Ne.symm n_wd_b) (ws_ne (Ne.symm n_h_b) w_b)) h_xs k_xs (by omega)) okX3_clear mlRX2_42 imX3_clear seX3_clear ⟨by decide, by decide⟩ rfl rfl l_a (ws_ne (Ne.symm n_wd_a) (ws_ne (Ne.symm n_h_a) w_a)) rfl rfl (Nat.le_of_ble_eq_true rfl) (by decide) (by decide) (fun w9 h9 => ?_)
        obtain rfl := h9
        refine r_aload_n C dX2_hash_92 rfl ?_
        refine r_aload_n C dX2_hash_93 rfl ?_
        refine r_get C dX2_hash_94 fgRX2_14 l_h (ws_ne n_h_a (ws_ne n_h_wd ws_eq)) rfl ?_
        refine r_iconst C dX2_hash_97 (v := 4) (by decide) ?_
        refine r_callVv C (As := [.int vA, .int 4]) (rest := []) dX2_hash_98 (cX3_addLowestFirst9 l_a l_b n_a_b ws_eq (ws_ne (Ne.symm n_a_b) (ws_ne (Ne.symm n_wd_b) (ws_ne (Ne.symm n_h_b) w_b))) (hs_nil _) (by simp only [List.length_append, List.length_nil, lof_len]; omega) (by omega) (x := vA) (t := 4) (by omega) (by simp only [List.length_append, List.length_nil, lof_len]; omega)) okX3_addLowestFirst mlRX2_45 imX3_addLowestFirst seX3_addLowestFirst ⟨by decide, by decide⟩ rfl rfl l_a ws_eq rfl rfl (Nat.le_of_ble_eq_true rfl) (by decide) (by decide) (fun w9 h9 => ?_)
        obtain ⟨f1, rfl, h2⟩ := h9
        refine r_eq rfl rfl ((ws_comm n_a_b).trans (congrArg (fun z => wset z b (ia n f1)) ws_same)) ?_
        refine r_aload_n C dX2_hash_101 rfl ?_
        refine r_aload_n C dX2_hash_102 rfl ?_
        refine r_get C dX2_hash_103 fgRX2_19 l_h (ws_ne n_h_b (ws_ne n_h_a (ws_ne n_h_wd ws_eq))) rfl ?_
        refine r_iconst C dX2_hash_106 (v := 4) (by decide) ?_
        refine r_callVv C (As := [.int vB, .int 4]) (rest := []) dX2_hash_107 (cX3_addLowestFirst9 l_a l_b n_a_b (ws_ne n_a_b ws_eq) ws_eq h2 (by simp only [List.length_append, List.length_nil, lof_len]; omega) (by omega) (x := vB) (t := 4) (by omega) (by simp only [List.length_append, List.length_nil, lof_len]; omega)) okX3_addLowestFirst mlRX2_45 imX3_addLowestFirst seX3_addLowestFirst ⟨by decide, by decide⟩ rfl rfl l_a (ws_ne n_a_b ws_eq) rfl rfl (Nat.le_of_ble_eq_true rfl) (by decide) (by decide) (fun w9 h9 => ?_)
        obtain ⟨f3, rfl, h4⟩ := h9
        refine r_eq rfl rfl ((congrArg (fun z => wset (z) a (ob 3 [.ref b, .int (nI (((([] : List Nat) ++ lof vA 4) ++ lof vB 4).length))])) ws_same).trans ((ws_comm n_a_b).trans (congrArg (fun z => wset z b (ia n f3)) ws_same))) ?_
        refine r_aload_n C dX2_hash_110 rfl ?_
        refine r_aload_n C dX2_hash_111 rfl ?_
        refine r_get C dX2_hash_112 fgRX2_23 l_h (ws_ne n_h_b (ws_ne n_h_a (ws_ne n_h_wd ws_eq))) rfl ?_
        refine r_iconst C dX2_hash_115 (v := 4) (by decide) ?_
        refine r_callVv C (As := [.int vC, .int 4]) (rest := []) dX2_hash_116 (cX3_addLowestFirst9 l_a l_b n_a_b (ws_ne n_a_b ws_eq) ws_eq h4 (by simp only [List.length_append, List.length_nil, lof_len]; omega) (by omega) (x := vC) (t := 4) (by omega) (by simp only [List.length_append, List.length_nil, lof_len]; omega)) okX3_addLowestFirst mlRX2_45 imX3_addLowestFirst seX3_addLowestFirst ⟨by decide, by decide⟩ rfl rfl l_a (ws_ne n_a_b ws_eq) rfl rfl (Nat.le_of_ble_eq_true rfl) (by decide) (by decide) (fun w9 h9 => ?_)
        obtain ⟨f5, rfl, h6⟩ := h9
        refine r_eq rfl rfl ((congrArg (fun z => wset (z) a (ob 3 [.ref b, .int (nI ((((([] : List Nat) ++ lof vA 4) ++ lof vB 4) ++ lof vC 4).length))])) ws_same).trans ((ws_comm n_a_b).trans (congrArg (fun z => wset z b (ia n f5)) ws_same))) ?_
        refine r_aload_n C dX2_hash_119 rfl ?_
        refine r_aload_n C dX2_hash_120 rfl ?_
        refine r_get C dX2_hash_121 fgRX2_27 l_h (ws_ne n_h_b (ws_ne n_h_a (ws_ne n_h_wd ws_eq))) rfl ?_
        refine r_iconst C dX2_hash_124 (v := 4) (by decide) ?_
        refine r_callVv C (As := [.int vD, .int 4]) (rest := []) dX2_hash_125 (cX3_addLowestFirst9 l_a l_b n_a_b (ws_ne n_a_b ws_eq) ws_eq h6 (by simp only [List.length_append, List.length_nil, lof_len]; omega) (by omega) (x := vD) (t := 4) (by omega) (by simp only [List.length_append, List.length_nil, lof_len]; omega)) okX3_addLowestFirst mlRX2_45 imX3_addLowestFirst seX3_addLowestFirst ⟨by decide, by decide⟩ rfl rfl l_a (ws_ne n_a_b ws_eq) rfl rfl (Nat.le_of_ble_eq_true rfl) (by decide) (by decide) (fun w9 h9 => ?_)
        obtain ⟨f7, rfl, h8⟩ := h9
        refine r_eq rfl rfl ((congrArg (fun z => wset (z) a (ob 3 [.ref b, .int (nI (((((([] : List Nat) ++ lof vA 4) ++ lof vB 4) ++ lof vC 4) ++ lof vD 4).length))])) ws_same).trans ((ws_comm n_a_b).trans (congrArg (fun z => wset z b (ia n f7)) ws_same))) ?_
        exact r_return C T_ rfl dX2_hash_128 (⟨rfl, vA, vB, vC, vD, _, _, by rw [show md5 ys = q4l (vA, vB, vC, vD) by rw [he]; unfold md5; congr 2; omega]; rfl, by rw [show md5 ys = q4l (vA, vB, vC, vD) by rw [he]; unfold md5; congr 2; omega]; exact h8⟩)
      · skip
        have c_43 : ¬ (((ys.length + 8) / 64 + 1) ≤ c) := fun h9 => c_43 ((nI_leI (a := (ys.length + 8) / 64 + 1) (b := c) (by omega) (by omega)).mpr h9)
        refine r_aload_n C dX2_hash_46 rfl ?_
        refine r_aload_n C dX2_hash_47 rfl ?_
        refine r_iload C dX2_hash_48 rfl ?_
        refine r_bipush C dX2_hash_50 (v := 64) (by decide) ?_
        refine r_imul C dX2_hash_52 ?_
        refine r_top (y := nI (c * 64)) (pk_mul c 64) ?_
        refine r_callVv C (As := [.ref a2, .int (nI (c * 64))]) (rest := []) dX2_hash_53 (cX2_loadWords9 l_h l_wd l_a2 l_b2 n_h_wd n_h_a2 n_h_b2 n_wd_a2 n_wd_b2 n_a2_b2 (ws_ne n_h_wd ws_eq) ws_eq (ws_ne (Ne.symm n_wd_a2) (ws_ne (Ne.symm n_h_a2) w_a2)) (ws_ne (Ne.symm n_wd_b2) (ws_ne (Ne.symm n_h_b2) w_b2)) h_ys k_ys (by omega) (q0 := c * 64) (by omega)) okX2_loadWords mlRX2_35 imX2_loadWords seX2_loadWords ⟨by decide, by decide⟩ rfl rfl l_h (ws_ne n_h_wd ws_eq) rfl rfl (Nat.le_of_ble_eq_true rfl) (by decide) (by decide) (fun w9 h9 => ?_)
        obtain ⟨f1, rfl, hp1⟩ := h9
        refine r_eq rfl rfl ws_same ?_
        refine r_iload C dX2_hash_56 rfl ?_
        refine r_iload_n C dX2_hash_58 rfl ?_
        refine r_iconst C dX2_hash_59 (v := 1) (by decide) ?_
        refine r_isub C dX2_hash_60 ?_
        refine r_top (y := nI (((ys.length + 8) / 64 + 1) - 1)) (pk_sub (a := (ys.length + 8) / 64 + 1) (b := 1) (by omega)) ?_
        refine r_icmp_ne C 78 dX2_hash_61 (by decide) (fun c_61 => ?_) (fun c_61 => ?_)
        · skip
          have c_61 : ¬ (c = (((ys.length + 8) / 64 + 1) - 1)) := fun h9 => c_61 ((nI_eq (a := c) (b := ((ys.length + 8) / 64 + 1) - 1) (by omega) (by omega)).mpr h9)
          refine r_aload_n C dX2_hash_78 rfl ?_
          refine r_callVv C (As := []) (rest := []) dX2_hash_79 (cX2_mixWords9 l_h l_wd n_h_wd (ws_ne n_h_wd ws_eq) ws_eq) okX2_mixWords mlRX2_39 imX2_mixWords seX2_mixWords ⟨by decide, by decide⟩ rfl rfl l_h (ws_ne n_h_wd ws_eq) rfl rfl (Nat.le_of_ble_eq_true rfl) (by decide) (by decide) (fun w9 h9 => ?_)
          obtain rfl := h9
          refine r_eq rfl rfl ((ws_comm n_h_wd).trans (congrArg (fun z => wset z wd (ia 16 f1)) ws_same)) ?_
          refine r_iinc C dX2_hash_82 (v := nI (c + 1)) (L' := [some (.ref h), some (.ref a2), some (.ref a), some (.int (nI ((ys.length + 8) / 64 + 1))), some (.int (nI (c + 1)))]) rfl (nI_add c 1) (by decide) rfl ?_
          refine r_goto C 40 dX2_hash_85 (by decide) ?_
          exact ih_40 (c + 1) _ ((mdC f1 (vA, vB, vC, vD)).1) ((mdC f1 (vA, vB, vC, vD)).2.1) ((mdC f1 (vA, vB, vC, vD)).2.2.1) ((mdC f1 (vA, vB, vC, vD)).2.2.2) (by unfold nch at *; omega) (by unfold nch; omega) (by show mdC _ _ = mdC (mdW ys c) (mdX ys c); rw [← he]; exact mdC_congr (fun j hj => (hp1 j hj).trans (by unfold mdW; rw [if_neg (by unfold nch; omega)])) _)
        · skip
          have c_61 : c = (((ys.length + 8) / 64 + 1) - 1) := (nI_eq (a := c) (b := ((ys.length + 8) / 64 + 1) - 1) (by omega) (by omega)).mp c_61
          refine r_aload_n C dX2_hash_64 rfl ?_
          refine r_get C dX2_hash_65 fgRX2_7 l_h (ws_ne n_h_wd ws_eq) rfl ?_
          refine r_bipush C dX2_hash_68 (v := 14) (by decide) ?_
          refine r_bipush C dX2_hash_70 (v := 8) (by decide) ?_
          refine r_aload_n C dX2_hash_72 rfl ?_
          refine r_get C dX2_hash_73 fgRX2_30 l_a2 (ws_ne (Ne.symm n_wd_a2) (ws_ne (Ne.symm n_h_a2) w_a2)) rfl ?_
          refine r_imul C dX2_hash_76 ?_
          refine r_top (y := nI (8 * ys.length)) (pk_mul 8 ys.length) ?_
          refine r_iastN C dX2_hash_77 l_wd ws_eq (j := 14) rfl (by omega) (by decide) ?_
          refine r_eq rfl rfl ws_same ?_
          refine r_aload_n C dX2_hash_78 rfl ?_
          refine r_callVv C (As := []) (rest := []) dX2_hash_79 (cX2_mixWords9 l_h l_wd n_h_wd (ws_ne n_h_wd ws_eq) ws_eq) okX2_mixWords mlRX2_39 imX2_mixWords seX2_mixWords ⟨by decide, by decide⟩ rfl rfl l_h (ws_ne n_h_wd ws_eq) rfl rfl (Nat.le_of_ble_eq_true rfl) (by decide) (by decide) (fun w9 h9 => ?_)
          obtain rfl := h9
          refine r_eq rfl rfl ((ws_comm n_h_wd).trans (congrArg (fun z => wset z wd (ia 16 (upd f1 14 (nI (8 * ys.length))))) ws_same)) ?_
          refine r_iinc C dX2_hash_82 (v := nI (c + 1)) (L' := [some (.ref h), some (.ref a2), some (.ref a), some (.int (nI ((ys.length + 8) / 64 + 1))), some (.int (nI (c + 1)))]) rfl (nI_add c 1) (by decide) rfl ?_
          refine r_goto C 40 dX2_hash_85 (by decide) ?_
          exact ih_40 (c + 1) _ ((mdC (upd f1 14 (nI (8 * ys.length))) (vA, vB, vC, vD)).1) ((mdC (upd f1 14 (nI (8 * ys.length))) (vA, vB, vC, vD)).2.1) ((mdC (upd f1 14 (nI (8 * ys.length))) (vA, vB, vC, vD)).2.2.1) ((mdC (upd f1 14 (nI (8 * ys.length))) (vA, vB, vC, vD)).2.2.2) (by unfold nch at *; omega) (by unfold nch; omega) (by show mdC _ _ = mdC (mdW ys c) (mdX ys c); rw [← he]; exact mdC_congr (fun j hj => mdW_last hp1 (by unfold nch; omega) j hj) _)
  refine r_eq rfl rfl (ws_self (ws_ne (Ne.symm n_h_wd) w_wd)).symm ?_
  exact loop_40 _ 0 fw 1732584193 (-271733879) (-1732584194) 271733878 (Nat.lt_succ_self _) (Nat.zero_le _) rfl
set_option maxHeartbeats 4000000 in
set_option maxRecDepth 100000 in
theorem cX2_hash9s {w : Wo} {h wd a b : Nat} (l_h : h < NW) (l_wd : wd < NW) (l_a : a < NW) (l_b : b < NW) (n_h_wd : h ≠ wd) (n_h_a : h ≠ a) (n_h_b : h ≠ b) (n_wd_a : wd ≠ a) (n_wd_b : wd ≠ b) (n_a_b : a ≠ b) {n : Nat} {fw : Nat → Int32} {sA sB sC sD : Int32} (w_h : w h = ob 2 [.ref wd, .int sA, .int sB, .int sC, .int sD]) (w_wd : w wd = ia 16 fw) {f : Nat → Int32} {xs : List Nat} (w_a : w a = ob 3 [.ref b, .int (nI xs.length)]) (w_b : w b = ia n f) (h_xs : hs f xs) (k_xs : xs.length ≤ n) (hn : n ≤ 1048576) (h16 : 16 ≤ n) : Ctr mX2_hash [.ref h, .ref a, .ref a] w (PV fun w' => ∃ tA tB tC tD fw' f', w' = wset (wset (wset (wset w h (ob 2 [.ref wd, .int tA, .int tB, .int tC, .int tD])) wd (ia 16 fw')) a (ob 3 [.ref b, .int (nI (md5 xs).length)])) b (ia n f') ∧ hs f' (md5 xs)) := by
  refine Ctr_intro okX2_hash rfl (Nat.le_of_ble_eq_true rfl) (L := [some (.ref h), some (.ref a), some (.ref a), none, none]) rfl (fun g ct C T_ => ?_)
  refine r_aload_n C dX2_hash_0 rfl ?_
  refine r_ldc C dX2_hash_1 cnRX2_13 ?_
  refine r_put C dX2_hash_3 fpRX2_14 l_h w_h rfl rfl (Nat.le_of_ble_eq_true rfl) (fs' := [.ref wd, .int 1732584193, .int sB, .int sC, .int sD]) rfl ?_
  refine r_aload_n C dX2_hash_6 rfl ?_
  refine r_ldc C dX2_hash_7 cnRX2_18 ?_
  refine r_put C dX2_hash_9 fpRX2_19 l_h ws_eq rfl rfl (Nat.le_of_ble_eq_true rfl) (fs' := [.ref wd, .int 1732584193, .int (-271733879), .int sC, .int sD]) rfl ?_
  refine r_eq rfl rfl ws_same ?_
  refine r_aload_n C dX2_hash_12 rfl ?_
  refine r_ldc C dX2_hash_13 cnRX2_22 ?_
  refine r_put C dX2_hash_15 fpRX2_23 l_h ws_eq rfl rfl (Nat.le_of_ble_eq_true rfl) (fs' := [.ref wd, .int 1732584193, .int (-271733879), .int (-1732584194), .int sD]) rfl ?_
  refine r_eq rfl rfl ws_same ?_
  refine r_aload_n C dX2_hash_18 rfl ?_
  refine r_ldc C dX2_hash_19 cnRX2_26 ?_
  refine r_put C dX2_hash_21 fpRX2_27 l_h ws_eq rfl rfl (Nat.le_of_ble_eq_true rfl) (fs' := [.ref wd, .int 1732584193, .int (-271733879), .int (-1732584194), .int 271733878]) rfl ?_
  refine r_eq rfl rfl ws_same ?_
  refine r_aload_n C dX2_hash_24 rfl ?_
  refine r_get C dX2_hash_25 fgRX2_30 l_a (ws_ne (Ne.symm n_h_a) w_a) rfl ?_
  refine r_bipush C dX2_hash_28 (v := 8) (by decide) ?_
  refine r_iadd C dX2_hash_30 ?_
  refine r_top (y := nI (xs.length + 8)) (nI_add xs.length 8) ?_
  refine r_bipush C dX2_hash_31 (v := 64) (by decide) ?_
  refine r_idiv C dX2_hash_33 (by decide) ?_
  refine r_top (y := nI ((xs.length + 8) / 64)) (pk_div (a := xs.length + 8) (d := 64) (by omega) (by omega) (by omega)) ?_
  refine r_iconst C dX2_hash_34 (v := 1) (by decide) ?_
  refine r_iadd C dX2_hash_35 ?_
  refine r_top (y := nI (((xs.length + 8) / 64) + 1)) (nI_add ((xs.length + 8) / 64) 1) ?_
  refine r_istore_n C dX2_hash_36 (L' := [some (.ref h), some (.ref a), some (.ref a), some (.int (nI (((xs.length + 8) / 64) + 1))), none]) (by decide) rfl ?_
  refine r_iconst C dX2_hash_37 (v := 0) (by decide) ?_
  refine r_istore C dX2_hash_38 (L' := [some (.ref h), some (.ref a), some (.ref a), some (.int (nI (((xs.length + 8) / 64) + 1))), some (.int 0)]) (by decide) rfl ?_
  have loop_40 : ∀ (d9 : Nat) (c : Nat) (fv : Nat → Int32) (vA : Int32) (vB : Int32) (vC : Int32) (vD : Int32), nch xs.length - c < d9 → c ≤ nch xs.length → (vA, vB, vC, vD) = mdX xs c → Az g mX2_hash ct 0 0 40 [some (.ref h), some (.ref a), some (.ref a), some (.int (nI ((xs.length + 8) / 64 + 1))), some (.int (nI c))] [] (wset (wset w h (ob 2 [.ref wd, .int vA, .int vB, .int vC, .int vD])) wd (ia 16 fv)) := by
    intro d9
    induction d9 with
    | zero => intro c fv vA vB vC vD hd9; exact absurd hd9 (Nat.not_lt_zero _)
    | succ d9 ih_40 =>
      intro c fv vA vB vC vD hd9 hc he
      have hc9 : nch xs.length = (xs.length + 8) / 64 + 1 := rfl
      refine r_iload C dX2_hash_40 rfl ?_
      refine r_iload_n C dX2_hash_42 rfl ?_
      refine r_icmp_ge C 88 dX2_hash_43 (by decide) (fun c_43 => ?_) (fun c_43 => ?_)
      · skip
        have c_43 : ((xs.length + 8) / 64 + 1) ≤ c := (nI_leI (a := (xs.length + 8) / 64 + 1) (b := c) (by omega) (by omega)).mp c_43
        refine r_aload_n C dX2_hash_88 rfl ?_
        refine r_callVv C (As := []) (rest := []) dX2_hash_89 (cX3_clear9 l_a l_b n_a_b (ws_ne (Ne.symm n_wd_a) (ws_ne (Ne.symm n_h_a) w_a)) (ws_ne (Ne.symm n_wd_b) (ws_ne (Ne.symm n_h_b) w_b)) h_xs k_xs (by omega)) okX3_clear mlRX2_42 imX3_clear seX3_clear ⟨by decide, by decide⟩ rfl rfl l_a (ws_ne (Ne.symm n_wd_a) (ws_ne (Ne.symm n_h_a) w_a)) rfl rfl (Nat.le_of_ble_eq_true rfl) (by decide) (by decide) (fun w9 h9 => ?_)
        obtain rfl := h9
        refine r_aload_n C dX2_hash_92 rfl ?_
        refine r_aload_n C dX2_hash_93 rfl ?_
        refine r_get C dX2_hash_94 fgRX2_14 l_h (ws_ne n_h_a (ws_ne n_h_wd ws_eq)) rfl ?_
        refine r_iconst C dX2_hash_97 (v := 4) (by decide) ?_
        refine r_callVv C (As := [.int vA, .int 4]) (rest := []) dX2_hash_98 (cX3_addLowestFirst9 l_a l_b n_a_b ws_eq (ws_ne (Ne.symm n_a_b) (ws_ne (Ne.symm n_wd_b) (ws_ne (Ne.symm n_h_b) w_b))) (hs_nil _) (by simp only [List.length_append, List.length_nil, lof_len]; omega) (by omega) (x := vA) (t := 4) (by omega) (by simp only [List.length_append, List.length_nil, lof_len]; omega)) okX3_addLowestFirst mlRX2_45 imX3_addLowestFirst seX3_addLowestFirst ⟨by decide, by decide⟩ rfl rfl l_a ws_eq rfl rfl (Nat.le_of_ble_eq_true rfl) (by decide) (by decide) (fun w9 h9 => ?_)
        obtain ⟨f1, rfl, h2⟩ := h9
        refine r_eq rfl rfl ((ws_comm n_a_b).trans (congrArg (fun z => wset z b (ia n f1)) ws_same)) ?_
        refine r_aload_n C dX2_hash_101 rfl ?_
        refine r_aload_n C dX2_hash_102 rfl ?_
        refine r_get C dX2_hash_103 fgRX2_19 l_h (ws_ne n_h_b (ws_ne n_h_a (ws_ne n_h_wd ws_eq))) rfl ?_
        refine r_iconst C dX2_hash_106 (v := 4) (by decide) ?_
        refine r_callVv C (As := [.int vB, .int 4]) (rest := []) dX2_hash_107 (cX3_addLowestFirst9 l_a l_b n_a_b (ws_ne n_a_b ws_eq) ws_eq h2 (by simp only [List.length_append, List.length_nil, lof_len]; omega) (by omega) (x := vB) (t := 4) (by omega) (by simp only [List.length_append, List.length_nil, lof_len]; omega)) okX3_addLowestFirst mlRX2_45 imX3_addLowestFirst seX3_addLowestFirst ⟨by decide, by decide⟩ rfl rfl l_a (ws_ne n_a_b ws_eq) rfl rfl (Nat.le_of_ble_eq_true rfl) (by decide) (by decide) (fun w9 h9 => ?_)
        obtain ⟨f3, rfl, h4⟩ := h9
        refine r_eq rfl rfl ((congrArg (fun z => wset (z) a (ob 3 [.ref b, .int (nI (((([] : List Nat) ++ lof vA 4) ++ lof vB 4).length))])) ws_same).trans ((ws_comm n_a_b).trans (congrArg (fun z => wset z b (ia n f3)) ws_same))) ?_
        refine r_aload_n C dX2_hash_110 rfl ?_
        refine r_aload_n C dX2_hash_111 rfl ?_
        refine r_get C dX2_hash_112 fgRX2_23 l_h (ws_ne n_h_b (ws_ne n_h_a (ws_ne n_h_wd ws_eq))) rfl ?_
        refine r_iconst C dX2_hash_115 (v := 4) (by decide) ?_
        refine r_callVv C (As := [.int vC, .int 4]) (rest := []) dX2_hash_116 (cX3_addLowestFirst9 l_a l_b n_a_b (ws_ne n_a_b ws_eq) ws_eq h4 (by simp only [List.length_append, List.length_nil, lof_len]; omega) (by omega) (x := vC) (t := 4) (by omega) (by simp only [List.length_append, List.length_nil, lof_len]; omega)) okX3_addLowestFirst mlRX2_45 imX3_addLowestFirst seX3_addLowestFirst ⟨by decide, by decide⟩ rfl rfl l_a (ws_ne n_a_b ws_eq) rfl rfl (Nat.le_of_ble_eq_true rfl) (by decide) (by decide) (fun w9 h9 => ?_)
        obtain ⟨f5, rfl, h6⟩ := h9
        refine r_eq rfl rfl ((congrArg (fun z => wset (z) a (ob 3 [.ref b, .int (nI ((((([] : List Nat) ++ lof vA 4) ++ lof vB 4) ++ lof vC 4).length))])) ws_same).trans ((ws_comm n_a_b).trans (congrArg (fun z => wset z b (ia n f5)) ws_same))) ?_
        refine r_aload_n C dX2_hash_119 rfl ?_
        refine r_aload_n C dX2_hash_120 rfl ?_
        refine r_get C dX2_hash_121 fgRX2_27 l_h (ws_ne n_h_b (ws_ne n_h_a (ws_ne n_h_wd ws_eq))) rfl ?_
        refine r_iconst C dX2_hash_124 (v := 4) (by decide) ?_
        refine r_callVv C (As := [.int vD, .int 4]) (rest := []) dX2_hash_125 (cX3_addLowestFirst9 l_a l_b n_a_b (ws_ne n_a_b ws_eq) ws_eq h6 (by simp only [List.length_append, List.length_nil, lof_len]; omega) (by omega) (x := vD) (t := 4) (by omega) (by simp only [List.length_append, List.length_nil, lof_len]; omega)) okX3_addLowestFirst mlRX2_45 imX3_addLowestFirst seX3_addLowestFirst ⟨by decide, by decide⟩ rfl rfl l_a (ws_ne n_a_b ws_eq) rfl rfl (Nat.le_of_ble_eq_true rfl) (by decide) (by decide) (fun w9 h9 => ?_)
        obtain ⟨f7, rfl, h8⟩ := h9
        refine r_eq rfl rfl ((congrArg (fun z => wset (z) a (ob 3 [.ref b, .int (nI (((((([] : List Nat) ++ lof vA 4) ++ lof vB 4) ++ lof vC 4) ++ lof vD 4).length))])) ws_same).trans ((ws_comm n_a_b).trans (congrArg (fun z => wset z b (ia n f7)) ws_same))) ?_
        exact r_return C T_ rfl dX2_hash_128 (⟨rfl, vA, vB, vC, vD, _, _, by rw [show md5 xs = q4l (vA, vB, vC, vD) by rw [he]; unfold md5; congr 2; omega]; rfl, by rw [show md5 xs = q4l (vA, vB, vC, vD) by rw [he]; unfold md5; congr 2; omega]; exact h8⟩)
      · skip
        have c_43 : ¬ (((xs.length + 8) / 64 + 1) ≤ c) := fun h9 => c_43 ((nI_leI (a := (xs.length + 8) / 64 + 1) (b := c) (by omega) (by omega)).mpr h9)
        refine r_aload_n C dX2_hash_46 rfl ?_
        refine r_aload_n C dX2_hash_47 rfl ?_
        refine r_iload C dX2_hash_48 rfl ?_
        refine r_bipush C dX2_hash_50 (v := 64) (by decide) ?_
        refine r_imul C dX2_hash_52 ?_
        refine r_top (y := nI (c * 64)) (pk_mul c 64) ?_
        refine r_callVv C (As := [.ref a, .int (nI (c * 64))]) (rest := []) dX2_hash_53 (cX2_loadWords9 l_h l_wd l_a l_b n_h_wd n_h_a n_h_b n_wd_a n_wd_b n_a_b (ws_ne n_h_wd ws_eq) ws_eq (ws_ne (Ne.symm n_wd_a) (ws_ne (Ne.symm n_h_a) w_a)) (ws_ne (Ne.symm n_wd_b) (ws_ne (Ne.symm n_h_b) w_b)) h_xs k_xs (by omega) (q0 := c * 64) (by omega)) okX2_loadWords mlRX2_35 imX2_loadWords seX2_loadWords ⟨by decide, by decide⟩ rfl rfl l_h (ws_ne n_h_wd ws_eq) rfl rfl (Nat.le_of_ble_eq_true rfl) (by decide) (by decide) (fun w9 h9 => ?_)
        obtain ⟨f1, rfl, hp1⟩ := h9
        refine r_eq rfl rfl ws_same ?_
        refine r_iload C dX2_hash_56 rfl ?_
        refine r_iload_n C dX2_hash_58 rfl ?_
        refine r_iconst C dX2_hash_59 (v := 1) (by decide) ?_
        refine r_isub C dX2_hash_60 ?_
        refine r_top (y := nI (((xs.length + 8) / 64 + 1) - 1)) (pk_sub (a := (xs.length + 8) / 64 + 1) (b := 1) (by omega)) ?_
        refine r_icmp_ne C 78 dX2_hash_61 (by decide) (fun c_61 => ?_) (fun c_61 => ?_)
        · skip
          have c_61 : ¬ (c = (((xs.length + 8) / 64 + 1) - 1)) := fun h9 => c_61 ((nI_eq (a := c) (b := ((xs.length + 8) / 64 + 1) - 1) (by omega) (by omega)).mpr h9)
          refine r_aload_n C dX2_hash_78 rfl ?_
          refine r_callVv C (As := []) (rest := []) dX2_hash_79 (cX2_mixWords9 l_h l_wd n_h_wd (ws_ne n_h_wd ws_eq) ws_eq) okX2_mixWords mlRX2_39 imX2_mixWords seX2_mixWords ⟨by decide, by decide⟩ rfl rfl l_h (ws_ne n_h_wd ws_eq) rfl rfl (Nat.le_of_ble_eq_true rfl) (by decide) (by decide) (fun w9 h9 => ?_)
          obtain rfl := h9
          refine r_eq rfl rfl ((ws_comm n_h_wd).trans (congrArg (fun z => wset z wd (ia 16 f1)) ws_same)) ?_
          refine r_iinc C dX2_hash_82 (v := nI (c + 1)) (L' := [some (.ref h), some (.ref a), some (.ref a), some (.int (nI ((xs.length + 8) / 64 + 1))), some (.int (nI (c + 1)))]) rfl (nI_add c 1) (by decide) rfl ?_
          refine r_goto C 40 dX2_hash_85 (by decide) ?_
          exact ih_40 (c + 1) _ ((mdC f1 (vA, vB, vC, vD)).1) ((mdC f1 (vA, vB, vC, vD)).2.1) ((mdC f1 (vA, vB, vC, vD)).2.2.1) ((mdC f1 (vA, vB, vC, vD)).2.2.2) (by unfold nch at *; omega) (by unfold nch; omega) (by show mdC _ _ = mdC (mdW xs c) (mdX xs c); rw [← he]; exact mdC_congr (fun j hj => (hp1 j hj).trans (by unfold mdW; rw [if_neg (by unfold nch; omega)])) _)
        · skip
          have c_61 : c = (((xs.length + 8) / 64 + 1) - 1) := (nI_eq (a := c) (b := ((xs.length + 8) / 64 + 1) - 1) (by omega) (by omega)).mp c_61
          refine r_aload_n C dX2_hash_64 rfl ?_
          refine r_get C dX2_hash_65 fgRX2_7 l_h (ws_ne n_h_wd ws_eq) rfl ?_
          refine r_bipush C dX2_hash_68 (v := 14) (by decide) ?_
          refine r_bipush C dX2_hash_70 (v := 8) (by decide) ?_
          refine r_aload_n C dX2_hash_72 rfl ?_
          refine r_get C dX2_hash_73 fgRX2_30 l_a (ws_ne (Ne.symm n_wd_a) (ws_ne (Ne.symm n_h_a) w_a)) rfl ?_
          refine r_imul C dX2_hash_76 ?_
          refine r_top (y := nI (8 * xs.length)) (pk_mul 8 xs.length) ?_
          refine r_iastN C dX2_hash_77 l_wd ws_eq (j := 14) rfl (by omega) (by decide) ?_
          refine r_eq rfl rfl ws_same ?_
          refine r_aload_n C dX2_hash_78 rfl ?_
          refine r_callVv C (As := []) (rest := []) dX2_hash_79 (cX2_mixWords9 l_h l_wd n_h_wd (ws_ne n_h_wd ws_eq) ws_eq) okX2_mixWords mlRX2_39 imX2_mixWords seX2_mixWords ⟨by decide, by decide⟩ rfl rfl l_h (ws_ne n_h_wd ws_eq) rfl rfl (Nat.le_of_ble_eq_true rfl) (by decide) (by decide) (fun w9 h9 => ?_)
          obtain rfl := h9
          refine r_eq rfl rfl ((ws_comm n_h_wd).trans (congrArg (fun z => wset z wd (ia 16 (upd f1 14 (nI (8 * xs.length))))) ws_same)) ?_
          refine r_iinc C dX2_hash_82 (v := nI (c + 1)) (L' := [some (.ref h), some (.ref a), some (.ref a), some (.int (nI ((xs.length + 8) / 64 + 1))), some (.int (nI (c + 1)))]) rfl (nI_add c 1) (by decide) rfl ?_
          refine r_goto C 40 dX2_hash_85 (by decide) ?_
          exact ih_40 (c + 1) _ ((mdC (upd f1 14 (nI (8 * xs.length))) (vA, vB, vC, vD)).1) ((mdC (upd f1 14 (nI (8 * xs.length))) (vA, vB, vC, vD)).2.1) ((mdC (upd f1 14 (nI (8 * xs.length))) (vA, vB, vC, vD)).2.2.1) ((mdC (upd f1 14 (nI (8 * xs.length))) (vA, vB, vC, vD)).2.2.2) (by unfold nch at *; omega) (by unfold nch; omega) (by show mdC _ _ = mdC (mdW xs c) (mdX xs c); rw [← he]; exact mdC_congr (fun j hj => mdW_last hp1 (by unfold nch; omega) j hj) _)
  refine r_eq rfl rfl (ws_self (ws_ne (Ne.symm n_h_wd) w_wd)).symm ?_
  exact loop_40 _ 0 fw 1732584193 (-271733879) (-1732584194) 271733878 (Nat.lt_succ_self _) (Nat.zero_le _) rfl
end
section
/-! BLOCKS, as numbers -/
def swN : List Nat := [99, 124, 119, 123, 242, 107, 111, 197, 48, 1, 103, 43, 254, 215, 171, 118, 202, 130, 201, 125, 250, 89, 71, 240, 173, 212, 162, 175, 156, 164, 114, 192, 183, 253, 147, 38, 54, 63, 247, 204, 52, 165, 229, 241, 113, 216, 49, 21, 4, 199, 35, 195, 24, 150, 5, 154, 7, 18, 128, 226, 235, 39, 178, 117, 9, 131, 44, 26, 27, 110, 90, 160, 82, 59, 214, 179, 41, 227, 47, 132, 83, 209, 0, 237, 32, 252, 177, 91, 106, 203, 190, 57, 74, 76, 88, 207, 208, 239, 170, 251, 67, 77, 51, 133, 69, 249, 2, 127, 80, 60, 159, 168, 81, 163, 64, 143, 146, 157, 56, 245, 188, 182, 218, 33, 16, 255, 243, 210, 205, 12, 19, 236, 95, 151, 68, 23, 196, 167, 126, 61, 100, 93, 25, 115, 96, 129, 79, 220, 34, 42, 144, 136, 70, 238, 184, 20, 222, 94, 11, 219, 224, 50, 58, 10, 73, 6, 36, 92, 194, 211, 172, 98, 145, 149, 228, 121, 231, 200, 55, 109, 141, 213, 78, 169, 108, 86, 244, 234, 101, 122, 174, 8, 186, 120, 37, 46, 28, 166, 180, 198, 232, 221, 116, 31, 75, 189, 139, 138, 112, 62, 181, 102, 72, 3, 246, 14, 97, 53, 87, 185, 134, 193, 29, 158, 225, 248, 152, 17, 105, 217, 142, 148, 155, 30, 135, 233, 206, 85, 40, 223, 140, 161, 137, 13, 191, 230, 66, 104, 65, 153, 45, 15, 176, 84, 187, 22]
def bkN : List Nat := [82, 9, 106, 213, 48, 54, 165, 56, 191, 64, 163, 158, 129, 243, 215, 251, 124, 227, 57, 130, 155, 47, 255, 135, 52, 142, 67, 68, 196, 222, 233, 203, 84, 123, 148, 50, 166, 194, 35, 61, 238, 76, 149, 11, 66, 250, 195, 78, 8, 46, 161, 102, 40, 217, 36, 178, 118, 91, 162, 73, 109, 139, 209, 37, 114, 248, 246, 100, 134, 104, 152, 22, 212, 164, 92, 204, 93, 101, 182, 146, 108, 112, 72, 80, 253, 237, 185, 218, 94, 21, 70, 87, 167, 141, 157, 132, 144, 216, 171, 0, 140, 188, 211, 10, 247, 228, 88, 5, 184, 179, 69, 6, 208, 44, 30, 143, 202, 63, 15, 2, 193, 175, 189, 3, 1, 19, 138, 107, 58, 145, 17, 65, 79, 103, 220, 234, 151, 242, 207, 206, 240, 180, 230, 115, 150, 172, 116, 34, 231, 173, 53, 133, 226, 249, 55, 232, 28, 117, 223, 110, 71, 241, 26, 113, 29, 41, 197, 137, 111, 183, 98, 14, 170, 24, 190, 27, 252, 86, 62, 75, 198, 210, 121, 32, 154, 219, 192, 254, 120, 205, 90, 244, 31, 221, 168, 51, 136, 7, 199, 49, 177, 18, 16, 89, 39, 128, 236, 95, 96, 81, 127, 169, 25, 181, 74, 13, 45, 229, 122, 159, 147, 201, 156, 239, 160, 224, 59, 77, 174, 42, 245, 176, 200, 235, 187, 60, 131, 83, 153, 97, 23, 43, 4, 126, 186, 119, 214, 38, 225, 105, 20, 99, 85, 33, 12, 125]
def sw (x : Nat) : Nat := swN.getD x 0
def bk (x : Nat) : Nat := bkN.getD x 0
theorem swL_eq : swL = swN.map nI := by decide +kernel
theorem sw_tab (j : Nat) : tabf swL j = nI (sw j) := by
  unfold tabf sw
  rw [swL_eq]
  simp only [List.getD, List.getElem?_map]
  cases swN[j]? <;> rfl
theorem sw_lt (x : Nat) : sw x < 256 := by
  unfold sw
  by_cases h : x < swN.length
  · have : ∀ y ∈ swN, y < 256 := by decide +kernel
    simp only [List.getD, List.getElem?_eq_getElem h, Option.getD_some]
    exact this _ (List.getElem_mem _)
  · simp only [List.getD, List.getElem?_eq_none (Nat.le_of_not_lt h), Option.getD_none]
    decide
theorem bk_lt (x : Nat) : bk x < 256 := by
  unfold bk
  by_cases h : x < bkN.length
  · have : ∀ y ∈ bkN, y < 256 := by decide +kernel
    simp only [List.getD, List.getElem?_eq_getElem h, Option.getD_some]
    exact this _ (List.getElem_mem _)
  · simp only [List.getD, List.getElem?_eq_none (Nat.le_of_not_lt h), Option.getD_none]
    decide
theorem sw_bk : ∀ x, x < 256 → sw (bk x) = x := by decide +kernel
theorem bk_sw : ∀ x, x < 256 → bk (sw x) = x := by decide +kernel
/-- the product with 2 -/
def xt (b : Nat) : Nat := if b < 128 then 2 * b else (2 * b) ^^^ 283
theorem xt_lt : ∀ b, b < 256 → xt b < 256 := by decide +kernel
theorem and128 : ∀ b, b < 256 → ((nI b &&& 128 = 0) ↔ b < 128) := by decide +kernel
theorem shl1 {b : Nat} (h : b < 2 ^ 30) : nI b <<< ((1 : Int32) &&& 31) = nI (2 * b) := by
  rw [pk_shlN _ 1 (by decide) (by omega)]
  congr 1
  omega
/-- arrays of numbers -/
def nf (B : Nat → Nat) : Nat → Int32 := fun k => nI (B k)
theorem nf_at (B : Nat → Nat) (k : Nat) : nf B k = nI (B k) := rfl
def upn (B : Nat → Nat) (j x : Nat) : Nat → Nat := fun k => if k = j then x else B k
theorem upn_eq {B : Nat → Nat} {j x : Nat} : upn B j x j = x := if_pos rfl
theorem upn_ne {B : Nat → Nat} {j x k : Nat} (h : k ≠ j) : upn B j x k = B k := if_neg h
theorem upd_nf (B : Nat → Nat) (j x : Nat) : upd (nf B) j (nI x) = nf (upn B j x) := by
  funext k
  unfold upd nf upn
  split <;> rfl
theorem nf_of (f : Nat → Int32) : f = nf (fun k => (f k).toBitVec.toNat) := by
  funext k
  unfold nf
  apply Int32.toBitVec_inj.mp
  show _ = BitVec.ofNat 32 _
  simp
def addC (K : Nat → Nat) (r : Nat) (B : Nat → Nat) : Nat → Nat := fun k => if k < 16 then B k ^^^ K (16 * r + k) else B k
def swT (B : Nat → Nat) : Nat → Nat := fun k => if k < 16 then sw (B ((5 * k) % 16)) else B k
def swTB (B : Nat → Nat) : Nat → Nat := fun k => if k < 16 then bk (B ((13 * k) % 16)) else B k
def colm (p q s t r : Nat) : Nat := if r = 0 then (p ^^^ (((p ^^^ q) ^^^ s) ^^^ t)) ^^^ xt (p ^^^ q) else if r = 1 then (q ^^^ (((p ^^^ q) ^^^ s) ^^^ t)) ^^^ xt (q ^^^ s) else if r = 2 then (s ^^^ (((p ^^^ q) ^^^ s) ^^^ t)) ^^^ xt (s ^^^ t) else (t ^^^ (((p ^^^ q) ^^^ s) ^^^ t)) ^^^ xt (t ^^^ p)
def mixC (B : Nat → Nat) : Nat → Nat := fun k => if k < 16 then colm (B (k / 4 * 4)) (B (k / 4 * 4 + 1)) (B (k / 4 * 4 + 2)) (B (k / 4 * 4 + 3)) (k % 4) else B k
def evn (B : Nat → Nat) : Nat → Nat := fun k => if k < 16 then (if k % 2 = 0 then B k ^^^ xt (xt (B (k / 4 * 4) ^^^ B (k / 4 * 4 + 2))) else B k ^^^ xt (xt (B (k / 4 * 4 + 1) ^^^ B (k / 4 * 4 + 3)))) else B k
def unmixC (B : Nat → Nat) : Nat → Nat := mixC (evn B)
def b16 (B : Nat → Nat) : Prop := ∀ k, k < 16 → B k < 256
theorem b16_addC {K B : Nat → Nat} {r : Nat} (hK : ∀ k, k < 176 → K k < 256) (hr : r ≤ 10) (h : b16 B) : b16 (addC K r B) := fun k hk => by
  unfold addC
  rw [if_pos hk]
  exact xor_lt (h k hk) (hK _ (by omega))
theorem b16_swT {B : Nat → Nat} : b16 (swT B) := fun k hk => by
  unfold swT
  rw [if_pos hk]
  exact sw_lt _
theorem b16_swTB {B : Nat → Nat} : b16 (swTB B) := fun k hk => by
  unfold swTB
  rw [if_pos hk]
  exact bk_lt _
theorem colm_lt {p q s t r : Nat} (hp : p < 256) (hq : q < 256) (hs : s < 256) (ht : t < 256) : colm p q s t r < 256 := by
  unfold colm
  have ha : (((p ^^^ q) ^^^ s) ^^^ t) < 256 := xor_lt (xor_lt (xor_lt hp hq) hs) ht
  split
  · exact xor_lt (xor_lt hp ha) (xt_lt _ (xor_lt hp hq))
  · split
    · exact xor_lt (xor_lt hq ha) (xt_lt _ (xor_lt hq hs))
    · split
      · exact xor_lt (xor_lt hs ha) (xt_lt _ (xor_lt hs ht))
      · exact xor_lt (xor_lt ht ha) (xt_lt _ (xor_lt ht hp))
theorem b16_mixC {B : Nat → Nat} (h : b16 B) : b16 (mixC B) := fun k hk => by
  unfold mixC
  rw [if_pos hk]
  exact colm_lt (h _ (by omega)) (h _ (by omega)) (h _ (by omega)) (h _ (by omega))
theorem b16_evn {B : Nat → Nat} (h : b16 B) : b16 (evn B) := fun k hk => by
  unfold evn
  rw [if_pos hk]
  split
  · exact xor_lt (h k hk) (xt_lt _ (xt_lt _ (xor_lt (h _ (by omega)) (h _ (by omega)))))
  · exact xor_lt (h k hk) (xt_lt _ (xt_lt _ (xor_lt (h _ (by omega)) (h _ (by omega)))))
theorem b16_unmixC {B : Nat → Nat} (h : b16 B) : b16 (unmixC B) := b16_mixC (b16_evn h)
/-- a column's four places, written one after the other -/
theorem col4 {B1 G : Nat → Nat} {c x0 x1 x2 x3 : Nat} (h : ∀ k, k < 4 * c → B1 k = G k) (h0 : x0 = G (4 * c)) (h1 : x1 = G (4 * c + 1)) (h2 : x2 = G (4 * c + 2)) (h3 : x3 = G (4 * c + 3)) : ∀ k, k < 4 * (c + 1) → upn (upn (upn (upn B1 (4 * c) x0) (4 * c + 1) x1) (4 * c + 2) x2) (4 * c + 3) x3 k = G k := by
  intro k hk
  unfold upn
  by_cases e3 : k = 4 * c + 3
  · rw [if_pos e3, h3, e3]
  · rw [if_neg e3]
    by_cases e2 : k = 4 * c + 2
    · rw [if_pos e2, h2, e2]
    · rw [if_neg e2]
      by_cases e1 : k = 4 * c + 1
      · rw [if_pos e1, h1, e1]
      · rw [if_neg e1]
        by_cases e0 : k = 4 * c
        · rw [if_pos e0, h0, e0]
        · rw [if_neg e0]
          exact h k (by omega)
theorem col4' {B1 B : Nat → Nat} {c x0 x1 x2 x3 : Nat} (h : ∀ k, 4 * c ≤ k → B1 k = B k) : ∀ k, 4 * (c + 1) ≤ k → upn (upn (upn (upn B1 (4 * c) x0) (4 * c + 1) x1) (4 * c + 2) x2) (4 * c + 3) x3 k = B k := by
  intro k hk
  unfold upn
  rw [if_neg (by omega), if_neg (by omega), if_neg (by omega), if_neg (by omega)]
  exact h k (by omega)
theorem mixC_col (B : Nat → Nat) {c r : Nat} (hc : c < 4) (hr : r < 4) : mixC B (4 * c + r) = colm (B (4 * c)) (B (4 * c + 1)) (B (4 * c + 2)) (B (4 * c + 3)) r := by
  unfold mixC
  rw [if_pos (by omega), show (4 * c + r) / 4 * 4 = 4 * c by omega, show (4 * c + r) % 4 = r by omega]
theorem evn_0 (B : Nat → Nat) {c r : Nat} (hc : c < 4) (hr : r = 0 ∨ r = 2) : evn B (4 * c + r) = B (4 * c + r) ^^^ xt (xt (B (4 * c) ^^^ B (4 * c + 2))) := by
  unfold evn
  rw [if_pos (by omega), if_pos (by omega), show (4 * c + r) / 4 * 4 = 4 * c by omega]
theorem evn_1 (B : Nat → Nat) {c r : Nat} (hc : c < 4) (hr : r = 1 ∨ r = 3) : evn B (4 * c + r) = B (4 * c + r) ^^^ xt (xt (B (4 * c + 1) ^^^ B (4 * c + 3))) := by
  unfold evn
  rw [if_pos (by omega), if_neg (by omega), show (4 * c + r) / 4 * 4 = 4 * c by omega]
theorem fun_lh {B1 B G : Nat → Nat} {n : Nat} (h1 : ∀ k, k < n → B1 k = G k) (h2 : ∀ k, n ≤ k → B1 k = B k) (h3 : ∀ k, n ≤ k → G k = B k) : B1 = G := by
  funext k
  by_cases h : k < n
  · exact h1 k h
  · rw [h2 k (by omega), h3 k (by omega)]
theorem mixC_hi (B : Nat → Nat) : ∀ k, 16 ≤ k → mixC B k = B k := fun k h => if_neg (by omega)
theorem evn_hi (B : Nat → Nat) : ∀ k, 16 ≤ k → evn B k = B k := fun k h => if_neg (by omega)
theorem addC_hi (K B : Nat → Nat) (r : Nat) : ∀ k, 16 ≤ k → addC K r B k = B k := fun k h => if_neg (by omega)
theorem swT_hi (B : Nat → Nat) : ∀ k, 16 ≤ k → swT B k = B k := fun k h => if_neg (by omega)
theorem upn_lt {B1 G : Nat → Nat} {i x : Nat} (h : ∀ k, k < i → B1 k = G k) (hx : x = G i) : ∀ k, k < i + 1 → upn B1 i x k = G k := by
  intro k hk
  unfold upn
  by_cases e : k = i
  · rw [if_pos e, e, hx]
  · rw [if_neg e]
    exact h k (by omega)
theorem upn_ge {B1 B : Nat → Nat} {i x : Nat} (h : ∀ k, i ≤ k → B1 k = B k) : ∀ k, i + 1 ≤ k → upn B1 i x k = B k := by
  intro k hk
  unfold upn
  rw [if_neg (by omega)]
  exact h k (by omega)
theorem cpy16 {B : Nat → Nat} {g : Nat → Int32} {j : Nat} (h : j < 16) : va_cpy (nf B) g 0 0 16 j = nI (B j) := by
  rw [pk_cpy_in (Nat.zero_le _) (by omega)]
  simp [nf]
/-- making and undoing a block -/
def mkR (K : Nat → Nat) : Nat → (Nat → Nat) → (Nat → Nat)
  | 0, B => addC K 0 B
  | r + 1, B => addC K (r + 1) (if r + 1 < 10 then mixC (swT (mkR K r B)) else swT (mkR K r B))
def mkB (K : Nat → Nat) (B : Nat → Nat) : Nat → Nat := mkR K 10 B
/-- round r .. 1 undone -/
def umR (K : Nat → Nat) : Nat → (Nat → Nat) → (Nat → Nat)
  | 0, B => B
  | r + 1, B => swTB (if 10 - r < 10 then unmixC (addC K (10 - r) (umR K r B)) else addC K (10 - r) (umR K r B))
def umB (K : Nat → Nat) (B : Nat → Nat) : Nat → Nat := addC K 0 (umR K 10 B)
theorem b16_mkR {K B : Nat → Nat} (hK : ∀ k, k < 176 → K k < 256) (h : b16 B) : ∀ r, r ≤ 10 → b16 (mkR K r B)
  | 0, _ => b16_addC hK (by omega) h
  | r + 1, hr => by
    unfold mkR
    refine b16_addC hK hr ?_
    split
    · exact b16_mixC b16_swT
    · exact b16_swT
theorem b16_umR {K B : Nat → Nat} (hK : ∀ k, k < 176 → K k < 256) (h : b16 B) : ∀ r, r ≤ 10 → b16 (umR K r B)
  | 0, _ => h
  | r + 1, hr => by
    unfold umR
    exact b16_swTB
/-- the key's columns -/
def exS (K0 : Nat → Nat) : Nat → (Nat → Nat) × Nat
  | 0 => (K0, 1)
  | c + 1 => if c % 4 = 0 then (upn (upn (upn (upn (exS K0 c).1 (4 * (c + 4)) (((exS K0 c).1 (4 * (c + 4) - 16) ^^^ sw ((exS K0 c).1 (4 * (c + 4) - 3))) ^^^ (exS K0 c).2)) (4 * (c + 4) + 1) ((exS K0 c).1 (4 * (c + 4) - 15) ^^^ sw ((exS K0 c).1 (4 * (c + 4) - 2)))) (4 * (c + 4) + 2) ((exS K0 c).1 (4 * (c + 4) - 14) ^^^ sw ((exS K0 c).1 (4 * (c + 4) - 1)))) (4 * (c + 4) + 3) ((exS K0 c).1 (4 * (c + 4) - 13) ^^^ sw ((exS K0 c).1 (4 * (c + 4) - 4))), xt (exS K0 c).2)
    else (fun k => if 4 * (c + 4) ≤ k ∧ k < 4 * (c + 4) + 4 then (exS K0 c).1 (k - 16) ^^^ (exS K0 c).1 (k - 4) else (exS K0 c).1 k, (exS K0 c).2)
def kx (ys : List Nat) : Nat → Nat := (exS (fun k => ys.getD k 0) 40).1
theorem exS_lt {K0 : Nat → Nat} (h0 : ∀ k, K0 k < 256) : ∀ c, (∀ k, (exS K0 c).1 k < 256) ∧ (exS K0 c).2 < 256
  | 0 => ⟨h0, by show 1 < 256; decide⟩
  | c + 1 => by
    obtain ⟨h1, h2⟩ := exS_lt h0 c
    unfold exS
    split
    · refine ⟨fun k => ?_, xt_lt _ h2⟩
      show upn _ _ _ k < 256
      unfold upn
      split
      · exact xor_lt (h1 _) (sw_lt _)
      · split
        · exact xor_lt (h1 _) (sw_lt _)
        · split
          · exact xor_lt (h1 _) (sw_lt _)
          · split
            · exact xor_lt (xor_lt (h1 _) (sw_lt _)) h2
            · exact h1 k
    · refine ⟨fun k => ?_, h2⟩
      show (if _ then _ else _) < 256
      split
      · exact xor_lt (h1 _) (h1 _)
      · exact h1 k
theorem kx_lt {ys : List Nat} (h : byt ys) (k : Nat) : kx ys k < 256 := (exS_lt (fun k => byt_getD h k) 40).1 k
end
section
theorem r_iastF {g : Ge} {q : Mi} {ct : Ct} {k n pc : Nat} {L : Lo} {st : List Value} {w : Wo} (C : Cx g q ct) {a N j x : Nat} {B : Nat → Nat} {i v : Int32} (hd : decode q.2.1 pc = .ok (.iastore, 1)) (ha : a < NW) (hw : w a = ia N (nf B)) (hi : i = nI j) (hv : v = nI x) (hj : j < N) (hN : N < 2 ^ 31) (kk : Az g q ct k n (pc + 1) L st (wset w a (ia N (nf (upn B j x))))) : Az g q ct k n pc L (.int v :: .int i :: .ref a :: st) w := by
  subst hv
  refine r_iastN C hd ha hw hi hj hN ?_
  rw [upd_nf]
  exact kk
theorem load_eq {f fb : Nat → Int32} {xs : List Nat} {q0 : Nat} (h : hs f xs) (hl : q0 + 16 ≤ xs.length) : va_cpy f fb q0 0 16 = nf (fun k => if k < 16 then xs.getD (q0 + k) 0 else (fb k).toBitVec.toNat) := by
  funext k
  by_cases hk : k < 16
  · rw [pk_cpy_in (Nat.zero_le _) (by omega)]
    show _ = nI (if k < 16 then _ else _)
    rw [if_pos hk, h _ (by omega), Nat.sub_zero]
  · rw [pk_cpy_out (Or.inr (by omega))]
    show _ = nI (if k < 16 then _ else _)
    rw [if_neg hk]
    exact congrFun (nf_of fb) k
set_option maxHeartbeats 4000000 in
set_option maxRecDepth 100000 in
theorem cX0_twice9 {w : Wo} {b : Nat} (hb : b < 256) : Ctr mX0_twice [.int (nI b)] w (PI fun r w' => w' = w ∧ r = nI (xt b)) := by
  refine Ctr_intro okX0_twice rfl (Nat.le_of_ble_eq_true rfl) (L := [some (.int (nI b))]) rfl (fun g ct C T_ => ?_)
  refine r_iload_n C dX0_twice_0 rfl ?_
  refine r_sipush C dX0_twice_1 (v := 128) (by decide) ?_
  refine r_iand C dX0_twice_4 ?_
  refine r_if_ne C 14 dX0_twice_5 (by decide) (fun c_5 => ?_) (fun c_5 => ?_)
  · skip
    refine r_iload_n C dX0_twice_14 rfl ?_
    refine r_iconst C dX0_twice_15 (v := 1) (by decide) ?_
    refine r_ishl C dX0_twice_16 ?_
    refine r_top (y := nI (2 * b)) (shl1 (by omega)) ?_
    refine r_sipush C dX0_twice_17 (v := 283) (by decide) ?_
    refine r_ixor C dX0_twice_20 ?_
    refine r_top (y := nI ((2 * b) ^^^ 283)) (nx_xor9 (2 * b) 283) ?_
    exact r_ireturn C T_ rfl rfl dX0_twice_21 (⟨_, rfl, rfl, by unfold xt; first | rw [if_pos ((and128 b hb).mp c_5)] | rw [if_neg (fun z => c_5 ((and128 b hb).mpr z))]⟩)
  · skip
    refine r_iload_n C dX0_twice_8 rfl ?_
    refine r_iconst C dX0_twice_9 (v := 1) (by decide) ?_
    refine r_ishl C dX0_twice_10 ?_
    refine r_top (y := nI (2 * b)) (shl1 (by omega)) ?_
    refine r_goto C 21 dX0_twice_11 (by decide) ?_
    exact r_ireturn C T_ rfl rfl dX0_twice_21 (⟨_, rfl, rfl, by unfold xt; first | rw [if_pos ((and128 b hb).mp c_5)] | rw [if_neg (fun z => c_5 ((and128 b hb).mpr z))]⟩)
set_option maxHeartbeats 4000000 in
set_option maxRecDepth 100000 in
theorem cX0_fits9 {w : Wo} {a b : Nat} (l_a : a < NW) (l_b : b < NW) (n_a_b : a ≠ b) {n : Nat} {f : Nat → Int32} {xs : List Nat} (w_a : w a = ob 3 [.ref b, .int (nI xs.length)]) (w_b : w b = ia n f) (h_xs : hs f xs) (k_xs : xs.length ≤ n) (hn : n < 2 ^ 31) {q0 : Nat} (hq : q0 + 16 ≤ n) : Ctr mX0_fits [.ref a, .int (nI q0)] w (PI fun r w' => w' = w ∧ r = 1) := by
  refine Ctr_intro okX0_fits rfl (Nat.le_of_ble_eq_true rfl) (L := [some (.ref a), some (.int (nI q0))]) rfl (fun g ct C T_ => ?_)
  refine r_iload_n C dX0_fits_0 rfl ?_
  refine r_if_lt C 20 dX0_fits_1 (by decide) (fun c_1 => ?_) (fun c_1 => ?_)
  · skip
    exact absurd c_1 (nI_pos (by omega))
  · skip
    refine r_iload_n C dX0_fits_4 rfl ?_
    refine r_aload_n C dX0_fits_5 rfl ?_
    refine r_get C dX0_fits_6 fgRX0_33 l_a w_a rfl ?_
    refine r_alen C dX0_fits_9 l_b w_b ?_
    refine r_bipush C dX0_fits_10 (v := 16) (by decide) ?_
    refine r_isub C dX0_fits_12 ?_
    refine r_top (y := nI (n - 16)) (pk_sub (a := n) (b := 16) (by omega)) ?_
    refine r_icmp_gt C 20 dX0_fits_13 (by decide) (fun c_13 => ?_) (fun c_13 => ?_)
    · skip
      exact absurd c_13 (nI_nlt (by omega) (by omega))
    · skip
      have c_13 : ¬ ((n - 16) < q0) := fun h9 => c_13 ((nI_ltI (a := n - 16) (b := q0) (by omega) (by omega)).mpr h9)
      refine r_iconst C dX0_fits_16 (v := 1) (by decide) ?_
      refine r_goto C 21 dX0_fits_17 (by decide) ?_
      exact r_ireturn C T_ rfl (by decide) dX0_fits_21 (⟨_, rfl, rfl, rfl⟩)
set_option maxHeartbeats 4000000 in
set_option maxRecDepth 100000 in
theorem cX0_loadFrom9 {w : Wo} {o bl a b : Nat} (l_o : o < NW) (l_bl : bl < NW) (l_a : a < NW) (l_b : b < NW) (n_o_bl : o ≠ bl) (n_o_a : o ≠ a) (n_o_b : o ≠ b) (n_bl_a : bl ≠ a) (n_bl_b : bl ≠ b) (n_a_b : a ≠ b) {sb cl be : Nat} (w_o : w o = ob 0 [.ref sb, .ref cl, .ref bl, .ref be]) {fb : Nat → Int32} (w_bl : w bl = ia 16 fb) {n : Nat} {f : Nat → Int32} {xs : List Nat} (w_a : w a = ob 3 [.ref b, .int (nI xs.length)]) (w_b : w b = ia n f) (h_xs : hs f xs) (k_xs : xs.length ≤ n) (hn : n < 2 ^ 31) {q0 : Nat} (hq : q0 + 16 ≤ n) (hl : q0 + 16 ≤ xs.length) : Ctr mX0_loadFrom [.ref o, .ref a, .int (nI q0)] w (PV fun w' => ∃ B, w' = wset w bl (ia 16 (nf B)) ∧ ∀ k, k < 16 → B k = xs.getD (q0 + k) 0) := by
  refine Ctr_intro okX0_loadFrom rfl (Nat.le_of_ble_eq_true rfl) (L := [some (.ref o), some (.ref a), some (.int (nI q0))]) rfl (fun g ct C T_ => ?_)
  refine r_aload_n C dX0_loadFrom_0 rfl ?_
  refine r_iload_n C dX0_loadFrom_1 rfl ?_
  refine r_callSi C (As := [.ref a, .int (nI q0)]) (rest := []) dX0_loadFrom_2 (cX0_fits9 l_a l_b n_a_b w_a w_b h_xs k_xs hn (q0 := q0) hq) okX0_fits mlRX0_40 stX0_fits ⟨by decide, by decide⟩ rfl rfl (Nat.le_of_ble_eq_true rfl) (by decide) (by decide) (fun r1 w9 h9 => ?_)
  obtain ⟨e9, rfl⟩ := h9
  have e9 := e9.symm
  subst e9
  refine r_if_eq C 23 dX0_loadFrom_5 (by decide) (fun c_5 => ?_) (fun c_5 => ?_)
  · skip
    exact absurd c_5 (by decide)
  · skip
    refine r_aload_n C dX0_loadFrom_8 rfl ?_
    refine r_get C dX0_loadFrom_9 fgRX0_33 l_a w_a rfl ?_
    refine r_iload_n C dX0_loadFrom_12 rfl ?_
    refine r_aload_n C dX0_loadFrom_13 rfl ?_
    refine r_get C dX0_loadFrom_14 fgRX0_18 l_o w_o rfl ?_
    refine r_iconst C dX0_loadFrom_17 (v := 0) (by decide) ?_
    refine r_bipush C dX0_loadFrom_18 (v := 16) (by decide) ?_
    refine r_copyN C dX0_loadFrom_20 mlRX0_44 jn_copy_native jn_copy_static jn_sys_init l_b w_b l_bl w_bl (sn := q0) (dn := 0) (ln := 16) rfl rfl rfl (by omega) (by omega) (by omega) (by omega) (by omega) (by decide) (Nat.le_of_ble_eq_true rfl) ?_
    exact r_return C T_ rfl dX0_loadFrom_23 (⟨rfl, fun k => if k < 16 then xs.getD (q0 + k) 0 else (fb k).toBitVec.toNat, by rw [load_eq h_xs hl], fun k hk => if_pos hk⟩)
set_option maxHeartbeats 4000000 in
set_option maxRecDepth 100000 in
theorem cX0_addFrom9 {w : Wo} {o bl a b : Nat} (l_o : o < NW) (l_bl : bl < NW) (l_a : a < NW) (l_b : b < NW) (n_o_bl : o ≠ bl) (n_o_a : o ≠ a) (n_o_b : o ≠ b) (n_bl_a : bl ≠ a) (n_bl_b : bl ≠ b) (n_a_b : a ≠ b) {sb cl be : Nat} (w_o : w o = ob 0 [.ref sb, .ref cl, .ref bl, .ref be]) {B : Nat → Nat} (w_bl : w bl = ia 16 (nf B)) {n : Nat} {f : Nat → Int32} {xs : List Nat} (w_a : w a = ob 3 [.ref b, .int (nI xs.length)]) (w_b : w b = ia n f) (h_xs : hs f xs) (k_xs : xs.length ≤ n) (hn : n < 2 ^ 31) {q0 : Nat} (hq : q0 + 16 ≤ n) (hl : q0 + 16 ≤ xs.length) : Ctr mX0_addFrom [.ref o, .ref a, .int (nI q0)] w (PV fun w' => ∃ B', w' = wset w bl (ia 16 (nf B')) ∧ ∀ k, k < 16 → B' k = B k ^^^ xs.getD (q0 + k) 0) := by
  refine Ctr_intro okX0_addFrom rfl (Nat.le_of_ble_eq_true rfl) (L := [some (.ref o), some (.ref a), some (.int (nI q0)), none]) rfl (fun g ct C T_ => ?_)
  refine r_aload_n C dX0_addFrom_0 rfl ?_
  refine r_iload_n C dX0_addFrom_1 rfl ?_
  refine r_callSi C (As := [.ref a, .int (nI q0)]) (rest := []) dX0_addFrom_2 (cX0_fits9 l_a l_b n_a_b w_a w_b h_xs k_xs hn (q0 := q0) hq) okX0_fits mlRX0_40 stX0_fits ⟨by decide, by decide⟩ rfl rfl (Nat.le_of_ble_eq_true rfl) (by decide) (by decide) (fun r1 w9 h9 => ?_)
  obtain ⟨e9, rfl⟩ := h9
  have e9 := e9.symm
  subst e9
  refine r_if_eq C 39 dX0_addFrom_5 (by decide) (fun c_5 => ?_) (fun c_5 => ?_)
  · skip
    exact absurd c_5 (by decide)
  · skip
    refine r_iconst C dX0_addFrom_8 (v := 0) (by decide) ?_
    refine r_istore_n C dX0_addFrom_9 (L' := [some (.ref o), some (.ref a), some (.int (nI q0)), some (.int 0)]) (by decide) rfl ?_
    have loop_10 : ∀ (d9 : Nat) (i : Nat) (B1 : Nat → Nat), 16 - i < d9 → i ≤ 16 → (∀ k, k < i → B1 k = B k ^^^ xs.getD (q0 + k) 0) → (∀ k, i ≤ k → B1 k = B k) → Az g mX0_addFrom ct 0 0 10 [some (.ref o), some (.ref a), some (.int (nI q0)), some (.int (nI i))] [] (wset w bl (ia 16 (nf B1))) := by
      intro d9
      induction d9 with
      | zero => intro i B1 hd9; exact absurd hd9 (Nat.not_lt_zero _)
      | succ d9 ih_10 =>
        intro i B1 hd9 hi h1 h2
        refine r_iload_n C dX0_addFrom_10 rfl ?_
        refine r_bipush C dX0_addFrom_11 (v := 16) (by decide) ?_
        refine r_icmp_ge C 39 dX0_addFrom_13 (by decide) (fun c_13 => ?_) (fun c_13 => ?_)
        · skip
          have c_13 : 16 ≤ i := (nI_leI (a := 16) (b := i) (by omega) (by omega)).mp c_13
          exact r_return C T_ rfl dX0_addFrom_39 (⟨rfl, B1, rfl, fun k hk => h1 k (by omega)⟩)
        · skip
          have c_13 : ¬ (16 ≤ i) := fun h9 => c_13 ((nI_leI (a := 16) (b := i) (by omega) (by omega)).mpr h9)
          refine r_aload_n C dX0_addFrom_16 rfl ?_
          refine r_get C dX0_addFrom_17 fgRX0_18 l_o (ws_ne n_o_bl w_o) rfl ?_
          refine r_iload_n C dX0_addFrom_20 rfl ?_
          refine r_dup2 C dX0_addFrom_21 rfl rfl ?_
          refine r_ialdN C dX0_addFrom_22 l_bl ws_eq (j := i) rfl (by omega) (by decide) ?_
          refine r_top (y := nI (B1 i)) (nf_at B1 i) ?_
          refine r_aload_n C dX0_addFrom_23 rfl ?_
          refine r_get C dX0_addFrom_24 fgRX0_33 l_a (ws_ne (Ne.symm n_bl_a) w_a) rfl ?_
          refine r_iload_n C dX0_addFrom_27 rfl ?_
          refine r_iload_n C dX0_addFrom_28 rfl ?_
          refine r_iadd C dX0_addFrom_29 ?_
          refine r_top (y := nI (q0 + i)) (nI_add q0 i) ?_
          refine r_ialdN C dX0_addFrom_30 l_b (ws_ne (Ne.symm n_bl_b) w_b) (j := q0 + i) rfl (by omega) (by omega) ?_
          refine r_top (y := nI (xs.getD (q0 + i) 0)) (h_xs (q0 + i) (by omega)) ?_
          refine r_ixor C dX0_addFrom_31 ?_
          refine r_top (y := nI ((B1 i) ^^^ (xs.getD (q0 + i) 0))) (nx_xor9 (B1 i) (xs.getD (q0 + i) 0)) ?_
          refine r_iastF C dX0_addFrom_32 l_bl ws_eq (j := i) (x := (B1 i) ^^^ (xs.getD (q0 + i) 0)) rfl rfl (by omega) (by decide) ?_
          refine r_eq rfl rfl ws_same ?_
          refine r_iinc C dX0_addFrom_33 (v := nI (i + 1)) (L' := [some (.ref o), some (.ref a), some (.int (nI q0)), some (.int (nI (i + 1)))]) rfl (nI_add i 1) (by decide) rfl ?_
          refine r_goto C 10 dX0_addFrom_36 (by decide) ?_
          exact ih_10 (i + 1) _ (by omega) (by omega) (upn_lt h1 (by rw [h2 i (Nat.le_refl _)])) (upn_ge h2)
    refine r_eq rfl rfl (ws_self w_bl).symm ?_
    exact loop_10 _ 0 B (Nat.lt_succ_self _) (by omega) (fun k hk => absurd hk (Nat.not_lt_zero k)) (fun k hk => rfl)
set_option maxHeartbeats 4000000 in
set_option maxRecDepth 100000 in
theorem cX0_storeTo9 {w : Wo} {o bl a b : Nat} (l_o : o < NW) (l_bl : bl < NW) (l_a : a < NW) (l_b : b < NW) (n_o_bl : o ≠ bl) (n_o_a : o ≠ a) (n_o_b : o ≠ b) (n_bl_a : bl ≠ a) (n_bl_b : bl ≠ b) (n_a_b : a ≠ b) {sb cl be : Nat} (w_o : w o = ob 0 [.ref sb, .ref cl, .ref bl, .ref be]) {B : Nat → Nat} (w_bl : w bl = ia 16 (nf B)) {n : Nat} {f : Nat → Int32} {xs : List Nat} (w_a : w a = ob 3 [.ref b, .int (nI xs.length)]) (w_b : w b = ia n f) (h_xs : hs f xs) (k_xs : xs.length ≤ n) (hn : n < 2 ^ 31) {q0 : Nat} (hq : q0 + 16 ≤ n) : Ctr mX0_storeTo [.ref o, .ref a, .int (nI q0)] w (PV fun w' => w' = wset w b (ia n (va_cpy (nf B) f 0 q0 16))) := by
  refine Ctr_intro okX0_storeTo rfl (Nat.le_of_ble_eq_true rfl) (L := [some (.ref o), some (.ref a), some (.int (nI q0))]) rfl (fun g ct C T_ => ?_)
  refine r_aload_n C dX0_storeTo_0 rfl ?_
  refine r_iload_n C dX0_storeTo_1 rfl ?_
  refine r_callSi C (As := [.ref a, .int (nI q0)]) (rest := []) dX0_storeTo_2 (cX0_fits9 l_a l_b n_a_b w_a w_b h_xs k_xs hn (q0 := q0) hq) okX0_fits mlRX0_40 stX0_fits ⟨by decide, by decide⟩ rfl rfl (Nat.le_of_ble_eq_true rfl) (by decide) (by decide) (fun r1 w9 h9 => ?_)
  obtain ⟨e9, rfl⟩ := h9
  have e9 := e9.symm
  subst e9
  refine r_if_eq C 23 dX0_storeTo_5 (by decide) (fun c_5 => ?_) (fun c_5 => ?_)
  · skip
    exact absurd c_5 (by decide)
  · skip
    refine r_aload_n C dX0_storeTo_8 rfl ?_
    refine r_get C dX0_storeTo_9 fgRX0_18 l_o w_o rfl ?_
    refine r_iconst C dX0_storeTo_12 (v := 0) (by decide) ?_
    refine r_aload_n C dX0_storeTo_13 rfl ?_
    refine r_get C dX0_storeTo_14 fgRX0_33 l_a w_a rfl ?_
    refine r_iload_n C dX0_storeTo_17 rfl ?_
    refine r_bipush C dX0_storeTo_18 (v := 16) (by decide) ?_
    refine r_copyN C dX0_storeTo_20 mlRX0_44 jn_copy_native jn_copy_static jn_sys_init l_bl w_bl l_b w_b (sn := 0) (dn := q0) (ln := 16) rfl rfl rfl (by omega) (by omega) (by omega) (by omega) (by omega) (by decide) (Nat.le_of_ble_eq_true rfl) ?_
    exact r_return C T_ rfl dX0_storeTo_23 (⟨rfl, rfl⟩)
/-- how many bytes at the block's end fill it up -/
noncomputable def filB (B : Nat → Nat) : Nat := @ite Nat (1 ≤ B 15 ∧ B 15 ≤ 16 ∧ ∀ m, m < 16 → 16 - B 15 ≤ m → B m = B 15) (Classical.propDecidable _) (B 15) 0
set_option maxHeartbeats 4000000 in
set_option maxRecDepth 100000 in
theorem cX0_filling9 {w : Wo} {o bl : Nat} (l_o : o < NW) (l_bl : bl < NW) (n_o_bl : o ≠ bl) {sb cl be : Nat} (w_o : w o = ob 0 [.ref sb, .ref cl, .ref bl, .ref be]) {B : Nat → Nat} (w_bl : w bl = ia 16 (nf B)) (hB : b16 B) : Ctr mX0_filling [.ref o] w (PI fun r w' => w' = w ∧ r = nI (filB B)) := by
  refine Ctr_intro okX0_filling rfl (Nat.le_of_ble_eq_true rfl) (L := [some (.ref o), none, none]) rfl (fun g ct C T_ => ?_)
  have hB15 := hB 15 (by decide)
  refine r_aload_n C dX0_filling_0 rfl ?_
  refine r_get C dX0_filling_1 fgRX0_18 l_o w_o rfl ?_
  refine r_bipush C dX0_filling_4 (v := 15) (by decide) ?_
  refine r_ialdN C dX0_filling_6 l_bl w_bl (j := 15) rfl (by omega) (by decide) ?_
  refine r_top (y := nI (B 15)) (nf_at B 15) ?_
  refine r_istore_n C dX0_filling_7 (L' := [some (.ref o), some (.int (nI (B 15))), none]) (by decide) rfl ?_
  refine r_iload_n C dX0_filling_8 rfl ?_
  refine r_iconst C dX0_filling_9 (v := 1) (by decide) ?_
  refine r_icmp_lt C 19 dX0_filling_10 (by decide) (fun c_10 => ?_) (fun c_10 => ?_)
  · skip
    have c_10 : (B 15) < 1 := (nI_ltI (a := B 15) (b := 1) (by omega) (by omega)).mp c_10
    refine r_iconst C dX0_filling_19 (v := 0) (by decide) ?_
    exact r_ireturn C T_ rfl rfl dX0_filling_20 (⟨_, rfl, rfl, by unfold filB; rw [if_neg (by omega)]; rfl⟩)
  · skip
    have c_10 : ¬ ((B 15) < 1) := fun h9 => c_10 ((nI_ltI (a := B 15) (b := 1) (by omega) (by omega)).mpr h9)
    refine r_iload_n C dX0_filling_13 rfl ?_
    refine r_bipush C dX0_filling_14 (v := 16) (by decide) ?_
    refine r_icmp_le C 21 dX0_filling_16 (by decide) (fun c_16 => ?_) (fun c_16 => ?_)
    · skip
      have c_16 : (B 15) ≤ 16 := (nI_leI (a := B 15) (b := 16) (by omega) (by omega)).mp c_16
      refine r_bipush C dX0_filling_21 (v := 16) (by decide) ?_
      refine r_iload_n C dX0_filling_23 rfl ?_
      refine r_isub C dX0_filling_24 ?_
      refine r_top (y := nI (16 - (B 15))) (pk_sub (a := 16) (b := B 15) (by omega)) ?_
      refine r_istore_n C dX0_filling_25 (L' := [some (.ref o), some (.int (nI (B 15))), some (.int (nI (16 - (B 15))))]) (by decide) rfl ?_
      have loop_26 : ∀ (d9 : Nat) (k : Nat), 16 - k < d9 → 16 - B 15 ≤ k → k ≤ 16 → (∀ m, 16 - B 15 ≤ m → m < k → B m = B 15) → Az g mX0_filling ct 0 0 26 [some (.ref o), some (.int (nI (B 15))), some (.int (nI k))] [] w := by
        intro d9
        induction d9 with
        | zero => intro k hd9; exact absurd hd9 (Nat.not_lt_zero _)
        | succ d9 ih_26 =>
          intro k hd9 hk hk2 hq
          refine r_iload_n C dX0_filling_26 rfl ?_
          refine r_bipush C dX0_filling_27 (v := 16) (by decide) ?_
          refine r_icmp_ge C 50 dX0_filling_29 (by decide) (fun c_29 => ?_) (fun c_29 => ?_)
          · skip
            have c_29 : 16 ≤ k := (nI_leI (a := 16) (b := k) (by omega) (by omega)).mp c_29
            refine r_iload_n C dX0_filling_50 rfl ?_
            exact r_ireturn C T_ rfl rfl dX0_filling_51 (⟨_, rfl, rfl, by unfold filB; rw [if_pos ⟨by omega, by omega, fun m h1 h2 => hq m h2 (by omega)⟩]⟩)
          · skip
            have c_29 : ¬ (16 ≤ k) := fun h9 => c_29 ((nI_leI (a := 16) (b := k) (by omega) (by omega)).mpr h9)
            refine r_aload_n C dX0_filling_32 rfl ?_
            refine r_get C dX0_filling_33 fgRX0_18 l_o w_o rfl ?_
            refine r_iload_n C dX0_filling_36 rfl ?_
            refine r_ialdN C dX0_filling_37 l_bl w_bl (j := k) rfl (by omega) (by decide) ?_
            refine r_top (y := nI (B k)) (nf_at B k) ?_
            have hBk := hB k (by omega)
            refine r_iload_n C dX0_filling_38 rfl ?_
            refine r_icmp_eq C 44 dX0_filling_39 (by decide) (fun c_39 => ?_) (fun c_39 => ?_)
            · skip
              have c_39 : (B k) = (B 15) := (nI_eq (a := B k) (b := B 15) (by omega) (by omega)).mp c_39
              refine r_iinc C dX0_filling_44 (v := nI (k + 1)) (L' := [some (.ref o), some (.int (nI (B 15))), some (.int (nI (k + 1)))]) rfl (nI_add k 1) (by decide) rfl ?_
              refine r_goto C 26 dX0_filling_47 (by decide) ?_
              exact ih_26 (k + 1) (by omega) (by omega) (by omega) (fun m h1 h2 => if e : m = k then by rw [e]; exact c_39 else hq m h1 (by omega))
            · skip
              have c_39 : ¬ ((B k) = (B 15)) := fun h9 => c_39 ((nI_eq (a := B k) (b := B 15) (by omega) (by omega)).mpr h9)
              refine r_iconst C dX0_filling_42 (v := 0) (by decide) ?_
              exact r_ireturn C T_ rfl rfl dX0_filling_43 (⟨_, rfl, rfl, by unfold filB; rw [if_neg (fun z => c_39 (z.2.2 k (by omega) hk))]; rfl⟩)
      exact loop_26 _ (16 - B 15) (Nat.lt_succ_self _) (Nat.le_refl _) (by omega) (fun m h1 h2 => absurd h1 (by omega))
    · skip
      have c_16 : ¬ ((B 15) ≤ 16) := fun h9 => c_16 ((nI_leI (a := B 15) (b := 16) (by omega) (by omega)).mpr h9)
      refine r_iconst C dX0_filling_19 (v := 0) (by decide) ?_
      exact r_ireturn C T_ rfl rfl dX0_filling_20 (⟨_, rfl, rfl, by unfold filB; rw [if_neg (by omega)]; rfl⟩)
set_option maxHeartbeats 4000000 in
set_option maxRecDepth 100000 in
theorem cX0_addColumns9 {w : Wo} {o cl bl : Nat} (l_o : o < NW) (l_cl : cl < NW) (l_bl : bl < NW) (n_o_cl : o ≠ cl) (n_o_bl : o ≠ bl) (n_cl_bl : cl ≠ bl) {sb be : Nat} (w_o : w o = ob 0 [.ref sb, .ref cl, .ref bl, .ref be]) {B K KK : Nat → Nat} (w_bl : w bl = ia 16 (nf B)) (w_cl : w cl = ia 176 (nf K)) (hK : ∀ k, k < 176 → K k = KK k) {r : Nat} (hr : r ≤ 10) : Ctr mX0_addColumns [.ref o, .int (nI r)] w (PV fun w' => w' = wset w bl (ia 16 (nf (addC KK r B)))) := by
  refine Ctr_intro okX0_addColumns rfl (Nat.le_of_ble_eq_true rfl) (L := [some (.ref o), some (.int (nI r)), none, none]) rfl (fun g ct C T_ => ?_)
  refine r_bipush C dX0_addColumns_0 (v := 16) (by decide) ?_
  refine r_iload_n C dX0_addColumns_2 rfl ?_
  refine r_imul C dX0_addColumns_3 ?_
  refine r_top (y := nI (16 * r)) (pk_mul 16 r) ?_
  refine r_istore_n C dX0_addColumns_4 (L' := [some (.ref o), some (.int (nI r)), some (.int (nI (16 * r))), none]) (by decide) rfl ?_
  refine r_iconst C dX0_addColumns_5 (v := 0) (by decide) ?_
  refine r_istore_n C dX0_addColumns_6 (L' := [some (.ref o), some (.int (nI r)), some (.int (nI (16 * r))), some (.int 0)]) (by decide) rfl ?_
  have loop_7 : ∀ (d9 : Nat) (i : Nat) (B1 : Nat → Nat), 16 - i < d9 → i ≤ 16 → (∀ k, k < i → B1 k = addC KK r B k) → (∀ k, i ≤ k → B1 k = B k) → Az g mX0_addColumns ct 0 0 7 [some (.ref o), some (.int (nI r)), some (.int (nI (16 * r))), some (.int (nI i))] [] (wset w bl (ia 16 (nf B1))) := by
    intro d9
    induction d9 with
    | zero => intro i B1 hd9; exact absurd hd9 (Nat.not_lt_zero _)
    | succ d9 ih_7 =>
      intro i B1 hd9 hi h1 h2
      refine r_iload_n C dX0_addColumns_7 rfl ?_
      refine r_bipush C dX0_addColumns_8 (v := 16) (by decide) ?_
      refine r_icmp_ge C 36 dX0_addColumns_10 (by decide) (fun c_10 => ?_) (fun c_10 => ?_)
      · skip
        have c_10 : 16 ≤ i := (nI_leI (a := 16) (b := i) (by omega) (by omega)).mp c_10
        exact r_return C T_ rfl dX0_addColumns_36 (⟨rfl, by rw [fun_lh (n := i) h1 h2 (fun k hk => addC_hi _ _ _ k (by omega))]⟩)
      · skip
        have c_10 : ¬ (16 ≤ i) := fun h9 => c_10 ((nI_leI (a := 16) (b := i) (by omega) (by omega)).mpr h9)
        refine r_aload_n C dX0_addColumns_13 rfl ?_
        refine r_get C dX0_addColumns_14 fgRX0_18 l_o (ws_ne n_o_bl w_o) rfl ?_
        refine r_iload_n C dX0_addColumns_17 rfl ?_
        refine r_dup2 C dX0_addColumns_18 rfl rfl ?_
        refine r_ialdN C dX0_addColumns_19 l_bl ws_eq (j := i) rfl (by omega) (by decide) ?_
        refine r_top (y := nI (B1 i)) (nf_at B1 i) ?_
        refine r_aload_n C dX0_addColumns_20 rfl ?_
        refine r_get C dX0_addColumns_21 fgRX0_15 l_o (ws_ne n_o_bl w_o) rfl ?_
        refine r_iload_n C dX0_addColumns_24 rfl ?_
        refine r_iload_n C dX0_addColumns_25 rfl ?_
        refine r_iadd C dX0_addColumns_26 ?_
        refine r_top (y := nI ((16 * r) + i)) (nI_add (16 * r) i) ?_
        refine r_ialdN C dX0_addColumns_27 l_cl (ws_ne n_cl_bl w_cl) (j := (16 * r) + i) rfl (by omega) (by decide) ?_
        refine r_top (y := nI (K ((16 * r) + i))) (nf_at K ((16 * r) + i)) ?_
        refine r_ixor C dX0_addColumns_28 ?_
        refine r_top (y := nI ((B1 i) ^^^ (K ((16 * r) + i)))) (nx_xor9 (B1 i) (K ((16 * r) + i))) ?_
        refine r_iastF C dX0_addColumns_29 l_bl ws_eq (j := i) (x := (B1 i) ^^^ (K ((16 * r) + i))) rfl rfl (by omega) (by decide) ?_
        refine r_eq rfl rfl ws_same ?_
        refine r_iinc C dX0_addColumns_30 (v := nI (i + 1)) (L' := [some (.ref o), some (.int (nI r)), some (.int (nI (16 * r))), some (.int (nI (i + 1)))]) rfl (nI_add i 1) (by decide) rfl ?_
        refine r_goto C 7 dX0_addColumns_33 (by decide) ?_
        exact ih_7 (i + 1) _ (by omega) (by omega) (upn_lt h1 (by unfold addC; rw [if_pos (by omega), h2 i (Nat.le_refl _), hK _ (by omega)])) (upn_ge h2)
  refine r_eq rfl rfl (ws_self w_bl).symm ?_
  exact loop_7 _ 0 B (Nat.lt_succ_self _) (by omega) (fun k hk => absurd hk (Nat.not_lt_zero k)) (fun k hk => rfl)
set_option maxHeartbeats 4000000 in
set_option maxRecDepth 100000 in
theorem cX0_swapAndTurn9 {w : Wo} {o bl be : Nat} (l_o : o < NW) (l_bl : bl < NW) (l_be : be < NW) (n_o_bl : o ≠ bl) (n_o_be : o ≠ be) (n_bl_be : bl ≠ be) {sb cl : Nat} (w_o : w o = ob 0 [.ref sb, .ref cl, .ref bl, .ref be]) {B : Nat → Nat} {fe : Nat → Int32} (w_bl : w bl = ia 16 (nf B)) (w_be : w be = ia 16 fe) (hB : b16 B) : Ctr mX0_swapAndTurn [.ref o] w (PV fun w' => ∃ fe', w' = wset (wset w be (ia 16 fe')) bl (ia 16 (nf (swT B)))) := by
  refine Ctr_intro okX0_swapAndTurn rfl (Nat.le_of_ble_eq_true rfl) (L := [some (.ref o), none]) rfl (fun g ct C T_ => ?_)
  refine r_aload_n C dX0_swapAndTurn_0 rfl ?_
  refine r_get C dX0_swapAndTurn_1 fgRX0_18 l_o w_o rfl ?_
  refine r_iconst C dX0_swapAndTurn_4 (v := 0) (by decide) ?_
  refine r_aload_n C dX0_swapAndTurn_5 rfl ?_
  refine r_get C dX0_swapAndTurn_6 fgRX0_21 l_o w_o rfl ?_
  refine r_iconst C dX0_swapAndTurn_9 (v := 0) (by decide) ?_
  refine r_bipush C dX0_swapAndTurn_10 (v := 16) (by decide) ?_
  refine r_copyN C dX0_swapAndTurn_12 mlRX0_44 jn_copy_native jn_copy_static jn_sys_init l_bl w_bl l_be w_be (sn := 0) (dn := 0) (ln := 16) rfl rfl rfl (by omega) (by omega) (by omega) (by omega) (by omega) (by decide) (Nat.le_of_ble_eq_true rfl) ?_
  refine r_iconst C dX0_swapAndTurn_15 (v := 0) (by decide) ?_
  refine r_istore_n C dX0_swapAndTurn_16 (L' := [some (.ref o), some (.int 0)]) (by decide) rfl ?_
  have loop_17 : ∀ (d9 : Nat) (i : Nat) (B1 : Nat → Nat), 16 - i < d9 → i ≤ 16 → (∀ k, k < i → B1 k = swT B k) → (∀ k, i ≤ k → B1 k = B k) → Az g mX0_swapAndTurn ct 0 0 17 [some (.ref o), some (.int (nI i))] [] (wset (wset w be (ia 16 (va_cpy (nf B) fe 0 0 16))) bl (ia 16 (nf B1))) := by
    intro d9
    induction d9 with
    | zero => intro i B1 hd9; exact absurd hd9 (Nat.not_lt_zero _)
    | succ d9 ih_17 =>
      intro i B1 hd9 hi h1 h2
      refine r_iload_n C dX0_swapAndTurn_17 rfl ?_
      refine r_bipush C dX0_swapAndTurn_18 (v := 16) (by decide) ?_
      refine r_icmp_ge C 54 dX0_swapAndTurn_20 (by decide) (fun c_20 => ?_) (fun c_20 => ?_)
      · skip
        have c_20 : 16 ≤ i := (nI_leI (a := 16) (b := i) (by omega) (by omega)).mp c_20
        exact r_return C T_ rfl dX0_swapAndTurn_54 (⟨rfl, _, by rw [fun_lh (n := i) h1 h2 (fun k hk => swT_hi _ k (by omega))]⟩)
      · skip
        have c_20 : ¬ (16 ≤ i) := fun h9 => c_20 ((nI_leI (a := 16) (b := i) (by omega) (by omega)).mpr h9)
        refine r_aload_n C dX0_swapAndTurn_23 rfl ?_
        refine r_get C dX0_swapAndTurn_24 fgRX0_18 l_o (ws_ne n_o_bl (ws_ne n_o_be w_o)) rfl ?_
        refine r_iload_n C dX0_swapAndTurn_27 rfl ?_
        refine r_gets C (j := 0) dX0_swapAndTurn_28 rfl slRX0_24 ?_
        refine r_aload_n C dX0_swapAndTurn_31 rfl ?_
        refine r_get C dX0_swapAndTurn_32 fgRX0_21 l_o (ws_ne n_o_bl (ws_ne n_o_be w_o)) rfl ?_
        refine r_iconst C dX0_swapAndTurn_35 (v := 5) (by decide) ?_
        refine r_iload_n C dX0_swapAndTurn_36 rfl ?_
        refine r_imul C dX0_swapAndTurn_37 ?_
        refine r_top (y := nI (5 * i)) (pk_mul 5 i) ?_
        refine r_bipush C dX0_swapAndTurn_38 (v := 15) (by decide) ?_
        refine r_iand C dX0_swapAndTurn_40 ?_
        refine r_top (y := nI ((5 * i) % 16)) (pk_andN (n := 5 * i) (by omega) 4 rfl) ?_
        refine r_ialdN C dX0_swapAndTurn_41 l_be (ws_ne (Ne.symm n_bl_be) ws_eq) (j := (5 * i) % 16) rfl (by omega) (by decide) ?_
        refine r_top (y := nI (B ((5 * i) % 16))) (cpy16 (by omega)) ?_
        have hB9 := hB ((5 * i) % 16) (by omega)
        refine r_sipush C dX0_swapAndTurn_42 (v := 255) (by decide) ?_
        refine r_iand C dX0_swapAndTurn_45 ?_
        refine r_top (y := nI (B ((5 * i) % 16))) ((pk_andN (n := B ((5 * i) % 16)) (by omega) 8 rfl).trans (congrArg nI (Nat.mod_eq_of_lt hB9))) ?_
        refine r_tald C dX0_swapAndTurn_46 (j := 0) (t := B ((5 * i) % 16)) rfl rfl rfl (by show _ < 256; omega) (by decide) ?_
        refine r_top (y := nI (sw (B ((5 * i) % 16)))) (sw_tab (B ((5 * i) % 16))) ?_
        refine r_iastF C dX0_swapAndTurn_47 l_bl ws_eq (j := i) (x := sw (B ((5 * i) % 16))) rfl rfl (by omega) (by decide) ?_
        refine r_eq rfl rfl ws_same ?_
        refine r_iinc C dX0_swapAndTurn_48 (v := nI (i + 1)) (L' := [some (.ref o), some (.int (nI (i + 1)))]) rfl (nI_add i 1) (by decide) rfl ?_
        refine r_goto C 17 dX0_swapAndTurn_51 (by decide) ?_
        exact ih_17 (i + 1) _ (by omega) (by omega) (upn_lt h1 (by unfold swT; rw [if_pos (by omega)])) (upn_ge h2)
  refine r_eq rfl rfl (ws_self (ws_ne n_bl_be w_bl)).symm ?_
  exact loop_17 _ 0 B (Nat.lt_succ_self _) (by omega) (fun k hk => absurd hk (Nat.not_lt_zero k)) (fun k hk => rfl)
theorem back_lt {B1 B : Nat → Nat} {i x : Nat} (h : ∀ m, m < i → B1 ((5 * m) % 16) = bk (B m)) (hx : x = bk (B i)) (hi : ¬ 16 ≤ i) : ∀ m, m < i + 1 → upn B1 ((5 * i) % 16) x ((5 * m) % 16) = bk (B m) := by
  intro m hm
  unfold upn
  by_cases e : m = i
  · rw [e, if_pos rfl, hx]
  · rw [if_neg (by omega)]
    exact h m (by omega)
theorem back_all {B1 B : Nat → Nat} {i : Nat} (h1 : ∀ m, m < i → B1 ((5 * m) % 16) = bk (B m)) (h2 : ∀ k, 16 ≤ k → B1 k = B k) (hi : 16 ≤ i) : B1 = swTB B := by
  funext k
  unfold swTB
  by_cases hk : k < 16
  · rw [if_pos hk]
    have := h1 ((13 * k) % 16) (by omega)
    rw [show (5 * ((13 * k) % 16)) % 16 = k by omega] at this
    exact this
  · rw [if_neg hk]
    exact h2 k (by omega)
set_option maxHeartbeats 4000000 in
set_option maxRecDepth 100000 in
theorem cX0_swapAndTurnBack9 {w : Wo} {o sb bl be : Nat} (l_o : o < NW) (l_sb : sb < NW) (l_bl : bl < NW) (l_be : be < NW) (n_o_sb : o ≠ sb) (n_o_bl : o ≠ bl) (n_o_be : o ≠ be) (n_sb_bl : sb ≠ bl) (n_sb_be : sb ≠ be) (n_bl_be : bl ≠ be) {cl : Nat} (w_o : w o = ob 0 [.ref sb, .ref cl, .ref bl, .ref be]) {B SB : Nat → Nat} {fe : Nat → Int32} (w_sb : w sb = ia 256 (nf SB)) (hsb : ∀ x, x < 256 → SB x = bk x) (w_bl : w bl = ia 16 (nf B)) (w_be : w be = ia 16 fe) (hB : b16 B) : Ctr mX0_swapAndTurnBack [.ref o] w (PV fun w' => ∃ fe', w' = wset (wset w be (ia 16 fe')) bl (ia 16 (nf (swTB B)))) := by
  refine Ctr_intro okX0_swapAndTurnBack rfl (Nat.le_of_ble_eq_true rfl) (L := [some (.ref o), none]) rfl (fun g ct C T_ => ?_)
  refine r_aload_n C dX0_swapAndTurnBack_0 rfl ?_
  refine r_get C dX0_swapAndTurnBack_1 fgRX0_18 l_o w_o rfl ?_
  refine r_iconst C dX0_swapAndTurnBack_4 (v := 0) (by decide) ?_
  refine r_aload_n C dX0_swapAndTurnBack_5 rfl ?_
  refine r_get C dX0_swapAndTurnBack_6 fgRX0_21 l_o w_o rfl ?_
  refine r_iconst C dX0_swapAndTurnBack_9 (v := 0) (by decide) ?_
  refine r_bipush C dX0_swapAndTurnBack_10 (v := 16) (by decide) ?_
  refine r_copyN C dX0_swapAndTurnBack_12 mlRX0_44 jn_copy_native jn_copy_static jn_sys_init l_bl w_bl l_be w_be (sn := 0) (dn := 0) (ln := 16) rfl rfl rfl (by omega) (by omega) (by omega) (by omega) (by omega) (by decide) (Nat.le_of_ble_eq_true rfl) ?_
  refine r_iconst C dX0_swapAndTurnBack_15 (v := 0) (by decide) ?_
  refine r_istore_n C dX0_swapAndTurnBack_16 (L' := [some (.ref o), some (.int 0)]) (by decide) rfl ?_
  have loop_17 : ∀ (d9 : Nat) (i : Nat) (B1 : Nat → Nat), 16 - i < d9 → i ≤ 16 → (∀ m, m < i → B1 ((5 * m) % 16) = bk (B m)) → (∀ k, 16 ≤ k → B1 k = B k) → Az g mX0_swapAndTurnBack ct 0 0 17 [some (.ref o), some (.int (nI i))] [] (wset (wset w be (ia 16 (va_cpy (nf B) fe 0 0 16))) bl (ia 16 (nf B1))) := by
    intro d9
    induction d9 with
    | zero => intro i B1 hd9; exact absurd hd9 (Nat.not_lt_zero _)
    | succ d9 ih_17 =>
      intro i B1 hd9 hi h1 h2
      refine r_iload_n C dX0_swapAndTurnBack_17 rfl ?_
      refine r_bipush C dX0_swapAndTurnBack_18 (v := 16) (by decide) ?_
      refine r_icmp_ge C 55 dX0_swapAndTurnBack_20 (by decide) (fun c_20 => ?_) (fun c_20 => ?_)
      · skip
        have c_20 : 16 ≤ i := (nI_leI (a := 16) (b := i) (by omega) (by omega)).mp c_20
        exact r_return C T_ rfl dX0_swapAndTurnBack_55 (⟨rfl, _, by rw [back_all h1 h2 c_20]⟩)
      · skip
        have c_20 : ¬ (16 ≤ i) := fun h9 => c_20 ((nI_leI (a := 16) (b := i) (by omega) (by omega)).mpr h9)
        refine r_aload_n C dX0_swapAndTurnBack_23 rfl ?_
        refine r_get C dX0_swapAndTurnBack_24 fgRX0_18 l_o (ws_ne n_o_bl (ws_ne n_o_be w_o)) rfl ?_
        refine r_iconst C dX0_swapAndTurnBack_27 (v := 5) (by decide) ?_
        refine r_iload_n C dX0_swapAndTurnBack_28 rfl ?_
        refine r_imul C dX0_swapAndTurnBack_29 ?_
        refine r_top (y := nI (5 * i)) (pk_mul 5 i) ?_
        refine r_bipush C dX0_swapAndTurnBack_30 (v := 15) (by decide) ?_
        refine r_iand C dX0_swapAndTurnBack_32 ?_
        refine r_top (y := nI ((5 * i) % 16)) (pk_andN (n := 5 * i) (by omega) 4 rfl) ?_
        refine r_aload_n C dX0_swapAndTurnBack_33 rfl ?_
        refine r_get C dX0_swapAndTurnBack_34 fgRX0_9 l_o (ws_ne n_o_bl (ws_ne n_o_be w_o)) rfl ?_
        refine r_aload_n C dX0_swapAndTurnBack_37 rfl ?_
        refine r_get C dX0_swapAndTurnBack_38 fgRX0_21 l_o (ws_ne n_o_bl (ws_ne n_o_be w_o)) rfl ?_
        refine r_iload_n C dX0_swapAndTurnBack_41 rfl ?_
        refine r_ialdN C dX0_swapAndTurnBack_42 l_be (ws_ne (Ne.symm n_bl_be) ws_eq) (j := i) rfl (by omega) (by decide) ?_
        refine r_top (y := nI (B i)) (cpy16 (by omega)) ?_
        have hB9 := hB i (by omega)
        refine r_sipush C dX0_swapAndTurnBack_43 (v := 255) (by decide) ?_
        refine r_iand C dX0_swapAndTurnBack_46 ?_
        refine r_top (y := nI (B i)) ((pk_andN (n := B i) (by omega) 8 rfl).trans (congrArg nI (Nat.mod_eq_of_lt hB9))) ?_
        refine r_ialdN C dX0_swapAndTurnBack_47 l_sb (ws_ne n_sb_bl (ws_ne n_sb_be w_sb)) (j := B i) rfl (by omega) (by decide) ?_
        refine r_top (y := nI (SB (B i))) (nf_at SB (B i)) ?_
        refine r_iastF C dX0_swapAndTurnBack_48 l_bl ws_eq (j := (5 * i) % 16) (x := SB (B i)) rfl rfl (by omega) (by decide) ?_
        refine r_eq rfl rfl ws_same ?_
        refine r_iinc C dX0_swapAndTurnBack_49 (v := nI (i + 1)) (L' := [some (.ref o), some (.int (nI (i + 1)))]) rfl (nI_add i 1) (by decide) rfl ?_
        refine r_goto C 17 dX0_swapAndTurnBack_52 (by decide) ?_
        exact ih_17 (i + 1) _ (by omega) (by omega) (back_lt h1 (by rw [hsb _ hB9]) c_20) (fun k hk => by rw [upn_ne (by omega)]; exact h2 k hk)
  refine r_eq rfl rfl (ws_self (ws_ne n_bl_be w_bl)).symm ?_
  exact loop_17 _ 0 B (Nat.lt_succ_self _) (by omega) (fun k hk => absurd hk (Nat.not_lt_zero k)) (fun k hk => rfl)
set_option maxHeartbeats 4000000 in
set_option maxRecDepth 100000 in
theorem cX0_mixColumns9 {w : Wo} {o bl : Nat} (l_o : o < NW) (l_bl : bl < NW) (n_o_bl : o ≠ bl) {sb cl be : Nat} (w_o : w o = ob 0 [.ref sb, .ref cl, .ref bl, .ref be]) {B : Nat → Nat} (w_bl : w bl = ia 16 (nf B)) (hB : b16 B) : Ctr mX0_mixColumns [.ref o] w (PV fun w' => w' = wset w bl (ia 16 (nf (mixC B)))) := by
  refine Ctr_intro okX0_mixColumns rfl (Nat.le_of_ble_eq_true rfl) (L := [some (.ref o), none, none, none, none, none, none]) rfl (fun g ct C T_ => ?_)
  refine r_iconst C dX0_mixColumns_0 (v := 0) (by decide) ?_
  refine r_istore_n C dX0_mixColumns_1 (L' := [some (.ref o), some (.int 0), none, none, none, none, none]) (by decide) rfl ?_
  have loop_2 : ∀ (d9 : Nat) (c : Nat) (B1 : Nat → Nat), 4 - c < d9 → c ≤ 4 → (∀ k, k < 4 * c → B1 k = mixC B k) → (∀ k, 4 * c ≤ k → B1 k = B k) → Az g mX0_mixColumns ct 0 0 2 [some (.ref o), some (.int (nI (4 * c))), none, none, none, none, none] [] (wset w bl (ia 16 (nf B1))) := by
    intro d9
    induction d9 with
    | zero => intro c B1 hd9; exact absurd hd9 (Nat.not_lt_zero _)
    | succ d9 ih_2 =>
      intro c B1 hd9 hc h1 h2
      refine r_iload_n C dX0_mixColumns_2 rfl ?_
      refine r_bipush C dX0_mixColumns_3 (v := 16) (by decide) ?_
      refine r_icmp_ge C 141 dX0_mixColumns_5 (by decide) (fun c_5 => ?_) (fun c_5 => ?_)
      · skip
        have c_5 : 16 ≤ (4 * c) := (nI_leI (a := 16) (b := 4 * c) (by omega) (by omega)).mp c_5
        exact r_return C T_ rfl dX0_mixColumns_141 (⟨rfl, by rw [fun_lh (n := 4 * c) h1 h2 (fun k hk => mixC_hi _ k (by omega))]⟩)
      · skip
        have c_5 : ¬ (16 ≤ (4 * c)) := fun h9 => c_5 ((nI_leI (a := 16) (b := 4 * c) (by omega) (by omega)).mpr h9)
        refine r_aload_n C dX0_mixColumns_8 rfl ?_
        refine r_get C dX0_mixColumns_9 fgRX0_18 l_o (ws_ne n_o_bl w_o) rfl ?_
        refine r_iload_n C dX0_mixColumns_12 rfl ?_
        refine r_ialdN C dX0_mixColumns_13 l_bl ws_eq (j := 4 * c) rfl (by omega) (by decide) ?_
        refine r_top (y := nI (B (4 * c))) (congrArg nI (h2 _ (by omega))) ?_
        refine r_istore_n C dX0_mixColumns_14 (L' := [some (.ref o), some (.int (nI (4 * c))), some (.int (nI (B (4 * c)))), none, none, none, none]) (by decide) rfl ?_
        refine r_aload_n C dX0_mixColumns_15 rfl ?_
        refine r_get C dX0_mixColumns_16 fgRX0_18 l_o (ws_ne n_o_bl w_o) rfl ?_
        refine r_iload_n C dX0_mixColumns_19 rfl ?_
        refine r_iconst C dX0_mixColumns_20 (v := 1) (by decide) ?_
        refine r_iadd C dX0_mixColumns_21 ?_
        refine r_top (y := nI ((4 * c) + 1)) (nI_add (4 * c) 1) ?_
        refine r_ialdN C dX0_mixColumns_22 l_bl ws_eq (j := (4 * c) + 1) rfl (by omega) (by decide) ?_
        refine r_top (y := nI (B (4 * c + 1))) (congrArg nI (h2 _ (by omega))) ?_
        refine r_istore_n C dX0_mixColumns_23 (L' := [some (.ref o), some (.int (nI (4 * c))), some (.int (nI (B (4 * c)))), some (.int (nI (B (4 * c + 1)))), none, none, none]) (by decide) rfl ?_
        refine r_aload_n C dX0_mixColumns_24 rfl ?_
        refine r_get C dX0_mixColumns_25 fgRX0_18 l_o (ws_ne n_o_bl w_o) rfl ?_
        refine r_iload_n C dX0_mixColumns_28 rfl ?_
        refine r_iconst C dX0_mixColumns_29 (v := 2) (by decide) ?_
        refine r_iadd C dX0_mixColumns_30 ?_
        refine r_top (y := nI ((4 * c) + 2)) (nI_add (4 * c) 2) ?_
        refine r_ialdN C dX0_mixColumns_31 l_bl ws_eq (j := (4 * c) + 2) rfl (by omega) (by decide) ?_
        refine r_top (y := nI (B (4 * c + 2))) (congrArg nI (h2 _ (by omega))) ?_
        refine r_istore C dX0_mixColumns_32 (L' := [some (.ref o), some (.int (nI (4 * c))), some (.int (nI (B (4 * c)))), some (.int (nI (B (4 * c + 1)))), some (.int (nI (B (4 * c + 2)))), none, none]) (by decide) rfl ?_
        refine r_aload_n C dX0_mixColumns_34 rfl ?_
        refine r_get C dX0_mixColumns_35 fgRX0_18 l_o (ws_ne n_o_bl w_o) rfl ?_
        refine r_iload_n C dX0_mixColumns_38 rfl ?_
        refine r_iconst C dX0_mixColumns_39 (v := 3) (by decide) ?_
        refine r_iadd C dX0_mixColumns_40 ?_
        refine r_top (y := nI ((4 * c) + 3)) (nI_add (4 * c) 3) ?_
        refine r_ialdN C dX0_mixColumns_41 l_bl ws_eq (j := (4 * c) + 3) rfl (by omega) (by decide) ?_
        refine r_top (y := nI (B (4 * c + 3))) (congrArg nI (h2 _ (by omega))) ?_
        have b0 := hB (4 * c) (by omega)
        have b1 := hB (4 * c + 1) (by omega)
        have b2 := hB (4 * c + 2) (by omega)
        have b3 := hB (4 * c + 3) (by omega)
        refine r_istore C dX0_mixColumns_42 (L' := [some (.ref o), some (.int (nI (4 * c))), some (.int (nI (B (4 * c)))), some (.int (nI (B (4 * c + 1)))), some (.int (nI (B (4 * c + 2)))), some (.int (nI (B (4 * c + 3)))), none]) (by decide) rfl ?_
        refine r_iload_n C dX0_mixColumns_44 rfl ?_
        refine r_iload_n C dX0_mixColumns_45 rfl ?_
        refine r_ixor C dX0_mixColumns_46 ?_
        refine r_top (y := nI ((B (4 * c)) ^^^ (B (4 * c + 1)))) (nx_xor9 (B (4 * c)) (B (4 * c + 1))) ?_
        refine r_iload C dX0_mixColumns_47 rfl ?_
        refine r_ixor C dX0_mixColumns_49 ?_
        refine r_top (y := nI (((B (4 * c)) ^^^ (B (4 * c + 1))) ^^^ (B (4 * c + 2)))) (nx_xor9 ((B (4 * c)) ^^^ (B (4 * c + 1))) (B (4 * c + 2))) ?_
        refine r_iload C dX0_mixColumns_50 rfl ?_
        refine r_ixor C dX0_mixColumns_52 ?_
        refine r_top (y := nI ((((B (4 * c)) ^^^ (B (4 * c + 1))) ^^^ (B (4 * c + 2))) ^^^ (B (4 * c + 3)))) (nx_xor9 (((B (4 * c)) ^^^ (B (4 * c + 1))) ^^^ (B (4 * c + 2))) (B (4 * c + 3))) ?_
        refine r_istore C dX0_mixColumns_53 (L' := [some (.ref o), some (.int (nI (4 * c))), some (.int (nI (B (4 * c)))), some (.int (nI (B (4 * c + 1)))), some (.int (nI (B (4 * c + 2)))), some (.int (nI (B (4 * c + 3)))), some (.int (nI ((((B (4 * c)) ^^^ (B (4 * c + 1))) ^^^ (B (4 * c + 2))) ^^^ (B (4 * c + 3)))))]) (by decide) rfl ?_
        refine r_aload_n C dX0_mixColumns_55 rfl ?_
        refine r_get C dX0_mixColumns_56 fgRX0_18 l_o (ws_ne n_o_bl w_o) rfl ?_
        refine r_iload_n C dX0_mixColumns_59 rfl ?_
        refine r_iload_n C dX0_mixColumns_60 rfl ?_
        refine r_iload C dX0_mixColumns_61 rfl ?_
        refine r_ixor C dX0_mixColumns_63 ?_
        refine r_top (y := nI ((B (4 * c)) ^^^ ((((B (4 * c)) ^^^ (B (4 * c + 1))) ^^^ (B (4 * c + 2))) ^^^ (B (4 * c + 3))))) (nx_xor9 (B (4 * c)) ((((B (4 * c)) ^^^ (B (4 * c + 1))) ^^^ (B (4 * c + 2))) ^^^ (B (4 * c + 3)))) ?_
        refine r_iload_n C dX0_mixColumns_64 rfl ?_
        refine r_iload_n C dX0_mixColumns_65 rfl ?_
        refine r_ixor C dX0_mixColumns_66 ?_
        refine r_top (y := nI ((B (4 * c)) ^^^ (B (4 * c + 1)))) (nx_xor9 (B (4 * c)) (B (4 * c + 1))) ?_
        have x9 := xor_lt b0 b1
        refine r_callSi C (As := [.int (nI ((B (4 * c)) ^^^ (B (4 * c + 1))))]) (rest := [.int (nI ((B (4 * c)) ^^^ ((((B (4 * c)) ^^^ (B (4 * c + 1))) ^^^ (B (4 * c + 2))) ^^^ (B (4 * c + 3))))), .int (nI (4 * c)), .ref bl]) dX0_mixColumns_67 (cX0_twice9 (b := (B (4 * c)) ^^^ (B (4 * c + 1))) (by assumption)) okX0_twice mlRX0_36 stX0_twice ⟨by decide, by decide⟩ rfl rfl (Nat.le_of_ble_eq_true rfl) (by decide) (by decide) (fun r1 w9 h9 => ?_)
        obtain ⟨e9, rfl⟩ := h9
        have e9 := e9.symm
        subst e9
        refine r_ixor C dX0_mixColumns_70 ?_
        refine r_top (y := nI (((B (4 * c)) ^^^ ((((B (4 * c)) ^^^ (B (4 * c + 1))) ^^^ (B (4 * c + 2))) ^^^ (B (4 * c + 3)))) ^^^ (xt ((B (4 * c)) ^^^ (B (4 * c + 1)))))) (nx_xor9 ((B (4 * c)) ^^^ ((((B (4 * c)) ^^^ (B (4 * c + 1))) ^^^ (B (4 * c + 2))) ^^^ (B (4 * c + 3)))) (xt ((B (4 * c)) ^^^ (B (4 * c + 1))))) ?_
        refine r_iastF C dX0_mixColumns_71 l_bl ws_eq (j := 4 * c) (x := ((B (4 * c)) ^^^ ((((B (4 * c)) ^^^ (B (4 * c + 1))) ^^^ (B (4 * c + 2))) ^^^ (B (4 * c + 3)))) ^^^ (xt ((B (4 * c)) ^^^ (B (4 * c + 1))))) rfl rfl (by omega) (by decide) ?_
        refine r_eq rfl rfl ws_same ?_
        refine r_aload_n C dX0_mixColumns_72 rfl ?_
        refine r_get C dX0_mixColumns_73 fgRX0_18 l_o (ws_ne n_o_bl w_o) rfl ?_
        refine r_iload_n C dX0_mixColumns_76 rfl ?_
        refine r_iconst C dX0_mixColumns_77 (v := 1) (by decide) ?_
        refine r_iadd C dX0_mixColumns_78 ?_
        refine r_top (y := nI ((4 * c) + 1)) (nI_add (4 * c) 1) ?_
        refine r_iload_n C dX0_mixColumns_79 rfl ?_
        refine r_iload C dX0_mixColumns_80 rfl ?_
        refine r_ixor C dX0_mixColumns_82 ?_
        refine r_top (y := nI ((B (4 * c + 1)) ^^^ ((((B (4 * c)) ^^^ (B (4 * c + 1))) ^^^ (B (4 * c + 2))) ^^^ (B (4 * c + 3))))) (nx_xor9 (B (4 * c + 1)) ((((B (4 * c)) ^^^ (B (4 * c + 1))) ^^^ (B (4 * c + 2))) ^^^ (B (4 * c + 3)))) ?_
        refine r_iload_n C dX0_mixColumns_83 rfl ?_
        refine r_iload C dX0_mixColumns_84 rfl ?_
        refine r_ixor C dX0_mixColumns_86 ?_
        refine r_top (y := nI ((B (4 * c + 1)) ^^^ (B (4 * c + 2)))) (nx_xor9 (B (4 * c + 1)) (B (4 * c + 2))) ?_
        have x9 := xor_lt b1 b2
        refine r_callSi C (As := [.int (nI ((B (4 * c + 1)) ^^^ (B (4 * c + 2))))]) (rest := [.int (nI ((B (4 * c + 1)) ^^^ ((((B (4 * c)) ^^^ (B (4 * c + 1))) ^^^ (B (4 * c + 2))) ^^^ (B (4 * c + 3))))), .int (nI ((4 * c) + 1)), .ref bl]) dX0_mixColumns_87 (cX0_twice9 (b := (B (4 * c + 1)) ^^^ (B (4 * c + 2))) (by assumption)) okX0_twice mlRX0_36 stX0_twice ⟨by decide, by decide⟩ rfl rfl (Nat.le_of_ble_eq_true rfl) (by decide) (by decide) (fun r2 w9 h9 => ?_)
        obtain ⟨e9, rfl⟩ := h9
        have e9 := e9.symm
        subst e9
        refine r_ixor C dX0_mixColumns_90 ?_
        refine r_top (y := nI (((B (4 * c + 1)) ^^^ ((((B (4 * c)) ^^^ (B (4 * c + 1))) ^^^ (B (4 * c + 2))) ^^^ (B (4 * c + 3)))) ^^^ (xt ((B (4 * c + 1)) ^^^ (B (4 * c + 2)))))) (nx_xor9 ((B (4 * c + 1)) ^^^ ((((B (4 * c)) ^^^ (B (4 * c + 1))) ^^^ (B (4 * c + 2))) ^^^ (B (4 * c + 3)))) (xt ((B (4 * c + 1)) ^^^ (B (4 * c + 2))))) ?_
        refine r_iastF C dX0_mixColumns_91 l_bl ws_eq (j := (4 * c) + 1) (x := ((B (4 * c + 1)) ^^^ ((((B (4 * c)) ^^^ (B (4 * c + 1))) ^^^ (B (4 * c + 2))) ^^^ (B (4 * c + 3)))) ^^^ (xt ((B (4 * c + 1)) ^^^ (B (4 * c + 2))))) rfl rfl (by omega) (by decide) ?_
        refine r_eq rfl rfl ws_same ?_
        refine r_aload_n C dX0_mixColumns_92 rfl ?_
        refine r_get C dX0_mixColumns_93 fgRX0_18 l_o (ws_ne n_o_bl w_o) rfl ?_
        refine r_iload_n C dX0_mixColumns_96 rfl ?_
        refine r_iconst C dX0_mixColumns_97 (v := 2) (by decide) ?_
        refine r_iadd C dX0_mixColumns_98 ?_
        refine r_top (y := nI ((4 * c) + 2)) (nI_add (4 * c) 2) ?_
        refine r_iload C dX0_mixColumns_99 rfl ?_
        refine r_iload C dX0_mixColumns_101 rfl ?_
        refine r_ixor C dX0_mixColumns_103 ?_
        refine r_top (y := nI ((B (4 * c + 2)) ^^^ ((((B (4 * c)) ^^^ (B (4 * c + 1))) ^^^ (B (4 * c + 2))) ^^^ (B (4 * c + 3))))) (nx_xor9 (B (4 * c + 2)) ((((B (4 * c)) ^^^ (B (4 * c + 1))) ^^^ (B (4 * c + 2))) ^^^ (B (4 * c + 3)))) ?_
        refine r_iload C dX0_mixColumns_104 rfl ?_
        refine r_iload C dX0_mixColumns_106 rfl ?_
        refine r_ixor C dX0_mixColumns_108 ?_
        refine r_top (y := nI ((B (4 * c + 2)) ^^^ (B (4 * c + 3)))) (nx_xor9 (B (4 * c + 2)) (B (4 * c + 3))) ?_
        have x9 := xor_lt b2 b3
        refine r_callSi C (As := [.int (nI ((B (4 * c + 2)) ^^^ (B (4 * c + 3))))]) (rest := [.int (nI ((B (4 * c + 2)) ^^^ ((((B (4 * c)) ^^^ (B (4 * c + 1))) ^^^ (B (4 * c + 2))) ^^^ (B (4 * c + 3))))), .int (nI ((4 * c) + 2)), .ref bl]) dX0_mixColumns_109 (cX0_twice9 (b := (B (4 * c + 2)) ^^^ (B (4 * c + 3))) (by assumption)) okX0_twice mlRX0_36 stX0_twice ⟨by decide, by decide⟩ rfl rfl (Nat.le_of_ble_eq_true rfl) (by decide) (by decide) (fun r3 w9 h9 => ?_)
        obtain ⟨e9, rfl⟩ := h9
        have e9 := e9.symm
        subst e9
        refine r_ixor C dX0_mixColumns_112 ?_
        refine r_top (y := nI (((B (4 * c + 2)) ^^^ ((((B (4 * c)) ^^^ (B (4 * c + 1))) ^^^ (B (4 * c + 2))) ^^^ (B (4 * c + 3)))) ^^^ (xt ((B (4 * c + 2)) ^^^ (B (4 * c + 3)))))) (nx_xor9 ((B (4 * c + 2)) ^^^ ((((B (4 * c)) ^^^ (B (4 * c + 1))) ^^^ (B (4 * c + 2))) ^^^ (B (4 * c + 3)))) (xt ((B (4 * c + 2)) ^^^ (B (4 * c + 3))))) ?_
        refine r_iastF C dX0_mixColumns_113 l_bl ws_eq (j := (4 * c) + 2) (x := ((B (4 * c + 2)) ^^^ ((((B (4 * c)) ^^^ (B (4 * c + 1))) ^^^ (B (4 * c + 2))) ^^^ (B (4 * c + 3)))) ^^^ (xt ((B (4 * c + 2)) ^^^ (B (4 * c + 3))))) rfl rfl (by omega) (by decide) ?_
        refine r_eq rfl rfl ws_same ?_
        refine r_aload_n C dX0_mixColumns_114 rfl ?_
        refine r_get C dX0_mixColumns_115 fgRX0_18 l_o (ws_ne n_o_bl w_o) rfl ?_
        refine r_iload_n C dX0_mixColumns_118 rfl ?_
        refine r_iconst C dX0_mixColumns_119 (v := 3) (by decide) ?_
        refine r_iadd C dX0_mixColumns_120 ?_
        refine r_top (y := nI ((4 * c) + 3)) (nI_add (4 * c) 3) ?_
        refine r_iload C dX0_mixColumns_121 rfl ?_
        refine r_iload C dX0_mixColumns_123 rfl ?_
        refine r_ixor C dX0_mixColumns_125 ?_
        refine r_top (y := nI ((B (4 * c + 3)) ^^^ ((((B (4 * c)) ^^^ (B (4 * c + 1))) ^^^ (B (4 * c + 2))) ^^^ (B (4 * c + 3))))) (nx_xor9 (B (4 * c + 3)) ((((B (4 * c)) ^^^ (B (4 * c + 1))) ^^^ (B (4 * c + 2))) ^^^ (B (4 * c + 3)))) ?_
        refine r_iload C dX0_mixColumns_126 rfl ?_
        refine r_iload_n C dX0_mixColumns_128 rfl ?_
        refine r_ixor C dX0_mixColumns_129 ?_
        refine r_top (y := nI ((B (4 * c + 3)) ^^^ (B (4 * c)))) (nx_xor9 (B (4 * c + 3)) (B (4 * c))) ?_
        have x9 := xor_lt b3 b0
        refine r_callSi C (As := [.int (nI ((B (4 * c + 3)) ^^^ (B (4 * c))))]) (rest := [.int (nI ((B (4 * c + 3)) ^^^ ((((B (4 * c)) ^^^ (B (4 * c + 1))) ^^^ (B (4 * c + 2))) ^^^ (B (4 * c + 3))))), .int (nI ((4 * c) + 3)), .ref bl]) dX0_mixColumns_130 (cX0_twice9 (b := (B (4 * c + 3)) ^^^ (B (4 * c))) (by assumption)) okX0_twice mlRX0_36 stX0_twice ⟨by decide, by decide⟩ rfl rfl (Nat.le_of_ble_eq_true rfl) (by decide) (by decide) (fun r4 w9 h9 => ?_)
        obtain ⟨e9, rfl⟩ := h9
        have e9 := e9.symm
        subst e9
        refine r_ixor C dX0_mixColumns_133 ?_
        refine r_top (y := nI (((B (4 * c + 3)) ^^^ ((((B (4 * c)) ^^^ (B (4 * c + 1))) ^^^ (B (4 * c + 2))) ^^^ (B (4 * c + 3)))) ^^^ (xt ((B (4 * c + 3)) ^^^ (B (4 * c)))))) (nx_xor9 ((B (4 * c + 3)) ^^^ ((((B (4 * c)) ^^^ (B (4 * c + 1))) ^^^ (B (4 * c + 2))) ^^^ (B (4 * c + 3)))) (xt ((B (4 * c + 3)) ^^^ (B (4 * c))))) ?_
        refine r_iastF C dX0_mixColumns_134 l_bl ws_eq (j := (4 * c) + 3) (x := ((B (4 * c + 3)) ^^^ ((((B (4 * c)) ^^^ (B (4 * c + 1))) ^^^ (B (4 * c + 2))) ^^^ (B (4 * c + 3)))) ^^^ (xt ((B (4 * c + 3)) ^^^ (B (4 * c))))) rfl rfl (by omega) (by decide) ?_
        refine r_eq rfl rfl ws_same ?_
        refine r_iinc C dX0_mixColumns_135 (v := nI (4 * (c + 1))) (L' := [some (.ref o), some (.int (nI (4 * (c + 1)))), some (.int (nI (B (4 * c)))), some (.int (nI (B (4 * c + 1)))), some (.int (nI (B (4 * c + 2)))), some (.int (nI (B (4 * c + 3)))), some (.int (nI ((((B (4 * c)) ^^^ (B (4 * c + 1))) ^^^ (B (4 * c + 2))) ^^^ (B (4 * c + 3)))))]) rfl ((nI_add (4 * c) 4).trans (congrArg nI (by omega))) (by decide) rfl ?_
        refine r_goto C 2 dX0_mixColumns_138 (by decide) ?_
        refine r_forget [some (.ref o), some (.int (nI (4 * (c + 1)))), none, none, none, none, none] ⟨Or.inr rfl, Or.inr rfl, Or.inl rfl, Or.inl rfl, Or.inl rfl, Or.inl rfl, Or.inl rfl, trivial⟩ ?_
        exact ih_2 (c + 1) _ (by omega) (by omega) (col4 h1 (by rw [show mixC B (4 * c) = mixC B (4 * c + 0) from rfl, mixC_col B (by omega) (by omega)]; rfl) (by rw [mixC_col B (by omega) (by omega)]; rfl) (by rw [mixC_col B (by omega) (by omega)]; rfl) (by rw [mixC_col B (by omega) (by omega)]; rfl)) (col4' h2)
  refine r_eq rfl rfl (ws_self w_bl).symm ?_
  exact loop_2 _ 0 B (Nat.lt_succ_self _) (by omega) (fun k hk => absurd hk (by omega)) (fun k hk => rfl)
set_option maxHeartbeats 4000000 in
set_option maxRecDepth 100000 in
theorem cX0_unmixColumns9 {w : Wo} {o bl : Nat} (l_o : o < NW) (l_bl : bl < NW) (n_o_bl : o ≠ bl) {sb cl be : Nat} (w_o : w o = ob 0 [.ref sb, .ref cl, .ref bl, .ref be]) {B : Nat → Nat} (w_bl : w bl = ia 16 (nf B)) (hB : b16 B) : Ctr mX0_unmixColumns [.ref o] w (PV fun w' => w' = wset w bl (ia 16 (nf (unmixC B)))) := by
  refine Ctr_intro okX0_unmixColumns rfl (Nat.le_of_ble_eq_true rfl) (L := [some (.ref o), none, none, none]) rfl (fun g ct C T_ => ?_)
  refine r_iconst C dX0_unmixColumns_0 (v := 0) (by decide) ?_
  refine r_istore_n C dX0_unmixColumns_1 (L' := [some (.ref o), some (.int 0), none, none]) (by decide) rfl ?_
  have loop_2 : ∀ (d9 : Nat) (c : Nat) (B1 : Nat → Nat), 4 - c < d9 → c ≤ 4 → (∀ k, k < 4 * c → B1 k = evn B k) → (∀ k, 4 * c ≤ k → B1 k = B k) → Az g mX0_unmixColumns ct 0 0 2 [some (.ref o), some (.int (nI (4 * c))), none, none] [] (wset w bl (ia 16 (nf B1))) := by
    intro d9
    induction d9 with
    | zero => intro c B1 hd9; exact absurd hd9 (Nat.not_lt_zero _)
    | succ d9 ih_2 =>
      intro c B1 hd9 hc h1 h2
      refine r_iload_n C dX0_unmixColumns_2 rfl ?_
      refine r_bipush C dX0_unmixColumns_3 (v := 16) (by decide) ?_
      refine r_icmp_ge C 106 dX0_unmixColumns_5 (by decide) (fun c_5 => ?_) (fun c_5 => ?_)
      · skip
        have c_5 : 16 ≤ (4 * c) := (nI_leI (a := 16) (b := 4 * c) (by omega) (by omega)).mp c_5
        refine r_aload_n C dX0_unmixColumns_106 rfl ?_
        have hE : B1 = evn B := fun_lh (n := 4 * c) h1 h2 (fun k hk => evn_hi _ k (by omega))
        subst hE
        refine r_callVv C (As := []) (rest := []) dX0_unmixColumns_107 (cX0_mixColumns9 l_o l_bl n_o_bl (ws_ne n_o_bl w_o) (B := evn B) ws_eq (b16_evn hB)) okX0_mixColumns mlRX0_57 imX0_mixColumns seX0_mixColumns ⟨by decide, by decide⟩ rfl rfl l_o (ws_ne n_o_bl w_o) rfl rfl (Nat.le_of_ble_eq_true rfl) (by decide) (by decide) (fun w9 h9 => ?_)
        obtain rfl := h9
        refine r_eq rfl rfl ws_same ?_
        exact r_return C T_ rfl dX0_unmixColumns_110 (⟨rfl, rfl⟩)
      · skip
        have c_5 : ¬ (16 ≤ (4 * c)) := fun h9 => c_5 ((nI_leI (a := 16) (b := 4 * c) (by omega) (by omega)).mpr h9)
        refine r_aload_n C dX0_unmixColumns_8 rfl ?_
        refine r_get C dX0_unmixColumns_9 fgRX0_18 l_o (ws_ne n_o_bl w_o) rfl ?_
        refine r_iload_n C dX0_unmixColumns_12 rfl ?_
        refine r_ialdN C dX0_unmixColumns_13 l_bl ws_eq (j := 4 * c) rfl (by omega) (by decide) ?_
        refine r_top (y := nI (B (4 * c))) (congrArg nI (h2 _ (by omega))) ?_
        refine r_aload_n C dX0_unmixColumns_14 rfl ?_
        refine r_get C dX0_unmixColumns_15 fgRX0_18 l_o (ws_ne n_o_bl w_o) rfl ?_
        refine r_iload_n C dX0_unmixColumns_18 rfl ?_
        refine r_iconst C dX0_unmixColumns_19 (v := 2) (by decide) ?_
        refine r_iadd C dX0_unmixColumns_20 ?_
        refine r_top (y := nI ((4 * c) + 2)) (nI_add (4 * c) 2) ?_
        refine r_ialdN C dX0_unmixColumns_21 l_bl ws_eq (j := (4 * c) + 2) rfl (by omega) (by decide) ?_
        refine r_top (y := nI (B (4 * c + 2))) (congrArg nI (h2 _ (by omega))) ?_
        refine r_ixor C dX0_unmixColumns_22 ?_
        refine r_top (y := nI ((B (4 * c)) ^^^ (B (4 * c + 2)))) (nx_xor9 (B (4 * c)) (B (4 * c + 2))) ?_
        have b0 := hB (4 * c) (by omega)
        have b1 := hB (4 * c + 1) (by omega)
        have b2 := hB (4 * c + 2) (by omega)
        have b3 := hB (4 * c + 3) (by omega)
        have x9 := xor_lt b0 b2
        refine r_callSi C (As := [.int (nI ((B (4 * c)) ^^^ (B (4 * c + 2))))]) (rest := []) dX0_unmixColumns_23 (cX0_twice9 (b := (B (4 * c)) ^^^ (B (4 * c + 2))) (by assumption)) okX0_twice mlRX0_36 stX0_twice ⟨by decide, by decide⟩ rfl rfl (Nat.le_of_ble_eq_true rfl) (by decide) (by decide) (fun r1 w9 h9 => ?_)
        obtain ⟨e9, rfl⟩ := h9
        have e9 := e9.symm
        subst e9
        have x9 := xt_lt _ x9
        refine r_callSi C (As := [.int (nI (xt ((B (4 * c)) ^^^ (B (4 * c + 2)))))]) (rest := []) dX0_unmixColumns_26 (cX0_twice9 (b := xt ((B (4 * c)) ^^^ (B (4 * c + 2)))) (by assumption)) okX0_twice mlRX0_36 stX0_twice ⟨by decide, by decide⟩ rfl rfl (Nat.le_of_ble_eq_true rfl) (by decide) (by decide) (fun r2 w9 h9 => ?_)
        obtain ⟨e9, rfl⟩ := h9
        have e9 := e9.symm
        subst e9
        refine r_istore_n C dX0_unmixColumns_29 (L' := [some (.ref o), some (.int (nI (4 * c))), some (.int (nI (xt (xt ((B (4 * c)) ^^^ (B (4 * c + 2))))))), none]) (by decide) rfl ?_
        refine r_aload_n C dX0_unmixColumns_30 rfl ?_
        refine r_get C dX0_unmixColumns_31 fgRX0_18 l_o (ws_ne n_o_bl w_o) rfl ?_
        refine r_iload_n C dX0_unmixColumns_34 rfl ?_
        refine r_iconst C dX0_unmixColumns_35 (v := 1) (by decide) ?_
        refine r_iadd C dX0_unmixColumns_36 ?_
        refine r_top (y := nI ((4 * c) + 1)) (nI_add (4 * c) 1) ?_
        refine r_ialdN C dX0_unmixColumns_37 l_bl ws_eq (j := (4 * c) + 1) rfl (by omega) (by decide) ?_
        refine r_top (y := nI (B (4 * c + 1))) (congrArg nI (h2 _ (by omega))) ?_
        refine r_aload_n C dX0_unmixColumns_38 rfl ?_
        refine r_get C dX0_unmixColumns_39 fgRX0_18 l_o (ws_ne n_o_bl w_o) rfl ?_
        refine r_iload_n C dX0_unmixColumns_42 rfl ?_
        refine r_iconst C dX0_unmixColumns_43 (v := 3) (by decide) ?_
        refine r_iadd C dX0_unmixColumns_44 ?_
        refine r_top (y := nI ((4 * c) + 3)) (nI_add (4 * c) 3) ?_
        refine r_ialdN C dX0_unmixColumns_45 l_bl ws_eq (j := (4 * c) + 3) rfl (by omega) (by decide) ?_
        refine r_top (y := nI (B (4 * c + 3))) (congrArg nI (h2 _ (by omega))) ?_
        refine r_ixor C dX0_unmixColumns_46 ?_
        refine r_top (y := nI ((B (4 * c + 1)) ^^^ (B (4 * c + 3)))) (nx_xor9 (B (4 * c + 1)) (B (4 * c + 3))) ?_
        have x9 := xor_lt b1 b3
        refine r_callSi C (As := [.int (nI ((B (4 * c + 1)) ^^^ (B (4 * c + 3))))]) (rest := []) dX0_unmixColumns_47 (cX0_twice9 (b := (B (4 * c + 1)) ^^^ (B (4 * c + 3))) (by assumption)) okX0_twice mlRX0_36 stX0_twice ⟨by decide, by decide⟩ rfl rfl (Nat.le_of_ble_eq_true rfl) (by decide) (by decide) (fun r3 w9 h9 => ?_)
        obtain ⟨e9, rfl⟩ := h9
        have e9 := e9.symm
        subst e9
        have x9 := xt_lt _ x9
        refine r_callSi C (As := [.int (nI (xt ((B (4 * c + 1)) ^^^ (B (4 * c + 3)))))]) (rest := []) dX0_unmixColumns_50 (cX0_twice9 (b := xt ((B (4 * c + 1)) ^^^ (B (4 * c + 3)))) (by assumption)) okX0_twice mlRX0_36 stX0_twice ⟨by decide, by decide⟩ rfl rfl (Nat.le_of_ble_eq_true rfl) (by decide) (by decide) (fun r4 w9 h9 => ?_)
        obtain ⟨e9, rfl⟩ := h9
        have e9 := e9.symm
        subst e9
        refine r_istore_n C dX0_unmixColumns_53 (L' := [some (.ref o), some (.int (nI (4 * c))), some (.int (nI (xt (xt ((B (4 * c)) ^^^ (B (4 * c + 2))))))), some (.int (nI (xt (xt ((B (4 * c + 1)) ^^^ (B (4 * c + 3)))))))]) (by decide) rfl ?_
        refine r_aload_n C dX0_unmixColumns_54 rfl ?_
        refine r_get C dX0_unmixColumns_55 fgRX0_18 l_o (ws_ne n_o_bl w_o) rfl ?_
        refine r_iload_n C dX0_unmixColumns_58 rfl ?_
        refine r_dup2 C dX0_unmixColumns_59 rfl rfl ?_
        refine r_ialdN C dX0_unmixColumns_60 l_bl ws_eq (j := 4 * c) rfl (by omega) (by decide) ?_
        refine r_top (y := nI (B (4 * c))) (congrArg nI (by rw [h2 _ (by omega)])) ?_
        refine r_iload_n C dX0_unmixColumns_61 rfl ?_
        refine r_ixor C dX0_unmixColumns_62 ?_
        refine r_top (y := nI ((B (4 * c)) ^^^ (xt (xt ((B (4 * c)) ^^^ (B (4 * c + 2))))))) (nx_xor9 (B (4 * c)) (xt (xt ((B (4 * c)) ^^^ (B (4 * c + 2)))))) ?_
        refine r_iastF C dX0_unmixColumns_63 l_bl ws_eq (j := 4 * c) (x := (B (4 * c)) ^^^ (xt (xt ((B (4 * c)) ^^^ (B (4 * c + 2)))))) rfl rfl (by omega) (by decide) ?_
        refine r_eq rfl rfl ws_same ?_
        refine r_aload_n C dX0_unmixColumns_64 rfl ?_
        refine r_get C dX0_unmixColumns_65 fgRX0_18 l_o (ws_ne n_o_bl w_o) rfl ?_
        refine r_iload_n C dX0_unmixColumns_68 rfl ?_
        refine r_iconst C dX0_unmixColumns_69 (v := 1) (by decide) ?_
        refine r_iadd C dX0_unmixColumns_70 ?_
        refine r_top (y := nI ((4 * c) + 1)) (nI_add (4 * c) 1) ?_
        refine r_dup2 C dX0_unmixColumns_71 rfl rfl ?_
        refine r_ialdN C dX0_unmixColumns_72 l_bl ws_eq (j := (4 * c) + 1) rfl (by omega) (by decide) ?_
        refine r_top (y := nI (B (4 * c + 1))) (congrArg nI (by rw [upn_ne (by omega)]; rw [h2 _ (by omega)])) ?_
        refine r_iload_n C dX0_unmixColumns_73 rfl ?_
        refine r_ixor C dX0_unmixColumns_74 ?_
        refine r_top (y := nI ((B (4 * c + 1)) ^^^ (xt (xt ((B (4 * c + 1)) ^^^ (B (4 * c + 3))))))) (nx_xor9 (B (4 * c + 1)) (xt (xt ((B (4 * c + 1)) ^^^ (B (4 * c + 3)))))) ?_
        refine r_iastF C dX0_unmixColumns_75 l_bl ws_eq (j := (4 * c) + 1) (x := (B (4 * c + 1)) ^^^ (xt (xt ((B (4 * c + 1)) ^^^ (B (4 * c + 3)))))) rfl rfl (by omega) (by decide) ?_
        refine r_eq rfl rfl ws_same ?_
        refine r_aload_n C dX0_unmixColumns_76 rfl ?_
        refine r_get C dX0_unmixColumns_77 fgRX0_18 l_o (ws_ne n_o_bl w_o) rfl ?_
        refine r_iload_n C dX0_unmixColumns_80 rfl ?_
        refine r_iconst C dX0_unmixColumns_81 (v := 2) (by decide) ?_
        refine r_iadd C dX0_unmixColumns_82 ?_
        refine r_top (y := nI ((4 * c) + 2)) (nI_add (4 * c) 2) ?_
        refine r_dup2 C dX0_unmixColumns_83 rfl rfl ?_
        refine r_ialdN C dX0_unmixColumns_84 l_bl ws_eq (j := (4 * c) + 2) rfl (by omega) (by decide) ?_
        refine r_top (y := nI (B (4 * c + 2))) (congrArg nI (by rw [upn_ne (by omega)]; rw [upn_ne (by omega)]; rw [h2 _ (by omega)])) ?_
        refine r_iload_n C dX0_unmixColumns_85 rfl ?_
        refine r_ixor C dX0_unmixColumns_86 ?_
        refine r_top (y := nI ((B (4 * c + 2)) ^^^ (xt (xt ((B (4 * c)) ^^^ (B (4 * c + 2))))))) (nx_xor9 (B (4 * c + 2)) (xt (xt ((B (4 * c)) ^^^ (B (4 * c + 2)))))) ?_
        refine r_iastF C dX0_unmixColumns_87 l_bl ws_eq (j := (4 * c) + 2) (x := (B (4 * c + 2)) ^^^ (xt (xt ((B (4 * c)) ^^^ (B (4 * c + 2)))))) rfl rfl (by omega) (by decide) ?_
        refine r_eq rfl rfl ws_same ?_
        refine r_aload_n C dX0_unmixColumns_88 rfl ?_
        refine r_get C dX0_unmixColumns_89 fgRX0_18 l_o (ws_ne n_o_bl w_o) rfl ?_
        refine r_iload_n C dX0_unmixColumns_92 rfl ?_
        refine r_iconst C dX0_unmixColumns_93 (v := 3) (by decide) ?_
        refine r_iadd C dX0_unmixColumns_94 ?_
        refine r_top (y := nI ((4 * c) + 3)) (nI_add (4 * c) 3) ?_
        refine r_dup2 C dX0_unmixColumns_95 rfl rfl ?_
        refine r_ialdN C dX0_unmixColumns_96 l_bl ws_eq (j := (4 * c) + 3) rfl (by omega) (by decide) ?_
        refine r_top (y := nI (B (4 * c + 3))) (congrArg nI (by rw [upn_ne (by omega)]; rw [upn_ne (by omega)]; rw [upn_ne (by omega)]; rw [h2 _ (by omega)])) ?_
        refine r_iload_n C dX0_unmixColumns_97 rfl ?_
        refine r_ixor C dX0_unmixColumns_98 ?_
        refine r_top (y := nI ((B (4 * c + 3)) ^^^ (xt (xt ((B (4 * c + 1)) ^^^ (B (4 * c + 3))))))) (nx_xor9 (B (4 * c + 3)) (xt (xt ((B (4 * c + 1)) ^^^ (B (4 * c + 3)))))) ?_
        refine r_iastF C dX0_unmixColumns_99 l_bl ws_eq (j := (4 * c) + 3) (x := (B (4 * c + 3)) ^^^ (xt (xt ((B (4 * c + 1)) ^^^ (B (4 * c + 3)))))) rfl rfl (by omega) (by decide) ?_
        refine r_eq rfl rfl ws_same ?_
        refine r_iinc C dX0_unmixColumns_100 (v := nI (4 * (c + 1))) (L' := [some (.ref o), some (.int (nI (4 * (c + 1)))), some (.int (nI (xt (xt ((B (4 * c)) ^^^ (B (4 * c + 2))))))), some (.int (nI (xt (xt ((B (4 * c + 1)) ^^^ (B (4 * c + 3)))))))]) rfl ((nI_add (4 * c) 4).trans (congrArg nI (by omega))) (by decide) rfl ?_
        refine r_goto C 2 dX0_unmixColumns_103 (by decide) ?_
        refine r_forget [some (.ref o), some (.int (nI (4 * (c + 1)))), none, none] ⟨Or.inr rfl, Or.inr rfl, Or.inl rfl, Or.inl rfl, trivial⟩ ?_
        exact ih_2 (c + 1) _ (by omega) (by omega) (col4 h1 (by rw [show evn B (4 * c) = evn B (4 * c + 0) from rfl, evn_0 B (by omega) (Or.inl rfl)]; rfl) (by rw [evn_1 B (by omega) (Or.inl rfl)]) (by rw [evn_0 B (by omega) (Or.inr rfl)]) (by rw [evn_1 B (by omega) (Or.inr rfl)])) (col4' h2)
  refine r_eq rfl rfl (ws_self w_bl).symm ?_
  exact loop_2 _ 0 B (Nat.lt_succ_self _) (by omega) (fun k hk => absurd hk (by omega)) (fun k hk => rfl)
end
section
set_option maxHeartbeats 4000000 in
set_option maxRecDepth 100000 in
theorem cX0_makeBlock9 {w : Wo} {o cl bl be : Nat} (l_o : o < NW) (l_cl : cl < NW) (l_bl : bl < NW) (l_be : be < NW) (n_o_cl : o ≠ cl) (n_o_bl : o ≠ bl) (n_o_be : o ≠ be) (n_cl_bl : cl ≠ bl) (n_cl_be : cl ≠ be) (n_bl_be : bl ≠ be) {sb : Nat} (w_o : w o = ob 0 [.ref sb, .ref cl, .ref bl, .ref be]) {B K : Nat → Nat} {fe : Nat → Int32} (w_bl : w bl = ia 16 (nf B)) (w_cl : w cl = ia 176 (nf K)) (w_be : w be = ia 16 fe) (hB : b16 B) {KK : Nat → Nat} (hK : ∀ k, k < 176 → K k = KK k) (hKK : ∀ k, k < 176 → KK k < 256) : Ctr mX0_makeBlock [.ref o] w (PV fun w' => ∃ fe', w' = wset (wset w bl (ia 16 (nf (mkB KK B)))) be (ia 16 fe')) := by
  refine Ctr_intro okX0_makeBlock rfl (Nat.le_of_ble_eq_true rfl) (L := [some (.ref o), none]) rfl (fun g ct C T_ => ?_)
  refine r_aload_n C dX0_makeBlock_0 rfl ?_
  refine r_iconst C dX0_makeBlock_1 (v := 0) (by decide) ?_
  refine r_callVv C (As := [.int 0]) (rest := []) dX0_makeBlock_2 (cX0_addColumns9 l_o l_cl l_bl n_o_cl n_o_bl n_cl_bl w_o (B := B) w_bl w_cl hK (r := 0) (by omega)) okX0_addColumns mlRX0_50 imX0_addColumns seX0_addColumns ⟨by decide, by decide⟩ rfl rfl l_o w_o rfl rfl (Nat.le_of_ble_eq_true rfl) (by decide) (by decide) (fun w9 h9 => ?_)
  obtain rfl := h9
  refine r_iconst C dX0_makeBlock_5 (v := 1) (by decide) ?_
  refine r_istore_n C dX0_makeBlock_6 (L' := [some (.ref o), some (.int 1)]) (by decide) rfl ?_
  have loop_7 : ∀ (d9 : Nat) (r : Nat) (B1 : Nat → Nat) (fe1 : Nat → Int32), 10 - r < d9 → r ≤ 10 → B1 = mkR KK r B → Az g mX0_makeBlock ct 0 0 7 [some (.ref o), some (.int (nI (r + 1)))] [] (wset (wset w bl (ia 16 (nf B1))) be (ia 16 fe1)) := by
    intro d9
    induction d9 with
    | zero => intro r B1 fe1 hd9; exact absurd hd9 (Nat.not_lt_zero _)
    | succ d9 ih_7 =>
      intro r B1 fe1 hd9 hr hB1
      have hB6 : b16 B1 := by rw [hB1]; exact b16_mkR hKK hB r hr
      refine r_iload_n C dX0_makeBlock_7 rfl ?_
      refine r_bipush C dX0_makeBlock_8 (v := 10) (by decide) ?_
      refine r_icmp_gt C 38 dX0_makeBlock_10 (by decide) (fun c_10 => ?_) (fun c_10 => ?_)
      · skip
        have c_10 : 10 < (r + 1) := (nI_ltI (a := 10) (b := r + 1) (by omega) (by omega)).mp c_10
        exact r_return C T_ rfl dX0_makeBlock_38 (⟨rfl, _, by rw [hB1, show r = 10 by omega]; rfl⟩)
      · skip
        have c_10 : ¬ (10 < (r + 1)) := fun h9 => c_10 ((nI_ltI (a := 10) (b := r + 1) (by omega) (by omega)).mpr h9)
        refine r_aload_n C dX0_makeBlock_13 rfl ?_
        refine r_callVv C (As := []) (rest := []) dX0_makeBlock_14 (cX0_swapAndTurn9 l_o l_bl l_be n_o_bl n_o_be n_bl_be (ws_ne n_o_be (ws_ne n_o_bl w_o)) (B := B1) (ws_ne n_bl_be ws_eq) ws_eq hB6) okX0_swapAndTurn mlRX0_54 imX0_swapAndTurn seX0_swapAndTurn ⟨by decide, by decide⟩ rfl rfl l_o (ws_ne n_o_be (ws_ne n_o_bl w_o)) rfl rfl (Nat.le_of_ble_eq_true rfl) (by decide) (by decide) (fun w9 h9 => ?_)
        obtain ⟨fe1, rfl⟩ := h9
        refine r_eq rfl rfl ((congrArg (fun z => wset (z) bl (ia 16 (nf (swT B1)))) ws_same).trans ((ws_comm n_bl_be).trans (congrArg (fun z => wset z be (ia 16 fe1)) ws_same))) ?_
        refine r_iload_n C dX0_makeBlock_17 rfl ?_
        refine r_bipush C dX0_makeBlock_18 (v := 10) (by decide) ?_
        refine r_icmp_ge C 27 dX0_makeBlock_20 (by decide) (fun c_20 => ?_) (fun c_20 => ?_)
        · skip
          have c_20 : 10 ≤ (r + 1) := (nI_leI (a := 10) (b := r + 1) (by omega) (by omega)).mp c_20
          refine r_aload_n C dX0_makeBlock_27 rfl ?_
          refine r_iload_n C dX0_makeBlock_28 rfl ?_
          refine r_callVv C (As := [.int (nI (r + 1))]) (rest := []) dX0_makeBlock_29 (cX0_addColumns9 l_o l_cl l_bl n_o_cl n_o_bl n_cl_bl (ws_ne n_o_be (ws_ne n_o_bl w_o)) (B := swT B1) (ws_ne n_bl_be ws_eq) (ws_ne n_cl_be (ws_ne n_cl_bl w_cl)) hK (r := r + 1) (by omega)) okX0_addColumns mlRX0_50 imX0_addColumns seX0_addColumns ⟨by decide, by decide⟩ rfl rfl l_o (ws_ne n_o_be (ws_ne n_o_bl w_o)) rfl rfl (Nat.le_of_ble_eq_true rfl) (by decide) (by decide) (fun w9 h9 => ?_)
          obtain rfl := h9
          refine r_eq rfl rfl ((ws_comm n_bl_be).trans (congrArg (fun z => wset z be (ia 16 fe1)) ws_same)) ?_
          refine r_iinc C dX0_makeBlock_32 (v := nI ((r + 1) + 1)) (L' := [some (.ref o), some (.int (nI ((r + 1) + 1)))]) rfl (nI_add (r + 1) 1) (by decide) rfl ?_
          refine r_goto C 7 dX0_makeBlock_35 (by decide) ?_
          exact ih_7 (r + 1) _ _ (by omega) (by omega) (by rw [mkR, if_neg (show ¬ r + 1 < 10 by omega), ← hB1])
        · skip
          have c_20 : ¬ (10 ≤ (r + 1)) := fun h9 => c_20 ((nI_leI (a := 10) (b := r + 1) (by omega) (by omega)).mpr h9)
          refine r_aload_n C dX0_makeBlock_23 rfl ?_
          refine r_callVv C (As := []) (rest := []) dX0_makeBlock_24 (cX0_mixColumns9 l_o l_bl n_o_bl (ws_ne n_o_be (ws_ne n_o_bl w_o)) (B := swT B1) (ws_ne n_bl_be ws_eq) b16_swT) okX0_mixColumns mlRX0_57 imX0_mixColumns seX0_mixColumns ⟨by decide, by decide⟩ rfl rfl l_o (ws_ne n_o_be (ws_ne n_o_bl w_o)) rfl rfl (Nat.le_of_ble_eq_true rfl) (by decide) (by decide) (fun w9 h9 => ?_)
          obtain rfl := h9
          refine r_eq rfl rfl ((ws_comm n_bl_be).trans (congrArg (fun z => wset z be (ia 16 fe1)) ws_same)) ?_
          refine r_aload_n C dX0_makeBlock_27 rfl ?_
          refine r_iload_n C dX0_makeBlock_28 rfl ?_
          refine r_callVv C (As := [.int (nI (r + 1))]) (rest := []) dX0_makeBlock_29 (cX0_addColumns9 l_o l_cl l_bl n_o_cl n_o_bl n_cl_bl (ws_ne n_o_be (ws_ne n_o_bl w_o)) (B := mixC (swT B1)) (ws_ne n_bl_be ws_eq) (ws_ne n_cl_be (ws_ne n_cl_bl w_cl)) hK (r := r + 1) (by omega)) okX0_addColumns mlRX0_50 imX0_addColumns seX0_addColumns ⟨by decide, by decide⟩ rfl rfl l_o (ws_ne n_o_be (ws_ne n_o_bl w_o)) rfl rfl (Nat.le_of_ble_eq_true rfl) (by decide) (by decide) (fun w9 h9 => ?_)
          obtain rfl := h9
          refine r_eq rfl rfl ((ws_comm n_bl_be).trans (congrArg (fun z => wset z be (ia 16 fe1)) ws_same)) ?_
          refine r_iinc C dX0_makeBlock_32 (v := nI ((r + 1) + 1)) (L' := [some (.ref o), some (.int (nI ((r + 1) + 1)))]) rfl (nI_add (r + 1) 1) (by decide) rfl ?_
          refine r_goto C 7 dX0_makeBlock_35 (by decide) ?_
          exact ih_7 (r + 1) _ _ (by omega) (by omega) (by rw [mkR, if_pos (show r + 1 < 10 by omega), ← hB1])
  refine r_eq rfl rfl (ws_self (ws_ne (Ne.symm n_bl_be) w_be)).symm ?_
  exact loop_7 _ 0 _ fe (Nat.lt_succ_self _) (by omega) rfl
set_option maxHeartbeats 4000000 in
set_option maxRecDepth 100000 in
theorem cX0_unmakeBlock9 {w : Wo} {o sb cl bl be : Nat} (l_o : o < NW) (l_sb : sb < NW) (l_cl : cl < NW) (l_bl : bl < NW) (l_be : be < NW) (n_o_sb : o ≠ sb) (n_o_cl : o ≠ cl) (n_o_bl : o ≠ bl) (n_o_be : o ≠ be) (n_sb_cl : sb ≠ cl) (n_sb_bl : sb ≠ bl) (n_sb_be : sb ≠ be) (n_cl_bl : cl ≠ bl) (n_cl_be : cl ≠ be) (n_bl_be : bl ≠ be) (w_o : w o = ob 0 [.ref sb, .ref cl, .ref bl, .ref be]) {B K SB : Nat → Nat} {fe : Nat → Int32} (w_sb : w sb = ia 256 (nf SB)) (hsb : ∀ x, x < 256 → SB x = bk x) (w_bl : w bl = ia 16 (nf B)) (w_cl : w cl = ia 176 (nf K)) (w_be : w be = ia 16 fe) (hB : b16 B) {KK : Nat → Nat} (hK : ∀ k, k < 176 → K k = KK k) (hKK : ∀ k, k < 176 → KK k < 256) : Ctr mX0_unmakeBlock [.ref o] w (PV fun w' => ∃ fe', w' = wset (wset w bl (ia 16 (nf (umB KK B)))) be (ia 16 fe')) := by
  refine Ctr_intro okX0_unmakeBlock rfl (Nat.le_of_ble_eq_true rfl) (L := [some (.ref o), none]) rfl (fun g ct C T_ => ?_)
  refine r_bipush C dX0_unmakeBlock_0 (v := 10) (by decide) ?_
  refine r_istore_n C dX0_unmakeBlock_2 (L' := [some (.ref o), some (.int 10)]) (by decide) rfl ?_
  have loop_3 : ∀ (d9 : Nat) (r : Nat) (B1 : Nat → Nat) (fe1 : Nat → Int32), 10 - r < d9 → r ≤ 10 → B1 = umR KK r B → Az g mX0_unmakeBlock ct 0 0 3 [some (.ref o), some (.int (nI (10 - r)))] [] (wset (wset w bl (ia 16 (nf B1))) be (ia 16 fe1)) := by
    intro d9
    induction d9 with
    | zero => intro r B1 fe1 hd9; exact absurd hd9 (Nat.not_lt_zero _)
    | succ d9 ih_3 =>
      intro r B1 fe1 hd9 hr hB1
      have hB6 : b16 B1 := by rw [hB1]; exact b16_umR hKK hB r hr
      refine r_iload_n C dX0_unmakeBlock_3 rfl ?_
      refine r_iconst C dX0_unmakeBlock_4 (v := 1) (by decide) ?_
      refine r_icmp_lt C 33 dX0_unmakeBlock_5 (by decide) (fun c_5 => ?_) (fun c_5 => ?_)
      · skip
        have c_5 : (10 - r) < 1 := (nI_ltI (a := 10 - r) (b := 1) (by omega) (by omega)).mp c_5
        refine r_aload_n C dX0_unmakeBlock_33 rfl ?_
        refine r_iconst C dX0_unmakeBlock_34 (v := 0) (by decide) ?_
        refine r_callVv C (As := [.int 0]) (rest := []) dX0_unmakeBlock_35 (cX0_addColumns9 l_o l_cl l_bl n_o_cl n_o_bl n_cl_bl (ws_ne n_o_be (ws_ne n_o_bl w_o)) (B := B1) (ws_ne n_bl_be ws_eq) (ws_ne n_cl_be (ws_ne n_cl_bl w_cl)) hK (r := 0) (by omega)) okX0_addColumns mlRX0_50 imX0_addColumns seX0_addColumns ⟨by decide, by decide⟩ rfl rfl l_o (ws_ne n_o_be (ws_ne n_o_bl w_o)) rfl rfl (Nat.le_of_ble_eq_true rfl) (by decide) (by decide) (fun w9 h9 => ?_)
        obtain rfl := h9
        refine r_eq rfl rfl ((ws_comm n_bl_be).trans (congrArg (fun z => wset z be (ia 16 fe1)) ws_same)) ?_
        exact r_return C T_ rfl dX0_unmakeBlock_38 (⟨rfl, _, by rw [hB1, show r = 10 by omega]; rfl⟩)
      · skip
        have c_5 : ¬ ((10 - r) < 1) := fun h9 => c_5 ((nI_ltI (a := 10 - r) (b := 1) (by omega) (by omega)).mpr h9)
        refine r_aload_n C dX0_unmakeBlock_8 rfl ?_
        refine r_iload_n C dX0_unmakeBlock_9 rfl ?_
        refine r_callVv C (As := [.int (nI (10 - r))]) (rest := []) dX0_unmakeBlock_10 (cX0_addColumns9 l_o l_cl l_bl n_o_cl n_o_bl n_cl_bl (ws_ne n_o_be (ws_ne n_o_bl w_o)) (B := B1) (ws_ne n_bl_be ws_eq) (ws_ne n_cl_be (ws_ne n_cl_bl w_cl)) hK (r := 10 - r) (by omega)) okX0_addColumns mlRX0_50 imX0_addColumns seX0_addColumns ⟨by decide, by decide⟩ rfl rfl l_o (ws_ne n_o_be (ws_ne n_o_bl w_o)) rfl rfl (Nat.le_of_ble_eq_true rfl) (by decide) (by decide) (fun w9 h9 => ?_)
        obtain rfl := h9
        refine r_eq rfl rfl ((ws_comm n_bl_be).trans (congrArg (fun z => wset z be (ia 16 fe1)) ws_same)) ?_
        refine r_iload_n C dX0_unmakeBlock_13 rfl ?_
        refine r_bipush C dX0_unmakeBlock_14 (v := 10) (by decide) ?_
        refine r_icmp_ge C 23 dX0_unmakeBlock_16 (by decide) (fun c_16 => ?_) (fun c_16 => ?_)
        · skip
          have c_16 : 10 ≤ (10 - r) := (nI_leI (a := 10) (b := 10 - r) (by omega) (by omega)).mp c_16
          refine r_aload_n C dX0_unmakeBlock_23 rfl ?_
          refine r_callVv C (As := []) (rest := []) dX0_unmakeBlock_24 (cX0_swapAndTurnBack9 l_o l_sb l_bl l_be n_o_sb n_o_bl n_o_be n_sb_bl n_sb_be n_bl_be (ws_ne n_o_be (ws_ne n_o_bl w_o)) (B := addC KK (10 - r) B1) (ws_ne n_sb_be (ws_ne n_sb_bl w_sb)) hsb (ws_ne n_bl_be ws_eq) ws_eq (b16_addC hKK (by omega) hB6)) okX0_swapAndTurnBack mlRX0_63 imX0_swapAndTurnBack seX0_swapAndTurnBack ⟨by decide, by decide⟩ rfl rfl l_o (ws_ne n_o_be (ws_ne n_o_bl w_o)) rfl rfl (Nat.le_of_ble_eq_true rfl) (by decide) (by decide) (fun w9 h9 => ?_)
          obtain ⟨fe1, rfl⟩ := h9
          refine r_eq rfl rfl ((congrArg (fun z => wset (z) bl (ia 16 (nf (swTB (addC KK (10 - r) B1))))) ws_same).trans ((ws_comm n_bl_be).trans (congrArg (fun z => wset z be (ia 16 fe1)) ws_same))) ?_
          refine r_iinc C dX0_unmakeBlock_27 (v := nI (10 - (r + 1))) (L' := [some (.ref o), some (.int (nI (10 - (r + 1))))]) rfl ((nI_dec1 (by omega)).trans (congrArg nI (by omega))) (by decide) rfl ?_
          refine r_goto C 3 dX0_unmakeBlock_30 (by decide) ?_
          exact ih_3 (r + 1) _ _ (by omega) (by omega) (by rw [umR, if_neg (show ¬ 10 - r < 10 by omega), ← hB1])
        · skip
          have c_16 : ¬ (10 ≤ (10 - r)) := fun h9 => c_16 ((nI_leI (a := 10) (b := 10 - r) (by omega) (by omega)).mpr h9)
          refine r_aload_n C dX0_unmakeBlock_19 rfl ?_
          refine r_callVv C (As := []) (rest := []) dX0_unmakeBlock_20 (cX0_unmixColumns9 l_o l_bl n_o_bl (ws_ne n_o_be (ws_ne n_o_bl w_o)) (B := addC KK (10 - r) B1) (ws_ne n_bl_be ws_eq) (b16_addC hKK (by omega) hB6)) okX0_unmixColumns mlRX0_60 imX0_unmixColumns seX0_unmixColumns ⟨by decide, by decide⟩ rfl rfl l_o (ws_ne n_o_be (ws_ne n_o_bl w_o)) rfl rfl (Nat.le_of_ble_eq_true rfl) (by decide) (by decide) (fun w9 h9 => ?_)
          obtain rfl := h9
          refine r_eq rfl rfl ((ws_comm n_bl_be).trans (congrArg (fun z => wset z be (ia 16 fe1)) ws_same)) ?_
          refine r_aload_n C dX0_unmakeBlock_23 rfl ?_
          refine r_callVv C (As := []) (rest := []) dX0_unmakeBlock_24 (cX0_swapAndTurnBack9 l_o l_sb l_bl l_be n_o_sb n_o_bl n_o_be n_sb_bl n_sb_be n_bl_be (ws_ne n_o_be (ws_ne n_o_bl w_o)) (B := unmixC (addC KK (10 - r) B1)) (ws_ne n_sb_be (ws_ne n_sb_bl w_sb)) hsb (ws_ne n_bl_be ws_eq) ws_eq (b16_unmixC (b16_addC hKK (by omega) hB6))) okX0_swapAndTurnBack mlRX0_63 imX0_swapAndTurnBack seX0_swapAndTurnBack ⟨by decide, by decide⟩ rfl rfl l_o (ws_ne n_o_be (ws_ne n_o_bl w_o)) rfl rfl (Nat.le_of_ble_eq_true rfl) (by decide) (by decide) (fun w9 h9 => ?_)
          obtain ⟨fe2, rfl⟩ := h9
          refine r_eq rfl rfl ((congrArg (fun z => wset (z) bl (ia 16 (nf (swTB (unmixC (addC KK (10 - r) B1)))))) ws_same).trans ((ws_comm n_bl_be).trans (congrArg (fun z => wset z be (ia 16 fe2)) ws_same))) ?_
          refine r_iinc C dX0_unmakeBlock_27 (v := nI (10 - (r + 1))) (L' := [some (.ref o), some (.int (nI (10 - (r + 1))))]) rfl ((nI_dec1 (by omega)).trans (congrArg nI (by omega))) (by decide) rfl ?_
          refine r_goto C 3 dX0_unmakeBlock_30 (by decide) ?_
          exact ih_3 (r + 1) _ _ (by omega) (by omega) (by rw [umR, if_pos (show 10 - r < 10 by omega), ← hB1])
  refine r_eq rfl rfl (ws_self w_bl).symm ?_
  refine r_eq rfl rfl (ws_self (ws_ne (Ne.symm n_bl_be) w_be)).symm ?_
  exact loop_3 _ 0 _ fe (Nat.lt_succ_self _) (by omega) rfl
theorem gd_ge {xs : List Nat} {k : Nat} (h : xs.length ≤ k) : xs.getD k 0 = 0 := by simp [List.getD, List.getElem?_eq_none h]
theorem ex4 {K1 X : Nat → Nat} {m x0 x1 x2 x3 : Nat} (h : ∀ k, k < 4 * (m + 4) → K1 k = X k) : ∀ k, k < 4 * (m + 1 + 4) → upn (upn (upn (upn K1 (4 * (m + 4)) x0) (4 * (m + 4) + 1) x1) (4 * (m + 4) + 2) x2) (4 * (m + 4) + 3) x3 k = upn (upn (upn (upn X (4 * (m + 4)) x0) (4 * (m + 4) + 1) x1) (4 * (m + 4) + 2) x2) (4 * (m + 4) + 3) x3 k := by
  intro k hk
  unfold upn
  split
  · rfl
  · split
    · rfl
    · split
      · rfl
      · split
        · rfl
        · exact h k (by omega)
theorem exs {K2 X : Nat → Nat} {i j : Nat} (h4 : ∀ m, i ≤ m → m < i + j → K2 m = X (m - 16) ^^^ X (m - 4)) : ∀ m, i ≤ m → m < i + (j + 1) → upn K2 (i + j) (X (i + j - 16) ^^^ X (i + j - 4)) m = X (m - 16) ^^^ X (m - 4) := by
  intro m h1 h2
  unfold upn
  by_cases e : m = i + j
  · rw [if_pos e, e]
  · rw [if_neg e]
    exact h4 m h1 (by omega)
theorem exn {K2 X : Nat → Nat} {c j : Nat} (h3 : ∀ m, m < 4 * (c + 4) → K2 m = X m) (h4 : ∀ m, 4 * (c + 4) ≤ m → m < 4 * (c + 4) + j → K2 m = X (m - 16) ^^^ X (m - 4)) (hj : 4 ≤ j) : ∀ k, k < 4 * (c + 1 + 4) → K2 k = if 4 * (c + 4) ≤ k ∧ k < 4 * (c + 4) + 4 then X (k - 16) ^^^ X (k - 4) else X k := by
  intro k hk
  by_cases e : k < 4 * (c + 4)
  · rw [if_neg (by omega)]
    exact h3 k e
  · rw [if_pos (by omega)]
    exact h4 k (by omega) (by omega)
set_option maxHeartbeats 4000000 in
set_option maxRecDepth 100000 in
theorem cX0_expand9 {w : Wo} {o cl a b : Nat} (l_o : o < NW) (l_cl : cl < NW) (l_a : a < NW) (l_b : b < NW) (n_o_cl : o ≠ cl) (n_o_a : o ≠ a) (n_o_b : o ≠ b) (n_cl_a : cl ≠ a) (n_cl_b : cl ≠ b) (n_a_b : a ≠ b) {sb bl be n : Nat} (w_o : w o = ob 0 [.ref sb, .ref cl, .ref bl, .ref be]) {K : Nat → Nat} (w_cl : w cl = ia 176 (nf K)) {f : Nat → Int32} {xs : List Nat} (w_a : w a = ob 3 [.ref b, .int (nI xs.length)]) (w_b : w b = ia n f) (h_xs : hs f xs) (k_xs : xs.length ≤ n) (hn : n < 2 ^ 31) (h16 : xs.length ≤ 16) (hbx : byt xs) : Ctr mX0_expand [.ref o, .ref a] w (PV fun w' => ∃ K', w' = wset w cl (ia 176 (nf K')) ∧ ∀ k, k < 176 → K' k = kx xs k) := by
  refine Ctr_intro okX0_expand rfl (Nat.le_of_ble_eq_true rfl) (L := [some (.ref o), some (.ref a), none, none, none]) rfl (fun g ct C T_ => ?_)
  refine r_iconst C dX0_expand_0 (v := 0) (by decide) ?_
  refine r_istore_n C dX0_expand_1 (L' := [some (.ref o), some (.ref a), some (.int 0), none, none]) (by decide) rfl ?_
  have loop_2 : ∀ (d9 : Nat) (i : Nat) (K1 : Nat → Nat), 16 - i < d9 → i ≤ 16 → (∀ k, k < i → K1 k = xs.getD k 0) → Az g mX0_expand ct 0 0 2 [some (.ref o), some (.ref a), some (.int (nI i)), none, none] [] (wset w cl (ia 176 (nf K1))) := by
    intro d9
    induction d9 with
    | zero => intro i K1 hd9; exact absurd hd9 (Nat.not_lt_zero _)
    | succ d9 ih_2 =>
      intro i K1 hd9 hi h1
      refine r_iload_n C dX0_expand_2 rfl ?_
      refine r_bipush C dX0_expand_3 (v := 16) (by decide) ?_
      refine r_icmp_ge C 38 dX0_expand_5 (by decide) (fun c_5 => ?_) (fun c_5 => ?_)
      · skip
        have c_5 : 16 ≤ i := (nI_leI (a := 16) (b := i) (by omega) (by omega)).mp c_5
        refine r_iconst C dX0_expand_38 (v := 1) (by decide) ?_
        refine r_istore_n C dX0_expand_39 (L' := [some (.ref o), some (.ref a), some (.int 1), none, none]) (by decide) rfl ?_
        refine r_bipush C dX0_expand_40 (v := 16) (by decide) ?_
        refine r_istore_n C dX0_expand_42 (L' := [some (.ref o), some (.ref a), some (.int 1), some (.int 16), none]) (by decide) rfl ?_
        have loop_43 : ∀ (d9 : Nat) (c : Nat) (e : Nat) (X : Nat → Nat) (K1 : Nat → Nat), 40 - c < d9 → c ≤ 40 → X = (exS (fun k => xs.getD k 0) c).1 → e = (exS (fun k => xs.getD k 0) c).2 → (∀ k, k < 4 * (c + 4) → K1 k = X k) → Az g mX0_expand ct 0 0 43 [some (.ref o), some (.ref a), some (.int (nI e)), some (.int (nI (4 * (c + 4)))), none] [] (wset w cl (ia 176 (nf K1))) := by
          intro d9
          induction d9 with
          | zero => intro c e X K1 hd9; exact absurd hd9 (Nat.not_lt_zero _)
          | succ d9 ih_43 =>
            intro c e X K1 hd9 hc hX he h2
            have hX6 : ∀ k, X k < 256 := by rw [hX]; exact (exS_lt (fun k => byt_getD hbx k) c).1
            have he6 : e < 256 := by rw [he]; exact (exS_lt (fun k => byt_getD hbx k) c).2
            refine r_iload_n C dX0_expand_43 rfl ?_
            refine r_aload_n C dX0_expand_44 rfl ?_
            refine r_get C dX0_expand_45 fgRX0_15 l_o (ws_ne n_o_cl w_o) rfl ?_
            refine r_alen C dX0_expand_48 l_cl ws_eq ?_
            refine r_icmp_ge C 253 dX0_expand_49 (by decide) (fun c_49 => ?_) (fun c_49 => ?_)
            · skip
              have c_49 : 176 ≤ (4 * (c + 4)) := (nI_leI (a := 176) (b := 4 * (c + 4)) (by omega) (by omega)).mp c_49
              exact r_return C T_ rfl dX0_expand_253 (⟨rfl, K1, rfl, fun k hk => (h2 k (by omega)).trans (by rw [hX, show c = 40 by omega]; rfl)⟩)
            · skip
              have c_49 : ¬ (176 ≤ (4 * (c + 4))) := fun h9 => c_49 ((nI_leI (a := 176) (b := 4 * (c + 4)) (by omega) (by omega)).mpr h9)
              refine r_iload_n C dX0_expand_52 rfl ?_
              refine r_bipush C dX0_expand_53 (v := 16) (by decide) ?_
              refine r_irem C dX0_expand_55 (by decide) ?_
              refine r_top (y := nI ((4 * (c + 4)) % 16)) (pk_rem (a := 4 * (c + 4)) (d := 16) (by omega) (by omega) (by omega)) ?_
              refine r_if_ne C 203 dX0_expand_56 (by decide) (fun c_56 => ?_) (fun c_56 => ?_)
              · skip
                have c_56 : ¬ (((4 * (c + 4)) % 16) = 0) := fun h9 => c_56 ((nI_eq (a := (4 * (c + 4)) % 16) (b := 0) (by omega) (by omega)).mpr h9)
                refine r_iload_n C dX0_expand_203 rfl ?_
                refine r_istore C dX0_expand_204 (L' := [some (.ref o), some (.ref a), some (.int (nI e)), some (.int (nI (4 * (c + 4)))), some (.int (nI (4 * (c + 4))))]) (by decide) rfl ?_
                have loop_206 : ∀ (d9 : Nat) (j : Nat) (K2 : Nat → Nat), 4 - j < d9 → j ≤ 4 → (∀ m, m < 4 * (c + 4) → K2 m = X m) → (∀ m, 4 * (c + 4) ≤ m → m < 4 * (c + 4) + j → K2 m = X (m - 16) ^^^ X (m - 4)) → Az g mX0_expand ct 0 0 206 [some (.ref o), some (.ref a), some (.int (nI e)), some (.int (nI (4 * (c + 4)))), some (.int (nI (4 * (c + 4) + j)))] [] (wset w cl (ia 176 (nf K2))) := by
                  intro d9
                  induction d9 with
                  | zero => intro j K2 hd9; exact absurd hd9 (Nat.not_lt_zero _)
                  | succ d9 ih_206 =>
                    intro j K2 hd9 hj h3 h4
                    refine r_iload C dX0_expand_206 rfl ?_
                    refine r_iload_n C dX0_expand_208 rfl ?_
                    refine r_iconst C dX0_expand_209 (v := 4) (by decide) ?_
                    refine r_iadd C dX0_expand_210 ?_
                    refine r_top (y := nI ((4 * (c + 4)) + 4)) (nI_add (4 * (c + 4)) 4) ?_
                    refine r_icmp_ge C 247 dX0_expand_211 (by decide) (fun c_211 => ?_) (fun c_211 => ?_)
                    · skip
                      have c_211 : ((4 * (c + 4)) + 4) ≤ (4 * (c + 4) + j) := (nI_leI (a := (4 * (c + 4)) + 4) (b := 4 * (c + 4) + j) (by omega) (by omega)).mp c_211
                      refine r_iinc C dX0_expand_247 (v := nI (4 * (c + 1 + 4))) (L' := [some (.ref o), some (.ref a), some (.int (nI e)), some (.int (nI (4 * (c + 1 + 4)))), some (.int (nI (4 * (c + 4) + j)))]) rfl ((nI_add (4 * (c + 4)) 4).trans (congrArg nI (by omega))) (by decide) rfl ?_
                      refine r_goto C 43 dX0_expand_250 (by decide) ?_
                      refine r_forget [some (.ref o), some (.ref a), some (.int (nI e)), some (.int (nI (4 * (c + 1 + 4)))), none] ⟨Or.inr rfl, Or.inr rfl, Or.inr rfl, Or.inr rfl, Or.inl rfl, trivial⟩ ?_
                      exact ih_43 (c + 1) e _ _ (by omega) (by omega) rfl (by rw [exS, if_neg (by omega), he]) (by rw [exS, if_neg (by omega), ← hX]; exact exn h3 h4 (by omega))
                    · skip
                      have c_211 : ¬ (((4 * (c + 4)) + 4) ≤ (4 * (c + 4) + j)) := fun h9 => c_211 ((nI_leI (a := (4 * (c + 4)) + 4) (b := 4 * (c + 4) + j) (by omega) (by omega)).mpr h9)
                      refine r_aload_n C dX0_expand_214 rfl ?_
                      refine r_get C dX0_expand_215 fgRX0_15 l_o (ws_ne n_o_cl w_o) rfl ?_
                      refine r_iload C dX0_expand_218 rfl ?_
                      refine r_aload_n C dX0_expand_220 rfl ?_
                      refine r_get C dX0_expand_221 fgRX0_15 l_o (ws_ne n_o_cl w_o) rfl ?_
                      refine r_iload C dX0_expand_224 rfl ?_
                      refine r_bipush C dX0_expand_226 (v := 16) (by decide) ?_
                      refine r_isub C dX0_expand_228 ?_
                      refine r_top (y := nI ((4 * (c + 4) + j) - 16)) (pk_sub (a := 4 * (c + 4) + j) (b := 16) (by omega)) ?_
                      refine r_ialdN C dX0_expand_229 l_cl ws_eq (j := (4 * (c + 4) + j) - 16) rfl (by omega) (by decide) ?_
                      refine r_top (y := nI (X (4 * (c + 4) + j - 16))) (congrArg nI (h3 _ (by omega))) ?_
                      refine r_aload_n C dX0_expand_230 rfl ?_
                      refine r_get C dX0_expand_231 fgRX0_15 l_o (ws_ne n_o_cl w_o) rfl ?_
                      refine r_iload C dX0_expand_234 rfl ?_
                      refine r_iconst C dX0_expand_236 (v := 4) (by decide) ?_
                      refine r_isub C dX0_expand_237 ?_
                      refine r_top (y := nI ((4 * (c + 4) + j) - 4)) (pk_sub (a := 4 * (c + 4) + j) (b := 4) (by omega)) ?_
                      refine r_ialdN C dX0_expand_238 l_cl ws_eq (j := (4 * (c + 4) + j) - 4) rfl (by omega) (by decide) ?_
                      refine r_top (y := nI (X (4 * (c + 4) + j - 4))) (congrArg nI (h3 _ (by omega))) ?_
                      refine r_ixor C dX0_expand_239 ?_
                      refine r_top (y := nI ((X (4 * (c + 4) + j - 16)) ^^^ (X (4 * (c + 4) + j - 4)))) (nx_xor9 (X (4 * (c + 4) + j - 16)) (X (4 * (c + 4) + j - 4))) ?_
                      refine r_iastF C dX0_expand_240 l_cl ws_eq (j := 4 * (c + 4) + j) (x := (X (4 * (c + 4) + j - 16)) ^^^ (X (4 * (c + 4) + j - 4))) rfl rfl (by omega) (by decide) ?_
                      refine r_eq rfl rfl ws_same ?_
                      refine r_iinc C dX0_expand_241 (v := nI ((4 * (c + 4) + j) + 1)) (L' := [some (.ref o), some (.ref a), some (.int (nI e)), some (.int (nI (4 * (c + 4)))), some (.int (nI ((4 * (c + 4) + j) + 1)))]) rfl (nI_add (4 * (c + 4) + j) 1) (by decide) rfl ?_
                      refine r_goto C 206 dX0_expand_244 (by decide) ?_
                      exact ih_206 (j + 1) _ (by omega) (by omega) (fun m hm => by rw [upn_ne (by omega)]; exact h3 m hm) (exs h4)
                exact loop_206 _ 0 K1 (Nat.lt_succ_self _) (by omega) h2 (fun m h8 h9 => absurd h8 (by omega))
              · skip
                have c_56 : ((4 * (c + 4)) % 16) = 0 := (nI_eq (a := (4 * (c + 4)) % 16) (b := 0) (by omega) (by omega)).mp c_56
                refine r_aload_n C dX0_expand_59 rfl ?_
                refine r_get C dX0_expand_60 fgRX0_15 l_o (ws_ne n_o_cl w_o) rfl ?_
                refine r_iload_n C dX0_expand_63 rfl ?_
                refine r_aload_n C dX0_expand_64 rfl ?_
                refine r_get C dX0_expand_65 fgRX0_15 l_o (ws_ne n_o_cl w_o) rfl ?_
                refine r_iload_n C dX0_expand_68 rfl ?_
                refine r_bipush C dX0_expand_69 (v := 16) (by decide) ?_
                refine r_isub C dX0_expand_71 ?_
                refine r_top (y := nI ((4 * (c + 4)) - 16)) (pk_sub (a := 4 * (c + 4)) (b := 16) (by omega)) ?_
                refine r_ialdN C dX0_expand_72 l_cl ws_eq (j := (4 * (c + 4)) - 16) rfl (by omega) (by decide) ?_
                refine r_top (y := nI (X (4 * (c + 4) - 16))) (congrArg nI (by exact h2 _ (by omega))) ?_
                refine r_gets C (j := 0) dX0_expand_73 rfl slRX0_24 ?_
                refine r_aload_n C dX0_expand_76 rfl ?_
                refine r_get C dX0_expand_77 fgRX0_15 l_o (ws_ne n_o_cl w_o) rfl ?_
                refine r_iload_n C dX0_expand_80 rfl ?_
                refine r_iconst C dX0_expand_81 (v := 3) (by decide) ?_
                refine r_isub C dX0_expand_82 ?_
                refine r_top (y := nI ((4 * (c + 4)) - 3)) (pk_sub (a := 4 * (c + 4)) (b := 3) (by omega)) ?_
                refine r_ialdN C dX0_expand_83 l_cl ws_eq (j := (4 * (c + 4)) - 3) rfl (by omega) (by decide) ?_
                refine r_top (y := nI (X (4 * (c + 4) - 3))) (congrArg nI (by exact h2 _ (by omega))) ?_
                refine r_sipush C dX0_expand_84 (v := 255) (by decide) ?_
                refine r_iand C dX0_expand_87 ?_
                refine r_top (y := nI (X (4 * (c + 4) - 3))) ((pk_andN (n := X (4 * (c + 4) - 3)) (by have := hX6 (4 * (c + 4) - 3); omega) 8 rfl).trans (congrArg nI (Nat.mod_eq_of_lt (hX6 _)))) ?_
                refine r_tald C dX0_expand_88 (j := 0) (t := X (4 * (c + 4) - 3)) rfl rfl rfl (by show _ < 256; exact hX6 _) (by decide) ?_
                refine r_top (y := nI (sw (X (4 * (c + 4) - 3)))) (sw_tab (X (4 * (c + 4) - 3))) ?_
                refine r_ixor C dX0_expand_89 ?_
                refine r_top (y := nI ((X (4 * (c + 4) - 16)) ^^^ (sw (X (4 * (c + 4) - 3))))) (nx_xor9 (X (4 * (c + 4) - 16)) (sw (X (4 * (c + 4) - 3)))) ?_
                refine r_iload_n C dX0_expand_90 rfl ?_
                refine r_ixor C dX0_expand_91 ?_
                refine r_top (y := nI (((X (4 * (c + 4) - 16)) ^^^ (sw (X (4 * (c + 4) - 3)))) ^^^ e)) (nx_xor9 ((X (4 * (c + 4) - 16)) ^^^ (sw (X (4 * (c + 4) - 3)))) e) ?_
                refine r_iastF C dX0_expand_92 l_cl ws_eq (j := 4 * (c + 4)) (x := ((X (4 * (c + 4) - 16)) ^^^ (sw (X (4 * (c + 4) - 3)))) ^^^ e) rfl rfl (by omega) (by decide) ?_
                refine r_eq rfl rfl ws_same ?_
                refine r_aload_n C dX0_expand_93 rfl ?_
                refine r_get C dX0_expand_94 fgRX0_15 l_o (ws_ne n_o_cl w_o) rfl ?_
                refine r_iload_n C dX0_expand_97 rfl ?_
                refine r_iconst C dX0_expand_98 (v := 1) (by decide) ?_
                refine r_iadd C dX0_expand_99 ?_
                refine r_top (y := nI ((4 * (c + 4)) + 1)) (nI_add (4 * (c + 4)) 1) ?_
                refine r_aload_n C dX0_expand_100 rfl ?_
                refine r_get C dX0_expand_101 fgRX0_15 l_o (ws_ne n_o_cl w_o) rfl ?_
                refine r_iload_n C dX0_expand_104 rfl ?_
                refine r_bipush C dX0_expand_105 (v := 15) (by decide) ?_
                refine r_isub C dX0_expand_107 ?_
                refine r_top (y := nI ((4 * (c + 4)) - 15)) (pk_sub (a := 4 * (c + 4)) (b := 15) (by omega)) ?_
                refine r_ialdN C dX0_expand_108 l_cl ws_eq (j := (4 * (c + 4)) - 15) rfl (by omega) (by decide) ?_
                refine r_top (y := nI (X (4 * (c + 4) - 15))) (congrArg nI (by rw [upn_ne (by omega)]; exact h2 _ (by omega))) ?_
                refine r_gets C (j := 0) dX0_expand_109 rfl slRX0_24 ?_
                refine r_aload_n C dX0_expand_112 rfl ?_
                refine r_get C dX0_expand_113 fgRX0_15 l_o (ws_ne n_o_cl w_o) rfl ?_
                refine r_iload_n C dX0_expand_116 rfl ?_
                refine r_iconst C dX0_expand_117 (v := 2) (by decide) ?_
                refine r_isub C dX0_expand_118 ?_
                refine r_top (y := nI ((4 * (c + 4)) - 2)) (pk_sub (a := 4 * (c + 4)) (b := 2) (by omega)) ?_
                refine r_ialdN C dX0_expand_119 l_cl ws_eq (j := (4 * (c + 4)) - 2) rfl (by omega) (by decide) ?_
                refine r_top (y := nI (X (4 * (c + 4) - 2))) (congrArg nI (by rw [upn_ne (by omega)]; exact h2 _ (by omega))) ?_
                refine r_sipush C dX0_expand_120 (v := 255) (by decide) ?_
                refine r_iand C dX0_expand_123 ?_
                refine r_top (y := nI (X (4 * (c + 4) - 2))) ((pk_andN (n := X (4 * (c + 4) - 2)) (by have := hX6 (4 * (c + 4) - 2); omega) 8 rfl).trans (congrArg nI (Nat.mod_eq_of_lt (hX6 _)))) ?_
                refine r_tald C dX0_expand_124 (j := 0) (t := X (4 * (c + 4) - 2)) rfl rfl rfl (by show _ < 256; exact hX6 _) (by decide) ?_
                refine r_top (y := nI (sw (X (4 * (c + 4) - 2)))) (sw_tab (X (4 * (c + 4) - 2))) ?_
                refine r_ixor C dX0_expand_125 ?_
                refine r_top (y := nI ((X (4 * (c + 4) - 15)) ^^^ (sw (X (4 * (c + 4) - 2))))) (nx_xor9 (X (4 * (c + 4) - 15)) (sw (X (4 * (c + 4) - 2)))) ?_
                refine r_iastF C dX0_expand_126 l_cl ws_eq (j := (4 * (c + 4)) + 1) (x := (X (4 * (c + 4) - 15)) ^^^ (sw (X (4 * (c + 4) - 2)))) rfl rfl (by omega) (by decide) ?_
                refine r_eq rfl rfl ws_same ?_
                refine r_aload_n C dX0_expand_127 rfl ?_
                refine r_get C dX0_expand_128 fgRX0_15 l_o (ws_ne n_o_cl w_o) rfl ?_
                refine r_iload_n C dX0_expand_131 rfl ?_
                refine r_iconst C dX0_expand_132 (v := 2) (by decide) ?_
                refine r_iadd C dX0_expand_133 ?_
                refine r_top (y := nI ((4 * (c + 4)) + 2)) (nI_add (4 * (c + 4)) 2) ?_
                refine r_aload_n C dX0_expand_134 rfl ?_
                refine r_get C dX0_expand_135 fgRX0_15 l_o (ws_ne n_o_cl w_o) rfl ?_
                refine r_iload_n C dX0_expand_138 rfl ?_
                refine r_bipush C dX0_expand_139 (v := 14) (by decide) ?_
                refine r_isub C dX0_expand_141 ?_
                refine r_top (y := nI ((4 * (c + 4)) - 14)) (pk_sub (a := 4 * (c + 4)) (b := 14) (by omega)) ?_
                refine r_ialdN C dX0_expand_142 l_cl ws_eq (j := (4 * (c + 4)) - 14) rfl (by omega) (by decide) ?_
                refine r_top (y := nI (X (4 * (c + 4) - 14))) (congrArg nI (by rw [upn_ne (by omega)]; rw [upn_ne (by omega)]; exact h2 _ (by omega))) ?_
                refine r_gets C (j := 0) dX0_expand_143 rfl slRX0_24 ?_
                refine r_aload_n C dX0_expand_146 rfl ?_
                refine r_get C dX0_expand_147 fgRX0_15 l_o (ws_ne n_o_cl w_o) rfl ?_
                refine r_iload_n C dX0_expand_150 rfl ?_
                refine r_iconst C dX0_expand_151 (v := 1) (by decide) ?_
                refine r_isub C dX0_expand_152 ?_
                refine r_top (y := nI ((4 * (c + 4)) - 1)) (pk_sub (a := 4 * (c + 4)) (b := 1) (by omega)) ?_
                refine r_ialdN C dX0_expand_153 l_cl ws_eq (j := (4 * (c + 4)) - 1) rfl (by omega) (by decide) ?_
                refine r_top (y := nI (X (4 * (c + 4) - 1))) (congrArg nI (by rw [upn_ne (by omega)]; rw [upn_ne (by omega)]; exact h2 _ (by omega))) ?_
                refine r_sipush C dX0_expand_154 (v := 255) (by decide) ?_
                refine r_iand C dX0_expand_157 ?_
                refine r_top (y := nI (X (4 * (c + 4) - 1))) ((pk_andN (n := X (4 * (c + 4) - 1)) (by have := hX6 (4 * (c + 4) - 1); omega) 8 rfl).trans (congrArg nI (Nat.mod_eq_of_lt (hX6 _)))) ?_
                refine r_tald C dX0_expand_158 (j := 0) (t := X (4 * (c + 4) - 1)) rfl rfl rfl (by show _ < 256; exact hX6 _) (by decide) ?_
                refine r_top (y := nI (sw (X (4 * (c + 4) - 1)))) (sw_tab (X (4 * (c + 4) - 1))) ?_
                refine r_ixor C dX0_expand_159 ?_
                refine r_top (y := nI ((X (4 * (c + 4) - 14)) ^^^ (sw (X (4 * (c + 4) - 1))))) (nx_xor9 (X (4 * (c + 4) - 14)) (sw (X (4 * (c + 4) - 1)))) ?_
                refine r_iastF C dX0_expand_160 l_cl ws_eq (j := (4 * (c + 4)) + 2) (x := (X (4 * (c + 4) - 14)) ^^^ (sw (X (4 * (c + 4) - 1)))) rfl rfl (by omega) (by decide) ?_
                refine r_eq rfl rfl ws_same ?_
                refine r_aload_n C dX0_expand_161 rfl ?_
                refine r_get C dX0_expand_162 fgRX0_15 l_o (ws_ne n_o_cl w_o) rfl ?_
                refine r_iload_n C dX0_expand_165 rfl ?_
                refine r_iconst C dX0_expand_166 (v := 3) (by decide) ?_
                refine r_iadd C dX0_expand_167 ?_
                refine r_top (y := nI ((4 * (c + 4)) + 3)) (nI_add (4 * (c + 4)) 3) ?_
                refine r_aload_n C dX0_expand_168 rfl ?_
                refine r_get C dX0_expand_169 fgRX0_15 l_o (ws_ne n_o_cl w_o) rfl ?_
                refine r_iload_n C dX0_expand_172 rfl ?_
                refine r_bipush C dX0_expand_173 (v := 13) (by decide) ?_
                refine r_isub C dX0_expand_175 ?_
                refine r_top (y := nI ((4 * (c + 4)) - 13)) (pk_sub (a := 4 * (c + 4)) (b := 13) (by omega)) ?_
                refine r_ialdN C dX0_expand_176 l_cl ws_eq (j := (4 * (c + 4)) - 13) rfl (by omega) (by decide) ?_
                refine r_top (y := nI (X (4 * (c + 4) - 13))) (congrArg nI (by rw [upn_ne (by omega)]; rw [upn_ne (by omega)]; rw [upn_ne (by omega)]; exact h2 _ (by omega))) ?_
                refine r_gets C (j := 0) dX0_expand_177 rfl slRX0_24 ?_
                refine r_aload_n C dX0_expand_180 rfl ?_
                refine r_get C dX0_expand_181 fgRX0_15 l_o (ws_ne n_o_cl w_o) rfl ?_
                refine r_iload_n C dX0_expand_184 rfl ?_
                refine r_iconst C dX0_expand_185 (v := 4) (by decide) ?_
                refine r_isub C dX0_expand_186 ?_
                refine r_top (y := nI ((4 * (c + 4)) - 4)) (pk_sub (a := 4 * (c + 4)) (b := 4) (by omega)) ?_
                refine r_ialdN C dX0_expand_187 l_cl ws_eq (j := (4 * (c + 4)) - 4) rfl (by omega) (by decide) ?_
                refine r_top (y := nI (X (4 * (c + 4) - 4))) (congrArg nI (by rw [upn_ne (by omega)]; rw [upn_ne (by omega)]; rw [upn_ne (by omega)]; exact h2 _ (by omega))) ?_
                refine r_sipush C dX0_expand_188 (v := 255) (by decide) ?_
                refine r_iand C dX0_expand_191 ?_
                refine r_top (y := nI (X (4 * (c + 4) - 4))) ((pk_andN (n := X (4 * (c + 4) - 4)) (by have := hX6 (4 * (c + 4) - 4); omega) 8 rfl).trans (congrArg nI (Nat.mod_eq_of_lt (hX6 _)))) ?_
                refine r_tald C dX0_expand_192 (j := 0) (t := X (4 * (c + 4) - 4)) rfl rfl rfl (by show _ < 256; exact hX6 _) (by decide) ?_
                refine r_top (y := nI (sw (X (4 * (c + 4) - 4)))) (sw_tab (X (4 * (c + 4) - 4))) ?_
                refine r_ixor C dX0_expand_193 ?_
                refine r_top (y := nI ((X (4 * (c + 4) - 13)) ^^^ (sw (X (4 * (c + 4) - 4))))) (nx_xor9 (X (4 * (c + 4) - 13)) (sw (X (4 * (c + 4) - 4)))) ?_
                refine r_iastF C dX0_expand_194 l_cl ws_eq (j := (4 * (c + 4)) + 3) (x := (X (4 * (c + 4) - 13)) ^^^ (sw (X (4 * (c + 4) - 4)))) rfl rfl (by omega) (by decide) ?_
                refine r_eq rfl rfl ws_same ?_
                refine r_iload_n C dX0_expand_195 rfl ?_
                refine r_callSi C (As := [.int (nI e)]) (rest := []) dX0_expand_196 (cX0_twice9 (b := e) he6) okX0_twice mlRX0_36 stX0_twice ⟨by decide, by decide⟩ rfl rfl (Nat.le_of_ble_eq_true rfl) (by decide) (by decide) (fun r1 w9 h9 => ?_)
                obtain ⟨e9, rfl⟩ := h9
                have e9 := e9.symm
                subst e9
                refine r_istore_n C dX0_expand_199 (L' := [some (.ref o), some (.ref a), some (.int (nI (xt e))), some (.int (nI (4 * (c + 4)))), none]) (by decide) rfl ?_
                refine r_goto C 247 dX0_expand_200 (by decide) ?_
                refine r_iinc C dX0_expand_247 (v := nI (4 * (c + 1 + 4))) (L' := [some (.ref o), some (.ref a), some (.int (nI (xt e))), some (.int (nI (4 * (c + 1 + 4)))), none]) rfl ((nI_add (4 * (c + 4)) 4).trans (congrArg nI (by omega))) (by decide) rfl ?_
                refine r_goto C 43 dX0_expand_250 (by decide) ?_
                exact ih_43 (c + 1) (xt e) _ _ (by omega) (by omega) rfl (by rw [exS, if_pos (by omega), he]) (by rw [exS, if_pos (by omega), ← hX, ← he]; exact ex4 h2)
        exact loop_43 _ 0 1 _ K1 (Nat.lt_succ_self _) (by omega) rfl rfl (fun k hk => h1 k (by omega))
      · skip
        have c_5 : ¬ (16 ≤ i) := fun h9 => c_5 ((nI_leI (a := 16) (b := i) (by omega) (by omega)).mpr h9)
        refine r_aload_n C dX0_expand_8 rfl ?_
        refine r_get C dX0_expand_9 fgRX0_15 l_o (ws_ne n_o_cl w_o) rfl ?_
        refine r_iload_n C dX0_expand_12 rfl ?_
        refine r_iload_n C dX0_expand_13 rfl ?_
        refine r_aload_n C dX0_expand_14 rfl ?_
        refine r_get C dX0_expand_15 fgRX0_27 l_a (ws_ne (Ne.symm n_cl_a) w_a) rfl ?_
        refine r_icmp_ge C 30 dX0_expand_18 (by decide) (fun c_18 => ?_) (fun c_18 => ?_)
        · skip
          have c_18 : xs.length ≤ i := (nI_leI (a := xs.length) (b := i) (by omega) (by omega)).mp c_18
          refine r_iconst C dX0_expand_30 (v := 0) (by decide) ?_
          refine r_iastF C dX0_expand_31 l_cl ws_eq (j := i) (x := 0) rfl rfl (by omega) (by decide) ?_
          refine r_eq rfl rfl ws_same ?_
          refine r_iinc C dX0_expand_32 (v := nI (i + 1)) (L' := [some (.ref o), some (.ref a), some (.int (nI (i + 1))), none, none]) rfl (nI_add i 1) (by decide) rfl ?_
          refine r_goto C 2 dX0_expand_35 (by decide) ?_
          exact ih_2 (i + 1) _ (by omega) (by omega) (upn_lt (G := fun k => xs.getD k 0) h1 (gd_ge (by omega)).symm)
        · skip
          have c_18 : ¬ (xs.length ≤ i) := fun h9 => c_18 ((nI_leI (a := xs.length) (b := i) (by omega) (by omega)).mpr h9)
          refine r_aload_n C dX0_expand_21 rfl ?_
          refine r_get C dX0_expand_22 fgRX0_33 l_a (ws_ne (Ne.symm n_cl_a) w_a) rfl ?_
          refine r_iload_n C dX0_expand_25 rfl ?_
          refine r_ialdN C dX0_expand_26 l_b (ws_ne (Ne.symm n_cl_b) w_b) (j := i) rfl (by omega) (by omega) ?_
          refine r_top (y := nI (xs.getD i 0)) (h_xs i (by omega)) ?_
          refine r_goto C 31 dX0_expand_27 (by decide) ?_
          refine r_iastF C dX0_expand_31 l_cl ws_eq (j := i) (x := xs.getD i 0) rfl rfl (by omega) (by decide) ?_
          refine r_eq rfl rfl ws_same ?_
          refine r_iinc C dX0_expand_32 (v := nI (i + 1)) (L' := [some (.ref o), some (.ref a), some (.int (nI (i + 1))), none, none]) rfl (nI_add i 1) (by decide) rfl ?_
          refine r_goto C 2 dX0_expand_35 (by decide) ?_
          exact ih_2 (i + 1) _ (by omega) (by omega) (upn_lt (G := fun k => xs.getD k 0) h1 rfl)
  refine r_eq rfl rfl (ws_self w_cl).symm ?_
  exact loop_2 _ 0 K (Nat.lt_succ_self _) (by omega) (fun k hk => absurd hk (Nat.not_lt_zero k))
end
section
/-! THE HANDLER, as lists of numbers -/
def padN : List Nat := [0x28, 0xbf, 0x4e, 0x5e, 0x4e, 0x75, 0x8a, 0x41, 0x64, 0x00, 0x4e, 0x56, 0xff, 0xfa, 0x01, 0x08, 0x2e, 0x2e, 0x00, 0xb6, 0xd0, 0x68, 0x3e, 0x80, 0x2f, 0x0c, 0xa9, 0xfe, 0x64, 0x53, 0x69, 0x7a]
theorem padL_eq : padL = padN.map nI := by decide +kernel
theorem pad_tab (j : Nat) : tabf padL j = nI (padN.getD j 0) := by
  unfold tabf
  rw [padL_eq]
  simp only [List.getD, List.getElem?_map]
  cases padN[j]? <;> rfl
theorem byt_pad : byt padN := by unfold byt; decide +kernel
theorem pad_len : padN.length = 32 := rfl
def padd (pw : List Nat) : List Nat := pw.take (min pw.length 32) ++ padN.take (32 - min pw.length 32)
theorem padd_len (pw : List Nat) : (padd pw).length = 32 := by
  unfold padd
  rw [List.length_append, List.length_take, List.length_take, pad_len]
  omega
theorem byt_padd {pw : List Nat} (h : byt pw) : byt (padd pw) := byt_app (byt_take h _) (byt_take byt_pad _)
theorem min_nat {a b : Nat} (ha : a < 2 ^ 31) (hb : b < 2 ^ 31) : (if nI b < nI a then nI b else nI a) = nI (min a b) := by
  by_cases h : b < a
  · rw [if_pos (nI_lt h ha), Nat.min_eq_right (by omega)]
  · rw [if_neg (nI_nlt (by omega) hb), Nat.min_eq_left (by omega)]
theorem take_push {ys : List Nat} {i : Nat} (h : i < ys.length) : ys.take (i + 1) = ys.take i ++ [ys.getD i 0] := by
  rw [List.take_add_one]
  simp [List.getD, List.getElem?_eq_getElem h]
theorem and_byte {x : Nat} (h : x < 256) : nI x &&& 255 = nI x := (pk_andN (by omega) 8 rfl).trans (congrArg nI (Nat.mod_eq_of_lt h))
/-- md5 again and again, of the first m bytes -/
def again (m : Nat) : Nat → List Nat → List Nat
  | 0, d => d
  | t + 1, d => md5 ((again m t d).take m)
theorem again_len {m : Nat} {d : List Nat} (h : d.length = 16) : ∀ t, (again m t d).length = 16
  | 0 => h
  | t + 1 => md5_len _
theorem byt_again {m : Nat} {d : List Nat} (h : byt d) : ∀ t, byt (again m t d)
  | 0 => h
  | t + 1 => byt_md5 _
def keyMsg (rev perm lo : Int32) (ow nb pw : List Nat) : List Nat := (((padd pw ++ ow) ++ lof perm 4) ++ nb) ++ (if rev = 4 ∧ ¬ lo = 0 then List.replicate 4 255 else [])
def keyOf (rev : Int32) (len : Nat) (perm lo : Int32) (ow nb pw : List Nat) : List Nat := (if 3 ≤ rev then again len 50 (md5 (keyMsg rev perm lo ow nb pw)) else md5 (keyMsg rev perm lo ow nb pw)).take len
def ownKey (rev : Int32) (len : Nat) (pw : List Nat) : List Nat := (if 3 ≤ rev then again 16 50 (md5 (padd pw)) else md5 (padd pw)).take len
/-- streams by a key, its bytes ^ 0, 1 .. -/
def strms (key : List Nat) : Nat → List Nat → List Nat
  | 0, xs => xs
  | t + 1, xs => strm key t (strms key t xs)
theorem strms_len (key xs : List Nat) : ∀ t, (strms key t xs).length = xs.length
  | 0 => rfl
  | t + 1 => by rw [strms, strm_len, strms_len key xs t]
theorem byt_strms (key : List Nat) {xs : List Nat} (h : byt xs) : ∀ t, byt (strms key t xs)
  | 0 => h
  | t + 1 => byt_strm _ _ (byt_strms key h t)
def turnsOf (rev : Int32) : Nat := if 3 ≤ rev then 20 else 1
def entOf (rev : Int32) (nb key : List Nat) : List Nat := if 3 ≤ rev then strms key 20 (md5 (padN ++ nb)) ++ List.replicate 16 0 else strms key 1 padN
theorem entOf_len (rev : Int32) (nb key : List Nat) : (entOf rev nb key).length = 32 := by
  unfold entOf
  split
  · rw [List.length_append, strms_len, md5_len, List.length_replicate]
  · rw [strms_len, pad_len]
theorem byt_rep {n y : Nat} (h : y < 256) : byt (List.replicate n y) := fun x hx => by
  rw [List.eq_of_mem_replicate hx]
  exact h
theorem byt_entOf (rev : Int32) (nb key : List Nat) : byt (entOf rev nb key) := by
  unfold entOf
  split
  · exact byt_app (byt_strms _ (byt_md5 _) _) (byt_rep (by decide))
  · exact byt_strms _ byt_pad _
theorem keyOf_len (rev : Int32) {len : Nat} (h : len ≤ 16) (perm lo : Int32) (ow nb pw : List Nat) : (keyOf rev len perm lo ow nb pw).length = len := by
  unfold keyOf
  rw [List.length_take]
  split
  · rw [again_len (md5_len _)]
    omega
  · rw [md5_len]
    omega
theorem byt_keyOf (rev : Int32) (len : Nat) (perm lo : Int32) (ow nb pw : List Nat) : byt (keyOf rev len perm lo ow nb pw) := by
  unfold keyOf
  split
  · exact byt_take (byt_again (byt_md5 _) _) _
  · exact byt_take (byt_md5 _) _
theorem ownKey_len (rev : Int32) {len : Nat} (h : len ≤ 16) (pw : List Nat) : (ownKey rev len pw).length = len := by
  unfold ownKey
  rw [List.length_take]
  split
  · rw [again_len (md5_len _)]
    omega
  · rw [md5_len]
    omega
theorem byt_ownKey (rev : Int32) (len : Nat) (pw : List Nat) : byt (ownKey rev len pw) := by
  unfold ownKey
  split
  · exact byt_take (byt_again (byt_md5 _) _) _
  · exact byt_take (byt_md5 _) _
/-- is it the user's: the entry by the key, in its first bytes -/
def isUsr (rev : Int32) (nb us key : List Nat) : Prop := (entOf rev nb key).take (if 3 ≤ rev then 16 else 32) = us.take (if 3 ≤ rev then 16 else 32)
def objMsg (key : List Nat) (number generation : Int32) (meth2 : Prop) [Decidable meth2] : List Nat := ((key ++ lof number 3) ++ lof generation 2) ++ (if meth2 then hif 1933667412 else [])
def objKey (len : Nat) (key : List Nat) (number generation : Int32) (meth2 : Prop) [Decidable meth2] : List Nat := (md5 (objMsg key number generation meth2)).take (len + 5)
end
section
theorem cnt {w : Wo} {a b m : Nat} {xs : List Nat} (h : w a = ob 3 [.ref b, .int (nI m)]) (e : m = xs.length) : w a = ob 3 [.ref b, .int (nI xs.length)] := by rw [h, e]
theorem hif_len (x : Int32) : (hif x).length = 4 := rfl
set_option maxHeartbeats 4000000 in
set_option maxRecDepth 100000 in
theorem cX1_addPadded9 {w : Wo} {a b a2 b2 : Nat} (l_a : a < NW) (l_b : b < NW) (l_a2 : a2 < NW) (l_b2 : b2 < NW) (n_a_b : a ≠ b) (n_a_a2 : a ≠ a2) (n_a_b2 : a ≠ b2) (n_b_a2 : b ≠ a2) (n_b_b2 : b ≠ b2) (n_a2_b2 : a2 ≠ b2) {n n2 : Nat} {f : Nat → Int32} {xs : List Nat} (w_a : w a = ob 3 [.ref b, .int (nI xs.length)]) (w_b : w b = ia n f) (h_xs : hs f xs) (k_xs : xs.length ≤ n) (hn : n < 2 ^ 31) {f2 : Nat → Int32} {ys : List Nat} (w_a2 : w a2 = ob 3 [.ref b2, .int (nI ys.length)]) (w_b2 : w b2 = ia n2 f2) (h_ys : hs f2 ys) (k_ys : ys.length ≤ n2) (hn2 : n2 < 2 ^ 31) (hby : byt ys) (hk : xs.length + 32 ≤ n) : Ctr mX1_addPadded [.ref a, .ref a2] w (PV fun w' => ∃ f', w' = wset (wset w b (ia n f')) a (ob 3 [.ref b, .int (nI (xs ++ padd ys).length)]) ∧ hs f' (xs ++ padd ys)) := by
  refine Ctr_intro okX1_addPadded rfl (Nat.le_of_ble_eq_true rfl) (L := [some (.ref a), some (.ref a2), none, none]) rfl (fun g ct C T_ => ?_)
  refine r_aload_n C dX1_addPadded_0 rfl ?_
  refine r_get C dX1_addPadded_1 fgRX1_82 l_a2 w_a2 rfl ?_
  refine r_bipush C dX1_addPadded_4 (v := 32) (by decide) ?_
  refine r_min C dX1_addPadded_6 mlRX1_126 jn_min_static jn_min_init jn_min_code (by decide) (Nat.le_of_ble_eq_true rfl) (by decide) (by decide) ?_
  refine r_top (y := nI (min ys.length 32)) (min_nat (by omega) (by decide)) ?_
  refine r_istore_n C dX1_addPadded_9 (L' := [some (.ref a), some (.ref a2), some (.int (nI (min ys.length 32))), none]) (by decide) rfl ?_
  refine r_iconst C dX1_addPadded_10 (v := 0) (by decide) ?_
  refine r_istore_n C dX1_addPadded_11 (L' := [some (.ref a), some (.ref a2), some (.int (nI (min ys.length 32))), some (.int 0)]) (by decide) rfl ?_
  have loop_12 : ∀ (d9 : Nat) (i : Nat) (zs : List Nat) (f1 : Nat → Int32), min ys.length 32 - i < d9 → i ≤ min ys.length 32 → zs = xs ++ ys.take i → hs f1 zs → Az g mX1_addPadded ct 0 0 12 [some (.ref a), some (.ref a2), some (.int (nI (min ys.length 32))), some (.int (nI i))] [] (wset (wset w b (ia n f1)) a (ob 3 [.ref b, .int (nI zs.length)])) := by
    intro d9
    induction d9 with
    | zero => intro i zs f1 hd9; exact absurd hd9 (Nat.not_lt_zero _)
    | succ d9 ih_12 =>
      intro i zs f1 hd9 hi hz hf1
      refine r_iload_n C dX1_addPadded_12 rfl ?_
      refine r_iload_n C dX1_addPadded_13 rfl ?_
      refine r_icmp_ge C 33 dX1_addPadded_14 (by decide) (fun c_14 => ?_) (fun c_14 => ?_)
      · skip
        have c_14 : (min ys.length 32) ≤ i := (nI_leI (a := min ys.length 32) (b := i) (by omega) (by omega)).mp c_14
        refine r_iconst C dX1_addPadded_33 (v := 0) (by decide) ?_
        refine r_istore_n C dX1_addPadded_34 (L' := [some (.ref a), some (.ref a2), some (.int (nI (min ys.length 32))), some (.int 0)]) (by decide) rfl ?_
        have loop_35 : ∀ (d9 : Nat) (j : Nat) (zs2 : List Nat) (f3 : Nat → Int32), 32 - min ys.length 32 - j < d9 → j ≤ 32 - min ys.length 32 → zs2 = (xs ++ ys.take (min ys.length 32)) ++ padN.take j → hs f3 zs2 → Az g mX1_addPadded ct 0 0 35 [some (.ref a), some (.ref a2), some (.int (nI (min ys.length 32))), some (.int (nI j))] [] (wset (wset w b (ia n f3)) a (ob 3 [.ref b, .int (nI zs2.length)])) := by
          intro d9
          induction d9 with
          | zero => intro j zs2 f3 hd9; exact absurd hd9 (Nat.not_lt_zero _)
          | succ d9 ih_35 =>
            intro j zs2 f3 hd9 hj hz2 hf3
            refine r_iload_n C dX1_addPadded_35 rfl ?_
            refine r_bipush C dX1_addPadded_36 (v := 32) (by decide) ?_
            refine r_iload_n C dX1_addPadded_38 rfl ?_
            refine r_isub C dX1_addPadded_39 ?_
            refine r_top (y := nI (32 - (min ys.length 32))) (pk_sub (a := 32) (b := min ys.length 32) (by omega)) ?_
            refine r_icmp_ge C 58 dX1_addPadded_40 (by decide) (fun c_40 => ?_) (fun c_40 => ?_)
            · skip
              have c_40 : (32 - (min ys.length 32)) ≤ j := (nI_leI (a := 32 - (min ys.length 32)) (b := j) (by omega) (by omega)).mp c_40
              exact r_return C T_ rfl dX1_addPadded_58 (⟨rfl, f3, by rw [show xs ++ padd ys = zs2 by rw [hz2, show j = 32 - min ys.length 32 by omega]; unfold padd; rw [List.append_assoc]], by rw [show xs ++ padd ys = zs2 by rw [hz2, show j = 32 - min ys.length 32 by omega]; unfold padd; rw [List.append_assoc]]; exact hf3⟩)
            · skip
              have c_40 : ¬ ((32 - (min ys.length 32)) ≤ j) := fun h9 => c_40 ((nI_leI (a := 32 - (min ys.length 32)) (b := j) (by omega) (by omega)).mpr h9)
              refine r_aload_n C dX1_addPadded_43 rfl ?_
              refine r_gets C (j := 3) dX1_addPadded_44 rfl slRX1_139 ?_
              refine r_iload_n C dX1_addPadded_47 rfl ?_
              refine r_tald C dX1_addPadded_48 (j := 3) (t := j) rfl rfl rfl (by show _ < 32; omega) (by decide) ?_
              refine r_top (y := nI (padN.getD j 0)) (pad_tab j) ?_
              refine r_callVv C (As := [.int (nI (padN.getD j 0))]) (rest := []) dX1_addPadded_49 (cX3_add9 l_a l_b n_a_b ws_eq (ws_ne (Ne.symm n_a_b) ws_eq) hf3 (by subst hz2; simp only [List.length_append, List.length_nil, List.length_cons, List.length_take, List.length_replicate, List.length_range, List.length_map, lof_len, pad_len, padd_len, md5_len, strm_len, strms_len, entOf_len, hif_len] at *; omega) hn (by subst hz2; simp only [List.length_append, List.length_nil, List.length_cons, List.length_take, List.length_replicate, List.length_range, List.length_map, lof_len, pad_len, padd_len, md5_len, strm_len, strms_len, entOf_len, hif_len] at *; omega) (y := padN.getD j 0) (and_byte (byt_getD byt_pad j))) okX3_add mlRX1_136 imX3_add seX3_add ⟨by decide, by decide⟩ rfl rfl l_a ws_eq rfl rfl (Nat.le_of_ble_eq_true rfl) (by decide) (by decide) (fun w9 h9 => ?_)
              obtain ⟨f1, rfl, h2⟩ := h9
              refine r_eq rfl rfl ((congrArg (fun z => wset (z) a (ob 3 [.ref b, .int (nI ((zs2 ++ [padN.getD j 0]).length))])) ((ws_comm (Ne.symm n_a_b)).trans (congrArg (fun z => wset z a (ob 3 [.ref b, .int (nI zs2.length)])) ws_same))).trans ws_same) ?_
              refine r_iinc C dX1_addPadded_52 (v := nI (j + 1)) (L' := [some (.ref a), some (.ref a2), some (.int (nI (min ys.length 32))), some (.int (nI (j + 1)))]) rfl (nI_add j 1) (by decide) rfl ?_
              refine r_goto C 35 dX1_addPadded_55 (by decide) ?_
              exact ih_35 (j + 1) _ f1 (by omega) (by omega) (by rw [hz2, take_push (by rw [pad_len]; omega)]; simp only [List.append_assoc]) h2
        exact loop_35 _ 0 zs f1 (Nat.lt_succ_self _) (by omega) (by rw [hz, show i = min ys.length 32 by omega]; simp) hf1
      · skip
        have c_14 : ¬ ((min ys.length 32) ≤ i) := fun h9 => c_14 ((nI_leI (a := min ys.length 32) (b := i) (by omega) (by omega)).mpr h9)
        refine r_aload_n C dX1_addPadded_17 rfl ?_
        refine r_aload_n C dX1_addPadded_18 rfl ?_
        refine r_get C dX1_addPadded_19 fgRX1_132 l_a2 (ws_ne (Ne.symm n_a_a2) (ws_ne (Ne.symm n_b_a2) w_a2)) rfl ?_
        refine r_iload_n C dX1_addPadded_22 rfl ?_
        refine r_ialdN C dX1_addPadded_23 l_b2 (ws_ne (Ne.symm n_a_b2) (ws_ne (Ne.symm n_b_b2) w_b2)) (j := i) rfl (by omega) (by omega) ?_
        refine r_top (y := nI (ys.getD i 0)) (h_ys i (by omega)) ?_
        refine r_callVv C (As := [.int (nI (ys.getD i 0))]) (rest := []) dX1_addPadded_24 (cX3_add9 l_a l_b n_a_b ws_eq (ws_ne (Ne.symm n_a_b) ws_eq) hf1 (by subst hz; simp only [List.length_append, List.length_nil, List.length_cons, List.length_take, List.length_replicate, List.length_range, List.length_map, lof_len, pad_len, padd_len, md5_len, strm_len, strms_len, entOf_len, hif_len] at *; omega) hn (by subst hz; simp only [List.length_append, List.length_nil, List.length_cons, List.length_take, List.length_replicate, List.length_range, List.length_map, lof_len, pad_len, padd_len, md5_len, strm_len, strms_len, entOf_len, hif_len] at *; omega) (y := ys.getD i 0) (and_byte (byt_getD hby i))) okX3_add mlRX1_136 imX3_add seX3_add ⟨by decide, by decide⟩ rfl rfl l_a ws_eq rfl rfl (Nat.le_of_ble_eq_true rfl) (by decide) (by decide) (fun w9 h9 => ?_)
        obtain ⟨f3, rfl, h4⟩ := h9
        refine r_eq rfl rfl ((congrArg (fun z => wset (z) a (ob 3 [.ref b, .int (nI ((zs ++ [ys.getD i 0]).length))])) ((ws_comm (Ne.symm n_a_b)).trans (congrArg (fun z => wset z a (ob 3 [.ref b, .int (nI zs.length)])) ws_same))).trans ws_same) ?_
        refine r_iinc C dX1_addPadded_27 (v := nI (i + 1)) (L' := [some (.ref a), some (.ref a2), some (.int (nI (min ys.length 32))), some (.int (nI (i + 1)))]) rfl (nI_add i 1) (by decide) rfl ?_
        refine r_goto C 12 dX1_addPadded_30 (by decide) ?_
        exact ih_12 (i + 1) _ f3 (by omega) (by omega) (by rw [hz, take_push (by omega), List.append_assoc]) h4
  refine r_eq rfl rfl (ws_self w_b).symm ?_
  refine r_eq rfl rfl (ws_self (ws_ne n_a_b w_a)).symm ?_
  exact loop_12 _ 0 xs f (Nat.lt_succ_self _) (by omega) (by simp) h_xs
set_option maxHeartbeats 4000000 in
set_option maxRecDepth 100000 in
theorem cX1_addPad9 {w : Wo} {a b : Nat} (l_a : a < NW) (l_b : b < NW) (n_a_b : a ≠ b) {n : Nat} {f : Nat → Int32} {xs : List Nat} (w_a : w a = ob 3 [.ref b, .int (nI xs.length)]) (w_b : w b = ia n f) (h_xs : hs f xs) (k_xs : xs.length ≤ n) (hn : n < 2 ^ 31) (hk : xs.length + 32 ≤ n) : Ctr mX1_addPad [.ref a] w (PV fun w' => ∃ f', w' = wset (wset w b (ia n f')) a (ob 3 [.ref b, .int (nI (xs ++ padN).length)]) ∧ hs f' (xs ++ padN)) := by
  refine Ctr_intro okX1_addPad rfl (Nat.le_of_ble_eq_true rfl) (L := [some (.ref a), none]) rfl (fun g ct C T_ => ?_)
  refine r_iconst C dX1_addPad_0 (v := 0) (by decide) ?_
  refine r_istore_n C dX1_addPad_1 (L' := [some (.ref a), some (.int 0)]) (by decide) rfl ?_
  have loop_2 : ∀ (d9 : Nat) (j : Nat) (zs : List Nat) (f1 : Nat → Int32), 32 - j < d9 → j ≤ 32 → zs = xs ++ padN.take j → hs f1 zs → Az g mX1_addPad ct 0 0 2 [some (.ref a), some (.int (nI j))] [] (wset (wset w b (ia n f1)) a (ob 3 [.ref b, .int (nI zs.length)])) := by
    intro d9
    induction d9 with
    | zero => intro j zs f1 hd9; exact absurd hd9 (Nat.not_lt_zero _)
    | succ d9 ih_2 =>
      intro j zs f1 hd9 hj hz hf1
      refine r_iload_n C dX1_addPad_2 rfl ?_
      refine r_bipush C dX1_addPad_3 (v := 32) (by decide) ?_
      refine r_icmp_ge C 23 dX1_addPad_5 (by decide) (fun c_5 => ?_) (fun c_5 => ?_)
      · skip
        have c_5 : 32 ≤ j := (nI_leI (a := 32) (b := j) (by omega) (by omega)).mp c_5
        exact r_return C T_ rfl dX1_addPad_23 (⟨rfl, f1, by rw [show xs ++ padN = zs by rw [hz, show j = 32 by omega]; rfl], by rw [show xs ++ padN = zs by rw [hz, show j = 32 by omega]; rfl]; exact hf1⟩)
      · skip
        have c_5 : ¬ (32 ≤ j) := fun h9 => c_5 ((nI_leI (a := 32) (b := j) (by omega) (by omega)).mpr h9)
        refine r_aload_n C dX1_addPad_8 rfl ?_
        refine r_gets C (j := 3) dX1_addPad_9 rfl slRX1_139 ?_
        refine r_iload_n C dX1_addPad_12 rfl ?_
        refine r_tald C dX1_addPad_13 (j := 3) (t := j) rfl rfl rfl (by show _ < 32; omega) (by decide) ?_
        refine r_top (y := nI (padN.getD j 0)) (pad_tab j) ?_
        refine r_callVv C (As := [.int (nI (padN.getD j 0))]) (rest := []) dX1_addPad_14 (cX3_add9 l_a l_b n_a_b ws_eq (ws_ne (Ne.symm n_a_b) ws_eq) hf1 (by subst hz; simp only [List.length_append, List.length_nil, List.length_cons, List.length_take, List.length_replicate, List.length_range, List.length_map, lof_len, pad_len, padd_len, md5_len, strm_len, strms_len, entOf_len, hif_len] at *; omega) hn (by subst hz; simp only [List.length_append, List.length_nil, List.length_cons, List.length_take, List.length_replicate, List.length_range, List.length_map, lof_len, pad_len, padd_len, md5_len, strm_len, strms_len, entOf_len, hif_len] at *; omega) (y := padN.getD j 0) (and_byte (byt_getD byt_pad j))) okX3_add mlRX1_136 imX3_add seX3_add ⟨by decide, by decide⟩ rfl rfl l_a ws_eq rfl rfl (Nat.le_of_ble_eq_true rfl) (by decide) (by decide) (fun w9 h9 => ?_)
        obtain ⟨f1, rfl, h2⟩ := h9
        refine r_eq rfl rfl ((congrArg (fun z => wset (z) a (ob 3 [.ref b, .int (nI ((zs ++ [padN.getD j 0]).length))])) ((ws_comm (Ne.symm n_a_b)).trans (congrArg (fun z => wset z a (ob 3 [.ref b, .int (nI zs.length)])) ws_same))).trans ws_same) ?_
        refine r_iinc C dX1_addPad_17 (v := nI (j + 1)) (L' := [some (.ref a), some (.int (nI (j + 1)))]) rfl (nI_add j 1) (by decide) rfl ?_
        refine r_goto C 2 dX1_addPad_20 (by decide) ?_
        exact ih_2 (j + 1) _ f1 (by omega) (by omega) (by rw [hz, take_push (by rw [pad_len]; omega), List.append_assoc]) h2
  refine r_eq rfl rfl (ws_self w_b).symm ?_
  refine r_eq rfl rfl (ws_self (ws_ne n_a_b w_a)).symm ?_
  exact loop_2 _ 0 xs f (Nat.lt_succ_self _) (by omega) (by simp) h_xs
end
