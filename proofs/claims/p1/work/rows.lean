section
-- ===== PART A: goes FIRST, ahead of the names: the tables' words, and 'selects' of the private methods out of them =====
/-- a private method of a class that the tables say can be made, by its rows of tables_1 -/
def lw_okq (q : MethodName × Nat) : Prop := (q.1.cls ≠ "java/lang/invoke/MethodHandle" ∧ q.1.cls ≠ "java/lang/invoke/VarHandle") ∧ Cond.instantiable q.1.cls q.2 ∈ tables_1 ∧ Cond.privateMethod q.1 ∈ tables_1 ∧ Cond.instanceMethod q.1 ∈ tables_1
theorem lw_p0 : lw_okq (⟨"TraitHouse", "settle", "(I)I"⟩, 17) := ⟨⟨by decide +kernel, by decide +kernel⟩, List.mem_of_getElem? (i := 18) (by decide +kernel), List.mem_of_getElem? (i := 263) (by decide +kernel), List.mem_of_getElem? (i := 264) (by decide +kernel)⟩
theorem lw_p1 : lw_okq (⟨"TraitHouse", "addRow", "(IIIII)I"⟩, 17) := ⟨⟨by decide +kernel, by decide +kernel⟩, List.mem_of_getElem? (i := 18) (by decide +kernel), List.mem_of_getElem? (i := 274) (by decide +kernel), List.mem_of_getElem? (i := 275) (by decide +kernel)⟩
theorem lw_p2 : lw_okq (⟨"TraitHouse$Rows", "isFull", "()Z"⟩, 7) := ⟨⟨by decide +kernel, by decide +kernel⟩, List.mem_of_getElem? (i := 26) (by decide +kernel), List.mem_of_getElem? (i := 289) (by decide +kernel), List.mem_of_getElem? (i := 290) (by decide +kernel)⟩
theorem lw_p3 : lw_okq (⟨"TraitHouse$Rows", "add", "(IIIII)I"⟩, 7) := ⟨⟨by decide +kernel, by decide +kernel⟩, List.mem_of_getElem? (i := 26) (by decide +kernel), List.mem_of_getElem? (i := 293) (by decide +kernel), List.mem_of_getElem? (i := 294) (by decide +kernel)⟩
theorem lw_p4 : lw_okq (⟨"TraitHouse", "addMerge", "(III)I"⟩, 17) := ⟨⟨by decide +kernel, by decide +kernel⟩, List.mem_of_getElem? (i := 18) (by decide +kernel), List.mem_of_getElem? (i := 302) (by decide +kernel), List.mem_of_getElem? (i := 303) (by decide +kernel)⟩
theorem lw_p5 : lw_okq (⟨"TraitHouse$Merges", "isTold", "(I)Z"⟩, 3) := ⟨⟨by decide +kernel, by decide +kernel⟩, List.mem_of_getElem? (i := 62) (by decide +kernel), List.mem_of_getElem? (i := 306) (by decide +kernel), List.mem_of_getElem? (i := 307) (by decide +kernel)⟩
theorem lw_p6 : lw_okq (⟨"TraitHouse$Merges", "lastOf", "(II)I"⟩, 3) := ⟨⟨by decide +kernel, by decide +kernel⟩, List.mem_of_getElem? (i := 62) (by decide +kernel), List.mem_of_getElem? (i := 310) (by decide +kernel), List.mem_of_getElem? (i := 311) (by decide +kernel)⟩
theorem lw_p7 : lw_okq (⟨"TraitHouse$Merges", "add", "(III)I"⟩, 3) := ⟨⟨by decide +kernel, by decide +kernel⟩, List.mem_of_getElem? (i := 62) (by decide +kernel), List.mem_of_getElem? (i := 315) (by decide +kernel), List.mem_of_getElem? (i := 316) (by decide +kernel)⟩
theorem lw_p8 : lw_okq (⟨"TraitHouse", "dropPerson", "(I)I"⟩, 17) := ⟨⟨by decide +kernel, by decide +kernel⟩, List.mem_of_getElem? (i := 18) (by decide +kernel), List.mem_of_getElem? (i := 327) (by decide +kernel), List.mem_of_getElem? (i := 328) (by decide +kernel)⟩
theorem lw_p9 : lw_okq (⟨"TraitHouse", "traitAt", "(I)LTraitHouse$Trait;"⟩, 17) := ⟨⟨by decide +kernel, by decide +kernel⟩, List.mem_of_getElem? (i := 18) (by decide +kernel), List.mem_of_getElem? (i := 331) (by decide +kernel), List.mem_of_getElem? (i := 332) (by decide +kernel)⟩
theorem lw_p10 : lw_okq (⟨"TraitHouse$Trait", "forget", "(I)V"⟩, 8) := ⟨⟨by decide +kernel, by decide +kernel⟩, List.mem_of_getElem? (i := 337) (by decide +kernel), List.mem_of_getElem? (i := 335) (by decide +kernel), List.mem_of_getElem? (i := 336) (by decide +kernel)⟩
theorem lw_p11 : lw_okq (⟨"TraitHouse$Trait", "keep", "(IJI)V"⟩, 8) := ⟨⟨by decide +kernel, by decide +kernel⟩, List.mem_of_getElem? (i := 337) (by decide +kernel), List.mem_of_getElem? (i := 341) (by decide +kernel), List.mem_of_getElem? (i := 342) (by decide +kernel)⟩
theorem lw_p12 : lw_okq (⟨"TraitHouse$Places", "forget", "(I)V"⟩, 5) := ⟨⟨by decide +kernel, by decide +kernel⟩, List.mem_of_getElem? (i := 177) (by decide +kernel), List.mem_of_getElem? (i := 345) (by decide +kernel), List.mem_of_getElem? (i := 346) (by decide +kernel)⟩
theorem lw_p13 : lw_okq (⟨"TraitHouse$Rows", "drop", "(I)I"⟩, 7) := ⟨⟨by decide +kernel, by decide +kernel⟩, List.mem_of_getElem? (i := 26) (by decide +kernel), List.mem_of_getElem? (i := 350) (by decide +kernel), List.mem_of_getElem? (i := 351) (by decide +kernel)⟩
theorem lw_p14 : lw_okq (⟨"TraitHouse$Rows", "move", "(II)V"⟩, 7) := ⟨⟨by decide +kernel, by decide +kernel⟩, List.mem_of_getElem? (i := 26) (by decide +kernel), List.mem_of_getElem? (i := 354) (by decide +kernel), List.mem_of_getElem? (i := 355) (by decide +kernel)⟩
theorem lw_p15 : lw_okq (⟨"TraitHouse$Tape", "append", "(I)V"⟩, 2) := ⟨⟨by decide +kernel, by decide +kernel⟩, List.mem_of_getElem? (i := 82) (by decide +kernel), List.mem_of_getElem? (i := 362) (by decide +kernel), List.mem_of_getElem? (i := 363) (by decide +kernel)⟩
def lw_privs_1 : List (MethodName × Nat) := [(⟨"TraitHouse", "settle", "(I)I"⟩, 17), (⟨"TraitHouse", "addRow", "(IIIII)I"⟩, 17), (⟨"TraitHouse$Rows", "isFull", "()Z"⟩, 7), (⟨"TraitHouse$Rows", "add", "(IIIII)I"⟩, 7), (⟨"TraitHouse", "addMerge", "(III)I"⟩, 17), (⟨"TraitHouse$Merges", "isTold", "(I)Z"⟩, 3), (⟨"TraitHouse$Merges", "lastOf", "(II)I"⟩, 3), (⟨"TraitHouse$Merges", "add", "(III)I"⟩, 3), (⟨"TraitHouse", "dropPerson", "(I)I"⟩, 17), (⟨"TraitHouse", "traitAt", "(I)LTraitHouse$Trait;"⟩, 17), (⟨"TraitHouse$Trait", "forget", "(I)V"⟩, 8), (⟨"TraitHouse$Trait", "keep", "(IJI)V"⟩, 8), (⟨"TraitHouse$Places", "forget", "(I)V"⟩, 5), (⟨"TraitHouse$Rows", "drop", "(I)I"⟩, 7), (⟨"TraitHouse$Rows", "move", "(II)V"⟩, 7), (⟨"TraitHouse$Tape", "append", "(I)V"⟩, 2)]
theorem lw_r1 : ∀ q ∈ lw_privs_1, lw_okq q := List.forall_mem_cons.mpr ⟨lw_p0, List.forall_mem_cons.mpr ⟨lw_p1, List.forall_mem_cons.mpr ⟨lw_p2, List.forall_mem_cons.mpr ⟨lw_p3, List.forall_mem_cons.mpr ⟨lw_p4, List.forall_mem_cons.mpr ⟨lw_p5, List.forall_mem_cons.mpr ⟨lw_p6, List.forall_mem_cons.mpr ⟨lw_p7, List.forall_mem_cons.mpr ⟨lw_p8, List.forall_mem_cons.mpr ⟨lw_p9, List.forall_mem_cons.mpr ⟨lw_p10, List.forall_mem_cons.mpr ⟨lw_p11, List.forall_mem_cons.mpr ⟨lw_p12, List.forall_mem_cons.mpr ⟨lw_p13, List.forall_mem_cons.mpr ⟨lw_p14, List.forall_mem_cons.mpr ⟨lw_p15, fun _ h => absurd h List.not_mem_nil⟩⟩⟩⟩⟩⟩⟩⟩⟩⟩⟩⟩⟩⟩⟩⟩
theorem lw_p16 : lw_okq (⟨"TraitHouse", "readTrait", "()I"⟩, 17) := ⟨⟨by decide +kernel, by decide +kernel⟩, List.mem_of_getElem? (i := 18) (by decide +kernel), List.mem_of_getElem? (i := 374) (by decide +kernel), List.mem_of_getElem? (i := 375) (by decide +kernel)⟩
theorem lw_p17 : lw_okq (⟨"TraitHouse$Reader", "read", "(I)I"⟩, 9) := ⟨⟨by decide +kernel, by decide +kernel⟩, List.mem_of_getElem? (i := 99) (by decide +kernel), List.mem_of_getElem? (i := 378) (by decide +kernel), List.mem_of_getElem? (i := 379) (by decide +kernel)⟩
theorem lw_p18 : lw_okq (⟨"TraitHouse$Reader", "advance", "()V"⟩, 9) := ⟨⟨by decide +kernel, by decide +kernel⟩, List.mem_of_getElem? (i := 99) (by decide +kernel), List.mem_of_getElem? (i := 382) (by decide +kernel), List.mem_of_getElem? (i := 383) (by decide +kernel)⟩
theorem lw_p19 : lw_okq (⟨"TraitHouse$Reader", "isLetterAt", "(I)Z"⟩, 9) := ⟨⟨by decide +kernel, by decide +kernel⟩, List.mem_of_getElem? (i := 99) (by decide +kernel), List.mem_of_getElem? (i := 387) (by decide +kernel), List.mem_of_getElem? (i := 388) (by decide +kernel)⟩
theorem lw_p20 : lw_okq (⟨"TraitHouse$Reader", "isDigitAt", "(I)Z"⟩, 9) := ⟨⟨by decide +kernel, by decide +kernel⟩, List.mem_of_getElem? (i := 99) (by decide +kernel), List.mem_of_getElem? (i := 391) (by decide +kernel), List.mem_of_getElem? (i := 392) (by decide +kernel)⟩
theorem lw_p21 : lw_okq (⟨"TraitHouse$Reader", "readSum", "(I)Z"⟩, 9) := ⟨⟨by decide +kernel, by decide +kernel⟩, List.mem_of_getElem? (i := 99) (by decide +kernel), List.mem_of_getElem? (i := 395) (by decide +kernel), List.mem_of_getElem? (i := 396) (by decide +kernel)⟩
theorem lw_p22 : lw_okq (⟨"TraitHouse$Reader", "readTerm", "(I)Z"⟩, 9) := ⟨⟨by decide +kernel, by decide +kernel⟩, List.mem_of_getElem? (i := 99) (by decide +kernel), List.mem_of_getElem? (i := 399) (by decide +kernel), List.mem_of_getElem? (i := 400) (by decide +kernel)⟩
theorem lw_p23 : lw_okq (⟨"TraitHouse$Reader", "readPart", "(I)Z"⟩, 9) := ⟨⟨by decide +kernel, by decide +kernel⟩, List.mem_of_getElem? (i := 99) (by decide +kernel), List.mem_of_getElem? (i := 403) (by decide +kernel), List.mem_of_getElem? (i := 404) (by decide +kernel)⟩
theorem lw_p24 : lw_okq (⟨"TraitHouse$Reader", "readAtom", "(I)Z"⟩, 9) := ⟨⟨by decide +kernel, by decide +kernel⟩, List.mem_of_getElem? (i := 99) (by decide +kernel), List.mem_of_getElem? (i := 407) (by decide +kernel), List.mem_of_getElem? (i := 408) (by decide +kernel)⟩
theorem lw_p25 : lw_okq (⟨"TraitHouse$Reader", "readNumbered", "(II)Z"⟩, 9) := ⟨⟨by decide +kernel, by decide +kernel⟩, List.mem_of_getElem? (i := 99) (by decide +kernel), List.mem_of_getElem? (i := 412) (by decide +kernel), List.mem_of_getElem? (i := 413) (by decide +kernel)⟩
theorem lw_p26 : lw_okq (⟨"TraitHouse$Reader", "takeNumber", "(I)I"⟩, 9) := ⟨⟨by decide +kernel, by decide +kernel⟩, List.mem_of_getElem? (i := 99) (by decide +kernel), List.mem_of_getElem? (i := 416) (by decide +kernel), List.mem_of_getElem? (i := 417) (by decide +kernel)⟩
theorem lw_p27 : lw_okq (⟨"TraitHouse$Reader", "stop", "()Z"⟩, 9) := ⟨⟨by decide +kernel, by decide +kernel⟩, List.mem_of_getElem? (i := 99) (by decide +kernel), List.mem_of_getElem? (i := 421) (by decide +kernel), List.mem_of_getElem? (i := 422) (by decide +kernel)⟩
theorem lw_p28 : lw_okq (⟨"TraitHouse$Reader", "emit", "(IIII)V"⟩, 9) := ⟨⟨by decide +kernel, by decide +kernel⟩, List.mem_of_getElem? (i := 99) (by decide +kernel), List.mem_of_getElem? (i := 425) (by decide +kernel), List.mem_of_getElem? (i := 426) (by decide +kernel)⟩
theorem lw_p29 : lw_okq (⟨"TraitHouse$Reader", "isAt", "(Ljava/lang/String;)Z"⟩, 9) := ⟨⟨by decide +kernel, by decide +kernel⟩, List.mem_of_getElem? (i := 99) (by decide +kernel), List.mem_of_getElem? (i := 452) (by decide +kernel), List.mem_of_getElem? (i := 453) (by decide +kernel)⟩
theorem lw_p30 : lw_okq (⟨"TraitHouse$Reader", "readBracket", "(I)Z"⟩, 9) := ⟨⟨by decide +kernel, by decide +kernel⟩, List.mem_of_getElem? (i := 99) (by decide +kernel), List.mem_of_getElem? (i := 504) (by decide +kernel), List.mem_of_getElem? (i := 505) (by decide +kernel)⟩
theorem lw_p31 : lw_okq (⟨"TraitHouse$Reader", "take", "(Ljava/lang/String;)Z"⟩, 9) := ⟨⟨by decide +kernel, by decide +kernel⟩, List.mem_of_getElem? (i := 99) (by decide +kernel), List.mem_of_getElem? (i := 509) (by decide +kernel), List.mem_of_getElem? (i := 510) (by decide +kernel)⟩
def lw_privs_2 : List (MethodName × Nat) := [(⟨"TraitHouse", "readTrait", "()I"⟩, 17), (⟨"TraitHouse$Reader", "read", "(I)I"⟩, 9), (⟨"TraitHouse$Reader", "advance", "()V"⟩, 9), (⟨"TraitHouse$Reader", "isLetterAt", "(I)Z"⟩, 9), (⟨"TraitHouse$Reader", "isDigitAt", "(I)Z"⟩, 9), (⟨"TraitHouse$Reader", "readSum", "(I)Z"⟩, 9), (⟨"TraitHouse$Reader", "readTerm", "(I)Z"⟩, 9), (⟨"TraitHouse$Reader", "readPart", "(I)Z"⟩, 9), (⟨"TraitHouse$Reader", "readAtom", "(I)Z"⟩, 9), (⟨"TraitHouse$Reader", "readNumbered", "(II)Z"⟩, 9), (⟨"TraitHouse$Reader", "takeNumber", "(I)I"⟩, 9), (⟨"TraitHouse$Reader", "stop", "()Z"⟩, 9), (⟨"TraitHouse$Reader", "emit", "(IIII)V"⟩, 9), (⟨"TraitHouse$Reader", "isAt", "(Ljava/lang/String;)Z"⟩, 9), (⟨"TraitHouse$Reader", "readBracket", "(I)Z"⟩, 9), (⟨"TraitHouse$Reader", "take", "(Ljava/lang/String;)Z"⟩, 9)]
theorem lw_r2 : ∀ q ∈ lw_privs_2, lw_okq q := List.forall_mem_cons.mpr ⟨lw_p16, List.forall_mem_cons.mpr ⟨lw_p17, List.forall_mem_cons.mpr ⟨lw_p18, List.forall_mem_cons.mpr ⟨lw_p19, List.forall_mem_cons.mpr ⟨lw_p20, List.forall_mem_cons.mpr ⟨lw_p21, List.forall_mem_cons.mpr ⟨lw_p22, List.forall_mem_cons.mpr ⟨lw_p23, List.forall_mem_cons.mpr ⟨lw_p24, List.forall_mem_cons.mpr ⟨lw_p25, List.forall_mem_cons.mpr ⟨lw_p26, List.forall_mem_cons.mpr ⟨lw_p27, List.forall_mem_cons.mpr ⟨lw_p28, List.forall_mem_cons.mpr ⟨lw_p29, List.forall_mem_cons.mpr ⟨lw_p30, List.forall_mem_cons.mpr ⟨lw_p31, fun _ h => absurd h List.not_mem_nil⟩⟩⟩⟩⟩⟩⟩⟩⟩⟩⟩⟩⟩⟩⟩⟩
theorem lw_p32 : lw_okq (⟨"TraitHouse$Reader", "kindAt", "()I"⟩, 9) := ⟨⟨by decide +kernel, by decide +kernel⟩, List.mem_of_getElem? (i := 99) (by decide +kernel), List.mem_of_getElem? (i := 513) (by decide +kernel), List.mem_of_getElem? (i := 514) (by decide +kernel)⟩
theorem lw_p33 : lw_okq (⟨"TraitHouse$Reader", "readWindow", "(I)Z"⟩, 9) := ⟨⟨by decide +kernel, by decide +kernel⟩, List.mem_of_getElem? (i := 99) (by decide +kernel), List.mem_of_getElem? (i := 524) (by decide +kernel), List.mem_of_getElem? (i := 525) (by decide +kernel)⟩
theorem lw_p34 : lw_okq (⟨"TraitHouse$Reader", "stepsRead", "()[LTraitHouse$Step;"⟩, 9) := ⟨⟨by decide +kernel, by decide +kernel⟩, List.mem_of_getElem? (i := 99) (by decide +kernel), List.mem_of_getElem? (i := 536) (by decide +kernel), List.mem_of_getElem? (i := 537) (by decide +kernel)⟩
theorem lw_p35 : lw_okq (⟨"TraitHouse", "needsOf", "(I)I"⟩, 17) := ⟨⟨by decide +kernel, by decide +kernel⟩, List.mem_of_getElem? (i := 18) (by decide +kernel), List.mem_of_getElem? (i := 540) (by decide +kernel), List.mem_of_getElem? (i := 541) (by decide +kernel)⟩
theorem lw_p36 : lw_okq (⟨"TraitHouse$Worker", "make", "(IIII)J"⟩, 10) := ⟨⟨by decide +kernel, by decide +kernel⟩, List.mem_of_getElem? (i := 139) (by decide +kernel), List.mem_of_getElem? (i := 601) (by decide +kernel), List.mem_of_getElem? (i := 602) (by decide +kernel)⟩
theorem lw_p37 : lw_okq (⟨"TraitHouse$Worker", "look", "(III)V"⟩, 10) := ⟨⟨by decide +kernel, by decide +kernel⟩, List.mem_of_getElem? (i := 139) (by decide +kernel), List.mem_of_getElem? (i := 606) (by decide +kernel), List.mem_of_getElem? (i := 607) (by decide +kernel)⟩
theorem lw_p38 : lw_okq (⟨"TraitHouse$Worker", "workOut", "([LTraitHouse$Step;)J"⟩, 10) := ⟨⟨by decide +kernel, by decide +kernel⟩, List.mem_of_getElem? (i := 139) (by decide +kernel), List.mem_of_getElem? (i := 612) (by decide +kernel), List.mem_of_getElem? (i := 613) (by decide +kernel)⟩
theorem lw_p39 : lw_okq (⟨"TraitHouse$Worker", "perform", "(LTraitHouse$Step;)V"⟩, 10) := ⟨⟨by decide +kernel, by decide +kernel⟩, List.mem_of_getElem? (i := 139) (by decide +kernel), List.mem_of_getElem? (i := 616) (by decide +kernel), List.mem_of_getElem? (i := 617) (by decide +kernel)⟩
theorem lw_p40 : lw_okq (⟨"TraitHouse$Worker", "push", "(J)V"⟩, 10) := ⟨⟨by decide +kernel, by decide +kernel⟩, List.mem_of_getElem? (i := 139) (by decide +kernel), List.mem_of_getElem? (i := 620) (by decide +kernel), List.mem_of_getElem? (i := 621) (by decide +kernel)⟩
theorem lw_p41 : lw_okq (⟨"TraitHouse$Worker", "latest", "(LTraitHouse$Step;)J"⟩, 10) := ⟨⟨by decide +kernel, by decide +kernel⟩, List.mem_of_getElem? (i := 139) (by decide +kernel), List.mem_of_getElem? (i := 628) (by decide +kernel), List.mem_of_getElem? (i := 629) (by decide +kernel)⟩
theorem lw_p42 : lw_okq (⟨"TraitHouse$Worker", "window", "(LTraitHouse$Step;)J"⟩, 10) := ⟨⟨by decide +kernel, by decide +kernel⟩, List.mem_of_getElem? (i := 139) (by decide +kernel), List.mem_of_getElem? (i := 632) (by decide +kernel), List.mem_of_getElem? (i := 633) (by decide +kernel)⟩
theorem lw_p43 : lw_okq (⟨"TraitHouse$Worker", "isWithin", "(LTraitHouse$Step;I)Z"⟩, 10) := ⟨⟨by decide +kernel, by decide +kernel⟩, List.mem_of_getElem? (i := 139) (by decide +kernel), List.mem_of_getElem? (i := 638) (by decide +kernel), List.mem_of_getElem? (i := 639) (by decide +kernel)⟩
theorem lw_p44 : lw_okq (⟨"TraitHouse$Worker", "pop", "()J"⟩, 10) := ⟨⟨by decide +kernel, by decide +kernel⟩, List.mem_of_getElem? (i := 139) (by decide +kernel), List.mem_of_getElem? (i := 648) (by decide +kernel), List.mem_of_getElem? (i := 649) (by decide +kernel)⟩
theorem lw_p45 : lw_okq (⟨"TraitHouse", "keepFresh", "(LTraitHouse$Trait;II)V"⟩, 17) := ⟨⟨by decide +kernel, by decide +kernel⟩, List.mem_of_getElem? (i := 18) (by decide +kernel), List.mem_of_getElem? (i := 670) (by decide +kernel), List.mem_of_getElem? (i := 671) (by decide +kernel)⟩
theorem lw_p46 : lw_okq (⟨"TraitHouse$Trait", "isOutside", "(J)Z"⟩, 8) := ⟨⟨by decide +kernel, by decide +kernel⟩, List.mem_of_getElem? (i := 337) (by decide +kernel), List.mem_of_getElem? (i := 674) (by decide +kernel), List.mem_of_getElem? (i := 675) (by decide +kernel)⟩
theorem lw_p47 : lw_okq (⟨"TraitHouse$Places", "put", "(IIIZJ)V"⟩, 5) := ⟨⟨by decide +kernel, by decide +kernel⟩, List.mem_of_getElem? (i := 177) (by decide +kernel), List.mem_of_getElem? (i := 679) (by decide +kernel), List.mem_of_getElem? (i := 680) (by decide +kernel)⟩
def lw_privs_3 : List (MethodName × Nat) := [(⟨"TraitHouse$Reader", "kindAt", "()I"⟩, 9), (⟨"TraitHouse$Reader", "readWindow", "(I)Z"⟩, 9), (⟨"TraitHouse$Reader", "stepsRead", "()[LTraitHouse$Step;"⟩, 9), (⟨"TraitHouse", "needsOf", "(I)I"⟩, 17), (⟨"TraitHouse$Worker", "make", "(IIII)J"⟩, 10), (⟨"TraitHouse$Worker", "look", "(III)V"⟩, 10), (⟨"TraitHouse$Worker", "workOut", "([LTraitHouse$Step;)J"⟩, 10), (⟨"TraitHouse$Worker", "perform", "(LTraitHouse$Step;)V"⟩, 10), (⟨"TraitHouse$Worker", "push", "(J)V"⟩, 10), (⟨"TraitHouse$Worker", "latest", "(LTraitHouse$Step;)J"⟩, 10), (⟨"TraitHouse$Worker", "window", "(LTraitHouse$Step;)J"⟩, 10), (⟨"TraitHouse$Worker", "isWithin", "(LTraitHouse$Step;I)Z"⟩, 10), (⟨"TraitHouse$Worker", "pop", "()J"⟩, 10), (⟨"TraitHouse", "keepFresh", "(LTraitHouse$Trait;II)V"⟩, 17), (⟨"TraitHouse$Trait", "isOutside", "(J)Z"⟩, 8), (⟨"TraitHouse$Places", "put", "(IIIZJ)V"⟩, 5)]
theorem lw_r3 : ∀ q ∈ lw_privs_3, lw_okq q := List.forall_mem_cons.mpr ⟨lw_p32, List.forall_mem_cons.mpr ⟨lw_p33, List.forall_mem_cons.mpr ⟨lw_p34, List.forall_mem_cons.mpr ⟨lw_p35, List.forall_mem_cons.mpr ⟨lw_p36, List.forall_mem_cons.mpr ⟨lw_p37, List.forall_mem_cons.mpr ⟨lw_p38, List.forall_mem_cons.mpr ⟨lw_p39, List.forall_mem_cons.mpr ⟨lw_p40, List.forall_mem_cons.mpr ⟨lw_p41, List.forall_mem_cons.mpr ⟨lw_p42, List.forall_mem_cons.mpr ⟨lw_p43, List.forall_mem_cons.mpr ⟨lw_p44, List.forall_mem_cons.mpr ⟨lw_p45, List.forall_mem_cons.mpr ⟨lw_p46, List.forall_mem_cons.mpr ⟨lw_p47, fun _ h => absurd h List.not_mem_nil⟩⟩⟩⟩⟩⟩⟩⟩⟩⟩⟩⟩⟩⟩⟩⟩
theorem lw_p48 : lw_okq (⟨"TraitHouse$Trait", "isKept", "(I)Z"⟩, 8) := ⟨⟨by decide +kernel, by decide +kernel⟩, List.mem_of_getElem? (i := 337) (by decide +kernel), List.mem_of_getElem? (i := 694) (by decide +kernel), List.mem_of_getElem? (i := 695) (by decide +kernel)⟩
theorem lw_p49 : lw_okq (⟨"TraitHouse$Trait", "isStale", "(II)Z"⟩, 8) := ⟨⟨by decide +kernel, by decide +kernel⟩, List.mem_of_getElem? (i := 337) (by decide +kernel), List.mem_of_getElem? (i := 698) (by decide +kernel), List.mem_of_getElem? (i := 699) (by decide +kernel)⟩
theorem lw_p50 : lw_okq (⟨"TraitHouse", "placesToFill", "(IIII)I"⟩, 17) := ⟨⟨by decide +kernel, by decide +kernel⟩, List.mem_of_getElem? (i := 18) (by decide +kernel), List.mem_of_getElem? (i := 710) (by decide +kernel), List.mem_of_getElem? (i := 711) (by decide +kernel)⟩
theorem lw_p51 : lw_okq (⟨"TraitHouse$Places", "free", "()I"⟩, 5) := ⟨⟨by decide +kernel, by decide +kernel⟩, List.mem_of_getElem? (i := 177) (by decide +kernel), List.mem_of_getElem? (i := 714) (by decide +kernel), List.mem_of_getElem? (i := 715) (by decide +kernel)⟩
theorem lw_p52 : lw_okq (⟨"TraitHouse", "fillMoment", "(II)V"⟩, 17) := ⟨⟨by decide +kernel, by decide +kernel⟩, List.mem_of_getElem? (i := 18) (by decide +kernel), List.mem_of_getElem? (i := 718) (by decide +kernel), List.mem_of_getElem? (i := 719) (by decide +kernel)⟩
theorem lw_p53 : lw_okq (⟨"TraitHouse", "placeOf", "(III)I"⟩, 17) := ⟨⟨by decide +kernel, by decide +kernel⟩, List.mem_of_getElem? (i := 18) (by decide +kernel), List.mem_of_getElem? (i := 726) (by decide +kernel), List.mem_of_getElem? (i := 727) (by decide +kernel)⟩
theorem lw_p54 : lw_okq (⟨"TraitHouse$Places", "find", "(III)I"⟩, 5) := ⟨⟨by decide +kernel, by decide +kernel⟩, List.mem_of_getElem? (i := 177) (by decide +kernel), List.mem_of_getElem? (i := 730) (by decide +kernel), List.mem_of_getElem? (i := 731) (by decide +kernel)⟩
theorem lw_p55 : lw_okq (⟨"TraitHouse", "isModel", "(I)Z"⟩, 17) := ⟨⟨by decide +kernel, by decide +kernel⟩, List.mem_of_getElem? (i := 18) (by decide +kernel), List.mem_of_getElem? (i := 746) (by decide +kernel), List.mem_of_getElem? (i := 747) (by decide +kernel)⟩
theorem lw_p56 : lw_okq (⟨"TraitHouse$Trait", "isMissing", "(II)Z"⟩, 8) := ⟨⟨by decide +kernel, by decide +kernel⟩, List.mem_of_getElem? (i := 337) (by decide +kernel), List.mem_of_getElem? (i := 758) (by decide +kernel), List.mem_of_getElem? (i := 759) (by decide +kernel)⟩
theorem lw_p57 : lw_okq (⟨"TraitHouse", "heapUp", "([IIIJJJ)I"⟩, 17) := ⟨⟨by decide +kernel, by decide +kernel⟩, List.mem_of_getElem? (i := 18) (by decide +kernel), List.mem_of_getElem? (i := 770) (by decide +kernel), List.mem_of_getElem? (i := 771) (by decide +kernel)⟩
theorem lw_p58 : lw_okq (⟨"TraitHouseModel", "ends", "(I)I"⟩, 51) := ⟨⟨by decide +kernel, by decide +kernel⟩, List.mem_of_getElem? (i := 790) (by decide +kernel), List.mem_of_getElem? (i := 958) (by decide +kernel), List.mem_of_getElem? (i := 959) (by decide +kernel)⟩
theorem lw_p59 : lw_okq (⟨"TraitHouseModel", "last", "(II)I"⟩, 51) := ⟨⟨by decide +kernel, by decide +kernel⟩, List.mem_of_getElem? (i := 790) (by decide +kernel), List.mem_of_getElem? (i := 981) (by decide +kernel), List.mem_of_getElem? (i := 982) (by decide +kernel)⟩
theorem lw_p60 : lw_okq (⟨"TraitHouseModel", "next", "()V"⟩, 51) := ⟨⟨by decide +kernel, by decide +kernel⟩, List.mem_of_getElem? (i := 790) (by decide +kernel), List.mem_of_getElem? (i := 1005) (by decide +kernel), List.mem_of_getElem? (i := 1006) (by decide +kernel)⟩
theorem lw_p61 : lw_okq (⟨"TraitHouseModel", "isIn", "(III)Z"⟩, 51) := ⟨⟨by decide +kernel, by decide +kernel⟩, List.mem_of_getElem? (i := 790) (by decide +kernel), List.mem_of_getElem? (i := 1009) (by decide +kernel), List.mem_of_getElem? (i := 1010) (by decide +kernel)⟩
theorem lw_p62 : lw_okq (⟨"TraitHouseModel", "sum", "()V"⟩, 51) := ⟨⟨by decide +kernel, by decide +kernel⟩, List.mem_of_getElem? (i := 790) (by decide +kernel), List.mem_of_getElem? (i := 1013) (by decide +kernel), List.mem_of_getElem? (i := 1014) (by decide +kernel)⟩
theorem lw_p63 : lw_okq (⟨"TraitHouseModel", "term", "()V"⟩, 51) := ⟨⟨by decide +kernel, by decide +kernel⟩, List.mem_of_getElem? (i := 790) (by decide +kernel), List.mem_of_getElem? (i := 1017) (by decide +kernel), List.mem_of_getElem? (i := 1018) (by decide +kernel)⟩
def lw_privs_4 : List (MethodName × Nat) := [(⟨"TraitHouse$Trait", "isKept", "(I)Z"⟩, 8), (⟨"TraitHouse$Trait", "isStale", "(II)Z"⟩, 8), (⟨"TraitHouse", "placesToFill", "(IIII)I"⟩, 17), (⟨"TraitHouse$Places", "free", "()I"⟩, 5), (⟨"TraitHouse", "fillMoment", "(II)V"⟩, 17), (⟨"TraitHouse", "placeOf", "(III)I"⟩, 17), (⟨"TraitHouse$Places", "find", "(III)I"⟩, 5), (⟨"TraitHouse", "isModel", "(I)Z"⟩, 17), (⟨"TraitHouse$Trait", "isMissing", "(II)Z"⟩, 8), (⟨"TraitHouse", "heapUp", "([IIIJJJ)I"⟩, 17), (⟨"TraitHouseModel", "ends", "(I)I"⟩, 51), (⟨"TraitHouseModel", "last", "(II)I"⟩, 51), (⟨"TraitHouseModel", "next", "()V"⟩, 51), (⟨"TraitHouseModel", "isIn", "(III)Z"⟩, 51), (⟨"TraitHouseModel", "sum", "()V"⟩, 51), (⟨"TraitHouseModel", "term", "()V"⟩, 51)]
theorem lw_r4 : ∀ q ∈ lw_privs_4, lw_okq q := List.forall_mem_cons.mpr ⟨lw_p48, List.forall_mem_cons.mpr ⟨lw_p49, List.forall_mem_cons.mpr ⟨lw_p50, List.forall_mem_cons.mpr ⟨lw_p51, List.forall_mem_cons.mpr ⟨lw_p52, List.forall_mem_cons.mpr ⟨lw_p53, List.forall_mem_cons.mpr ⟨lw_p54, List.forall_mem_cons.mpr ⟨lw_p55, List.forall_mem_cons.mpr ⟨lw_p56, List.forall_mem_cons.mpr ⟨lw_p57, List.forall_mem_cons.mpr ⟨lw_p58, List.forall_mem_cons.mpr ⟨lw_p59, List.forall_mem_cons.mpr ⟨lw_p60, List.forall_mem_cons.mpr ⟨lw_p61, List.forall_mem_cons.mpr ⟨lw_p62, List.forall_mem_cons.mpr ⟨lw_p63, fun _ h => absurd h List.not_mem_nil⟩⟩⟩⟩⟩⟩⟩⟩⟩⟩⟩⟩⟩⟩⟩⟩
theorem lw_p64 : lw_okq (⟨"TraitHouseModel", "part", "()V"⟩, 51) := ⟨⟨by decide +kernel, by decide +kernel⟩, List.mem_of_getElem? (i := 790) (by decide +kernel), List.mem_of_getElem? (i := 1021) (by decide +kernel), List.mem_of_getElem? (i := 1022) (by decide +kernel)⟩
theorem lw_p65 : lw_okq (⟨"TraitHouseModel", "atom", "()V"⟩, 51) := ⟨⟨by decide +kernel, by decide +kernel⟩, List.mem_of_getElem? (i := 790) (by decide +kernel), List.mem_of_getElem? (i := 1025) (by decide +kernel), List.mem_of_getElem? (i := 1026) (by decide +kernel)⟩
theorem lw_p66 : lw_okq (⟨"TraitHouseModel", "number", "(I)I"⟩, 51) := ⟨⟨by decide +kernel, by decide +kernel⟩, List.mem_of_getElem? (i := 790) (by decide +kernel), List.mem_of_getElem? (i := 1030) (by decide +kernel), List.mem_of_getElem? (i := 1031) (by decide +kernel)⟩
theorem lw_p67 : lw_okq (⟨"TraitHouseModel", "faults", "()V"⟩, 51) := ⟨⟨by decide +kernel, by decide +kernel⟩, List.mem_of_getElem? (i := 790) (by decide +kernel), List.mem_of_getElem? (i := 1034) (by decide +kernel), List.mem_of_getElem? (i := 1035) (by decide +kernel)⟩
theorem lw_p68 : lw_okq (⟨"TraitHouseModel", "good", "()Z"⟩, 51) := ⟨⟨by decide +kernel, by decide +kernel⟩, List.mem_of_getElem? (i := 790) (by decide +kernel), List.mem_of_getElem? (i := 1040) (by decide +kernel), List.mem_of_getElem? (i := 1041) (by decide +kernel)⟩
theorem lw_p69 : lw_okq (⟨"TraitHouseModel", "puts", "(IIII)V"⟩, 51) := ⟨⟨by decide +kernel, by decide +kernel⟩, List.mem_of_getElem? (i := 790) (by decide +kernel), List.mem_of_getElem? (i := 1044) (by decide +kernel), List.mem_of_getElem? (i := 1045) (by decide +kernel)⟩
theorem lw_p70 : lw_okq (⟨"TraitHouseModel", "isSign", "(I)Z"⟩, 51) := ⟨⟨by decide +kernel, by decide +kernel⟩, List.mem_of_getElem? (i := 790) (by decide +kernel), List.mem_of_getElem? (i := 1048) (by decide +kernel), List.mem_of_getElem? (i := 1049) (by decide +kernel)⟩
theorem lw_p71 : lw_okq (⟨"TraitHouseModel", "bracket", "()V"⟩, 51) := ⟨⟨by decide +kernel, by decide +kernel⟩, List.mem_of_getElem? (i := 790) (by decide +kernel), List.mem_of_getElem? (i := 1052) (by decide +kernel), List.mem_of_getElem? (i := 1053) (by decide +kernel)⟩
theorem lw_p72 : lw_okq (⟨"TraitHouseModel", "isWord", "(J)Z"⟩, 51) := ⟨⟨by decide +kernel, by decide +kernel⟩, List.mem_of_getElem? (i := 790) (by decide +kernel), List.mem_of_getElem? (i := 1057) (by decide +kernel), List.mem_of_getElem? (i := 1058) (by decide +kernel)⟩
theorem lw_p73 : lw_okq (⟨"TraitHouseModel", "window", "(I)V"⟩, 51) := ⟨⟨by decide +kernel, by decide +kernel⟩, List.mem_of_getElem? (i := 790) (by decide +kernel), List.mem_of_getElem? (i := 1069) (by decide +kernel), List.mem_of_getElem? (i := 1070) (by decide +kernel)⟩
theorem lw_p74 : lw_okq (⟨"TraitHouseModel", "isTrait", "(I)Z"⟩, 51) := ⟨⟨by decide +kernel, by decide +kernel⟩, List.mem_of_getElem? (i := 790) (by decide +kernel), List.mem_of_getElem? (i := 1085) (by decide +kernel), List.mem_of_getElem? (i := 1086) (by decide +kernel)⟩
theorem lw_p75 : lw_okq (⟨"TraitHouseModel", "valueOf", "(IIII)J"⟩, 51) := ⟨⟨by decide +kernel, by decide +kernel⟩, List.mem_of_getElem? (i := 790) (by decide +kernel), List.mem_of_getElem? (i := 1089) (by decide +kernel), List.mem_of_getElem? (i := 1090) (by decide +kernel)⟩
theorem lw_p76 : lw_okq (⟨"TraitHouseModel", "works", "(III)J"⟩, 51) := ⟨⟨by decide +kernel, by decide +kernel⟩, List.mem_of_getElem? (i := 790) (by decide +kernel), List.mem_of_getElem? (i := 1093) (by decide +kernel), List.mem_of_getElem? (i := 1094) (by decide +kernel)⟩
theorem lw_p77 : lw_okq (⟨"TraitHouseModel", "latest", "(IIIZ)J"⟩, 51) := ⟨⟨by decide +kernel, by decide +kernel⟩, List.mem_of_getElem? (i := 790) (by decide +kernel), List.mem_of_getElem? (i := 1105) (by decide +kernel), List.mem_of_getElem? (i := 1106) (by decide +kernel)⟩
theorem lw_p78 : lw_okq (⟨"TraitHouseModel", "counts", "(IIII)Z"⟩, 51) := ⟨⟨by decide +kernel, by decide +kernel⟩, List.mem_of_getElem? (i := 790) (by decide +kernel), List.mem_of_getElem? (i := 1109) (by decide +kernel), List.mem_of_getElem? (i := 1110) (by decide +kernel)⟩
theorem lw_p79 : lw_okq (⟨"TraitHouseModel", "windowed", "(IIIIII)J"⟩, 51) := ⟨⟨by decide +kernel, by decide +kernel⟩, List.mem_of_getElem? (i := 790) (by decide +kernel), List.mem_of_getElem? (i := 1113) (by decide +kernel), List.mem_of_getElem? (i := 1114) (by decide +kernel)⟩
def lw_privs_5 : List (MethodName × Nat) := [(⟨"TraitHouseModel", "part", "()V"⟩, 51), (⟨"TraitHouseModel", "atom", "()V"⟩, 51), (⟨"TraitHouseModel", "number", "(I)I"⟩, 51), (⟨"TraitHouseModel", "faults", "()V"⟩, 51), (⟨"TraitHouseModel", "good", "()Z"⟩, 51), (⟨"TraitHouseModel", "puts", "(IIII)V"⟩, 51), (⟨"TraitHouseModel", "isSign", "(I)Z"⟩, 51), (⟨"TraitHouseModel", "bracket", "()V"⟩, 51), (⟨"TraitHouseModel", "isWord", "(J)Z"⟩, 51), (⟨"TraitHouseModel", "window", "(I)V"⟩, 51), (⟨"TraitHouseModel", "isTrait", "(I)Z"⟩, 51), (⟨"TraitHouseModel", "valueOf", "(IIII)J"⟩, 51), (⟨"TraitHouseModel", "works", "(III)J"⟩, 51), (⟨"TraitHouseModel", "latest", "(IIIZ)J"⟩, 51), (⟨"TraitHouseModel", "counts", "(IIII)Z"⟩, 51), (⟨"TraitHouseModel", "windowed", "(IIIIII)J"⟩, 51)]
theorem lw_r5 : ∀ q ∈ lw_privs_5, lw_okq q := List.forall_mem_cons.mpr ⟨lw_p64, List.forall_mem_cons.mpr ⟨lw_p65, List.forall_mem_cons.mpr ⟨lw_p66, List.forall_mem_cons.mpr ⟨lw_p67, List.forall_mem_cons.mpr ⟨lw_p68, List.forall_mem_cons.mpr ⟨lw_p69, List.forall_mem_cons.mpr ⟨lw_p70, List.forall_mem_cons.mpr ⟨lw_p71, List.forall_mem_cons.mpr ⟨lw_p72, List.forall_mem_cons.mpr ⟨lw_p73, List.forall_mem_cons.mpr ⟨lw_p74, List.forall_mem_cons.mpr ⟨lw_p75, List.forall_mem_cons.mpr ⟨lw_p76, List.forall_mem_cons.mpr ⟨lw_p77, List.forall_mem_cons.mpr ⟨lw_p78, List.forall_mem_cons.mpr ⟨lw_p79, fun _ h => absurd h List.not_mem_nil⟩⟩⟩⟩⟩⟩⟩⟩⟩⟩⟩⟩⟩⟩⟩⟩
theorem lw_p80 : lw_okq (⟨"TraitHouseModel", "lays", "(IIIJZ)V"⟩, 51) := ⟨⟨by decide +kernel, by decide +kernel⟩, List.mem_of_getElem? (i := 790) (by decide +kernel), List.mem_of_getElem? (i := 1129) (by decide +kernel), List.mem_of_getElem? (i := 1130) (by decide +kernel)⟩
theorem lw_p81 : lw_okq (⟨"TraitHouseModel", "isKept", "(II)Z"⟩, 51) := ⟨⟨by decide +kernel, by decide +kernel⟩, List.mem_of_getElem? (i := 790) (by decide +kernel), List.mem_of_getElem? (i := 1137) (by decide +kernel), List.mem_of_getElem? (i := 1138) (by decide +kernel)⟩
theorem lw_p82 : lw_okq (⟨"TraitHouseModel", "living", "()I"⟩, 51) := ⟨⟨by decide +kernel, by decide +kernel⟩, List.mem_of_getElem? (i := 790) (by decide +kernel), List.mem_of_getElem? (i := 1153) (by decide +kernel), List.mem_of_getElem? (i := 1154) (by decide +kernel)⟩
theorem lw_p83 : lw_okq (⟨"TraitHouseModel", "found", "(III)I"⟩, 51) := ⟨⟨by decide +kernel, by decide +kernel⟩, List.mem_of_getElem? (i := 790) (by decide +kernel), List.mem_of_getElem? (i := 1161) (by decide +kernel), List.mem_of_getElem? (i := 1162) (by decide +kernel)⟩
theorem lw_p84 : lw_okq (⟨"TraitHouseModel", "neededOf", "(I)I"⟩, 51) := ⟨⟨by decide +kernel, by decide +kernel⟩, List.mem_of_getElem? (i := 790) (by decide +kernel), List.mem_of_getElem? (i := 1177) (by decide +kernel), List.mem_of_getElem? (i := 1178) (by decide +kernel)⟩
theorem lw_p85 : lw_okq (⟨"TraitHouseModel", "heaps", "(IIJJJ[I)I"⟩, 51) := ⟨⟨by decide +kernel, by decide +kernel⟩, List.mem_of_getElem? (i := 790) (by decide +kernel), List.mem_of_getElem? (i := 1197) (by decide +kernel), List.mem_of_getElem? (i := 1198) (by decide +kernel)⟩
def lw_privs_6 : List (MethodName × Nat) := [(⟨"TraitHouseModel", "lays", "(IIIJZ)V"⟩, 51), (⟨"TraitHouseModel", "isKept", "(II)Z"⟩, 51), (⟨"TraitHouseModel", "living", "()I"⟩, 51), (⟨"TraitHouseModel", "found", "(III)I"⟩, 51), (⟨"TraitHouseModel", "neededOf", "(I)I"⟩, 51), (⟨"TraitHouseModel", "heaps", "(IIJJJ[I)I"⟩, 51)]
theorem lw_r6 : ∀ q ∈ lw_privs_6, lw_okq q := List.forall_mem_cons.mpr ⟨lw_p80, List.forall_mem_cons.mpr ⟨lw_p81, List.forall_mem_cons.mpr ⟨lw_p82, List.forall_mem_cons.mpr ⟨lw_p83, List.forall_mem_cons.mpr ⟨lw_p84, List.forall_mem_cons.mpr ⟨lw_p85, fun _ h => absurd h List.not_mem_nil⟩⟩⟩⟩⟩⟩
def lw_privs : List (MethodName × Nat) := lw_privs_1 ++ (lw_privs_2 ++ (lw_privs_3 ++ (lw_privs_4 ++ (lw_privs_5 ++ (lw_privs_6)))))
def lw_tbl : List Cond := k2_sels lw_privs ++ tables_1
theorem lw_privs_ok : ∀ q ∈ lw_privs, lw_okq q := by
  show ∀ q ∈ lw_privs_1 ++ (lw_privs_2 ++ (lw_privs_3 ++ (lw_privs_4 ++ (lw_privs_5 ++ (lw_privs_6))))), lw_okq q
  exact List.forall_mem_append.mpr ⟨lw_r1, List.forall_mem_append.mpr ⟨lw_r2, List.forall_mem_append.mpr ⟨lw_r3, List.forall_mem_append.mpr ⟨lw_r4, List.forall_mem_append.mpr ⟨lw_r5, lw_r6⟩⟩⟩⟩⟩
end
section
/-! ===== BEGIN words of one list among another's, by their places ===== -/
theorem goodIn_r {big : List Cond} (ws : List Cond) (ps : List Nat) (hp : ws = ps.filterMap (fun i => big[i]?)) (h : ws.all goodWord = true) : GoodIn big ws := by
  intro w hw
  have h1 := List.all_eq_true.mp h w hw
  rw [hp] at hw
  obtain ⟨i, -, hi⟩ := List.mem_filterMap.mp hw
  have hm : w ∈ big := by first | exact List.mem_of_getElem? hi | exact List.getElem?_mem hi
  exact ⟨hm, good_of_word h1⟩
theorem goodIn_app {big a b : List Cond} (ha : GoodIn big a) (hb : GoodIn big b) : GoodIn big (a ++ b) := fun w h => (List.mem_append.mp h).elim (ha w) (hb w)
theorem goodIn_ca {big a b : List Cond} {c : Cond} (ha : GoodIn big (c :: a)) (hb : GoodIn big b) : GoodIn big (c :: (a ++ b)) := fun w h => (List.mem_cons.mp h).elim (fun e => ha w (List.mem_cons.mpr (Or.inl e))) (fun h => (List.mem_append.mp h).elim (fun h => ha w (List.mem_cons.mpr (Or.inr h))) (hb w))
theorem goodIn_sub {big ws : List Cond} (hm : ∀ w ∈ ws, w ∈ big) (h : ws.all goodWord = true) : GoodIn big ws := fun w hw => ⟨hm w hw, good_of_word (List.all_eq_true.mp h w hw)⟩
/-! ===== END ===== -/

/-! ===== BEGIN printed: names, fields, word lists, decode rows ===== -/
def RX0 : String := "TraitHouse$Merges"
def TX0 : u_T := fun k => match k with
  | 0 => ("TraitHouse$Merges", "targets", "[I", true)
  | 1 => ("TraitHouse$Merges", "knowns", "[I", true)
  | _ => ("TraitHouse$Merges", "size", "I", false)
def tyX0 : Nat → FieldType := fun k => match k with
  | 0 => .array .int
  | 1 => .array .int
  | _ => .int
abbrev wsX00 : List Cond := u_ws RX0 TX0 3
theorem nmX0 : ∀ a, a < 3 → ∀ b, b < 3 → a ≠ b → (TX0 a).2.1 ≠ (TX0 b).2.1 := by decide +kernel
theorem tyX0_ok : ∀ k, k < 3 → parseFieldDescriptor (TX0 k).2.2.1 = some (tyX0 k) := by decide +kernel
abbrev cX0_init : ByteArray := prog_2_method_1_code
def yX0_init : MethodName := ⟨RX0, "<init>", "()V"⟩
abbrev cX0_isTold : ByteArray := prog_2_method_2_code
def yX0_isTold : MethodName := ⟨RX0, "isTold", "(I)Z"⟩
abbrev cX0_add : ByteArray := prog_2_method_3_code
def yX0_add : MethodName := ⟨RX0, "add", "(III)I"⟩
abbrev cX0_lastOf : ByteArray := prog_2_method_4_code
def yX0_lastOf : MethodName := ⟨RX0, "lastOf", "(II)I"⟩
def RX1 : String := "TraitHouse$Places"
def TX1 : u_T := fun k => match k with
  | 0 => ("TraitHouse$Places", "owners", "[I", true)
  | 1 => ("TraitHouse$Places", "moments", "[I", true)
  | 2 => ("TraitHouse$Places", "filled", "[Z", true)
  | 3 => ("TraitHouse$Places", "values", "[J", true)
  | _ => ("TraitHouse$Places", "size", "I", false)
def tyX1 : Nat → FieldType := fun k => match k with
  | 0 => .array .int
  | 1 => .array .int
  | 2 => .array .boolean
  | 3 => .array .long
  | _ => .int
abbrev wsX10 : List Cond := u_ws RX1 TX1 5
theorem nmX1 : ∀ a, a < 5 → ∀ b, b < 5 → a ≠ b → (TX1 a).2.1 ≠ (TX1 b).2.1 := by decide +kernel
theorem tyX1_ok : ∀ k, k < 5 → parseFieldDescriptor (TX1 k).2.2.1 = some (tyX1 k) := by decide +kernel
abbrev cX1_init : ByteArray := prog_3_method_1_code
def yX1_init : MethodName := ⟨RX1, "<init>", "()V"⟩
abbrev cX1_free : ByteArray := prog_3_method_2_code
def yX1_free : MethodName := ⟨RX1, "free", "()I"⟩
abbrev cX1_put : ByteArray := prog_3_method_3_code
def yX1_put : MethodName := ⟨RX1, "put", "(IIIZJ)V"⟩
abbrev cX1_find : ByteArray := prog_3_method_4_code
def yX1_find : MethodName := ⟨RX1, "find", "(III)I"⟩
abbrev cX1_forget : ByteArray := prog_3_method_5_code
def yX1_forget : MethodName := ⟨RX1, "forget", "(I)V"⟩
abbrev cX1_owner : ByteArray := prog_3_method_6_code
def yX1_owner : MethodName := ⟨RX1, "owner", "(II)I"⟩
def RX2 : String := "TraitHouse$Reader"
def TX2 : u_T := fun k => match k with
  | 0 => ("TraitHouse$Reader", "tape", "LTraitHouse$Tape;", true)
  | 1 => ("TraitHouse$Reader", "steps", "[LTraitHouse$Step;", true)
  | 2 => ("TraitHouse$Reader", "size", "I", false)
  | 3 => ("TraitHouse$Reader", "place", "I", false)
  | 4 => ("TraitHouse$Reader", "behind", "I", false)
  | 5 => ("TraitHouse$Reader", "traitsThere", "I", false)
  | 6 => ("TraitHouse$Reader", "fault", "I", false)
  | 7 => ("TraitHouse$Reader", "reads", "I", false)
  | _ => ("TraitHouse$Reader", "leaks", "Z", false)
def tyX2 : Nat → FieldType := fun k => match k with
  | 0 => .object "TraitHouse$Tape"
  | 1 => .array (.object "TraitHouse$Step")
  | 2 => .int
  | 3 => .int
  | 4 => .int
  | 5 => .int
  | 6 => .int
  | 7 => .int
  | _ => .boolean
abbrev wsX20 : List Cond := u_ws RX2 TX2 9
theorem nmX2 : ∀ a, a < 9 → ∀ b, b < 9 → a ≠ b → (TX2 a).2.1 ≠ (TX2 b).2.1 := by decide +kernel
theorem tyX2_ok : ∀ k, k < 9 → parseFieldDescriptor (TX2 k).2.2.1 = some (tyX2 k) := by decide +kernel
abbrev cX2_init : ByteArray := prog_4_method_1_code
def yX2_init : MethodName := ⟨RX2, "<init>", "(LTraitHouse$Tape;)V"⟩
abbrev cX2_read : ByteArray := prog_4_method_2_code
def yX2_read : MethodName := ⟨RX2, "read", "(I)I"⟩
abbrev cX2_stepsRead : ByteArray := prog_4_method_3_code
def yX2_stepsRead : MethodName := ⟨RX2, "stepsRead", "()[LTraitHouse$Step;"⟩
abbrev cX2_readSum : ByteArray := prog_4_method_4_code
def yX2_readSum : MethodName := ⟨RX2, "readSum", "(I)Z"⟩
abbrev cX2_readTerm : ByteArray := prog_4_method_5_code
def yX2_readTerm : MethodName := ⟨RX2, "readTerm", "(I)Z"⟩
abbrev cX2_readPart : ByteArray := prog_4_method_6_code
def yX2_readPart : MethodName := ⟨RX2, "readPart", "(I)Z"⟩
abbrev cX2_readAtom : ByteArray := prog_4_method_7_code
def yX2_readAtom : MethodName := ⟨RX2, "readAtom", "(I)Z"⟩
abbrev cX2_readBracket : ByteArray := prog_4_method_8_code
def yX2_readBracket : MethodName := ⟨RX2, "readBracket", "(I)Z"⟩
abbrev cX2_readNumbered : ByteArray := prog_4_method_9_code
def yX2_readNumbered : MethodName := ⟨RX2, "readNumbered", "(II)Z"⟩
abbrev cX2_readWindow : ByteArray := prog_4_method_10_code
def yX2_readWindow : MethodName := ⟨RX2, "readWindow", "(I)Z"⟩
abbrev cX2_kindAt : ByteArray := prog_4_method_11_code
def yX2_kindAt : MethodName := ⟨RX2, "kindAt", "()I"⟩
abbrev cX2_take : ByteArray := prog_4_method_12_code
def yX2_take : MethodName := ⟨RX2, "take", "(Ljava/lang/String;)Z"⟩
abbrev cX2_takeNumber : ByteArray := prog_4_method_13_code
def yX2_takeNumber : MethodName := ⟨RX2, "takeNumber", "(I)I"⟩
abbrev cX2_stop : ByteArray := prog_4_method_14_code
def yX2_stop : MethodName := ⟨RX2, "stop", "()Z"⟩
abbrev cX2_emit : ByteArray := prog_4_method_15_code
def yX2_emit : MethodName := ⟨RX2, "emit", "(IIII)V"⟩
abbrev cX2_isAt : ByteArray := prog_4_method_16_code
def yX2_isAt : MethodName := ⟨RX2, "isAt", "(Ljava/lang/String;)Z"⟩
abbrev cX2_advance : ByteArray := prog_4_method_17_code
def yX2_advance : MethodName := ⟨RX2, "advance", "()V"⟩
abbrev cX2_isLetterAt : ByteArray := prog_4_method_18_code
def yX2_isLetterAt : MethodName := ⟨RX2, "isLetterAt", "(I)Z"⟩
abbrev cX2_isDigitAt : ByteArray := prog_4_method_19_code
def yX2_isDigitAt : MethodName := ⟨RX2, "isDigitAt", "(I)Z"⟩
def RX3 : String := "TraitHouse$Rows"
def TX3 : u_T := fun k => match k with
  | 0 => ("TraitHouse$Rows", "people", "[I", true)
  | 1 => ("TraitHouse$Rows", "streams", "[I", true)
  | 2 => ("TraitHouse$Rows", "moments", "[I", true)
  | 3 => ("TraitHouse$Rows", "knowns", "[I", true)
  | 4 => ("TraitHouse$Rows", "values", "[I", true)
  | 5 => ("TraitHouse$Rows", "size", "I", false)
  | _ => ("TraitHouse$Rows", "nextNumber", "I", false)
def tyX3 : Nat → FieldType := fun k => match k with
  | 0 => .array .int
  | 1 => .array .int
  | 2 => .array .int
  | 3 => .array .int
  | 4 => .array .int
  | 5 => .int
  | _ => .int
abbrev wsX30 : List Cond := u_ws RX3 TX3 7
theorem nmX3 : ∀ a, a < 7 → ∀ b, b < 7 → a ≠ b → (TX3 a).2.1 ≠ (TX3 b).2.1 := by decide +kernel
theorem tyX3_ok : ∀ k, k < 7 → parseFieldDescriptor (TX3 k).2.2.1 = some (tyX3 k) := by decide +kernel
abbrev cX3_init : ByteArray := prog_5_method_1_code
def yX3_init : MethodName := ⟨RX3, "<init>", "()V"⟩
abbrev cX3_isFull : ByteArray := prog_5_method_2_code
def yX3_isFull : MethodName := ⟨RX3, "isFull", "()Z"⟩
abbrev cX3_add : ByteArray := prog_5_method_3_code
def yX3_add : MethodName := ⟨RX3, "add", "(IIIII)I"⟩
abbrev cX3_drop : ByteArray := prog_5_method_4_code
def yX3_drop : MethodName := ⟨RX3, "drop", "(I)I"⟩
abbrev cX3_move : ByteArray := prog_5_method_5_code
def yX3_move : MethodName := ⟨RX3, "move", "(II)V"⟩
def RX4 : String := "TraitHouse$Step"
def TX4 : u_T := fun k => match k with
  | 0 => ("TraitHouse$Step", "kind", "I", true)
  | 1 => ("TraitHouse$Step", "number", "I", true)
  | 2 => ("TraitHouse$Step", "from", "I", true)
  | _ => ("TraitHouse$Step", "to", "I", true)
def tyX4 : Nat → FieldType := fun k => match k with
  | 0 => .int
  | 1 => .int
  | 2 => .int
  | _ => .int
abbrev wsX40 : List Cond := u_ws RX4 TX4 4
theorem nmX4 : ∀ a, a < 4 → ∀ b, b < 4 → a ≠ b → (TX4 a).2.1 ≠ (TX4 b).2.1 := by decide +kernel
theorem tyX4_ok : ∀ k, k < 4 → parseFieldDescriptor (TX4 k).2.2.1 = some (tyX4 k) := by decide +kernel
abbrev cX4_init : ByteArray := prog_6_method_1_code
def yX4_init : MethodName := ⟨RX4, "<init>", "(IIII)V"⟩
def RX5 : String := "TraitHouse$Tape"
def TX5 : u_T := fun k => match k with
  | 0 => ("TraitHouse$Tape", "bytes", "[I", true)
  | _ => ("TraitHouse$Tape", "size", "I", false)
def tyX5 : Nat → FieldType := fun k => match k with
  | 0 => .array .int
  | _ => .int
abbrev wsX50 : List Cond := u_ws RX5 TX5 2
theorem nmX5 : ∀ a, a < 2 → ∀ b, b < 2 → a ≠ b → (TX5 a).2.1 ≠ (TX5 b).2.1 := by decide +kernel
theorem tyX5_ok : ∀ k, k < 2 → parseFieldDescriptor (TX5 k).2.2.1 = some (tyX5 k) := by decide +kernel
abbrev cX5_init : ByteArray := prog_7_method_1_code
def yX5_init : MethodName := ⟨RX5, "<init>", "()V"⟩
abbrev cX5_append : ByteArray := prog_7_method_2_code
def yX5_append : MethodName := ⟨RX5, "append", "(I)V"⟩
def RX6 : String := "TraitHouse$Trait"
def TX6 : u_T := fun k => match k with
  | 0 => ("TraitHouse$Trait", "steps", "[LTraitHouse$Step;", true)
  | 1 => ("TraitHouse$Trait", "needs", "I", true)
  | 2 => ("TraitHouse$Trait", "keptValues", "[J", true)
  | 3 => ("TraitHouse$Trait", "keptMoments", "[I", true)
  | 4 => ("TraitHouse$Trait", "lawFrom", "J", false)
  | 5 => ("TraitHouse$Trait", "lawTo", "J", false)
  | 6 => ("TraitHouse$Trait", "staleAbove", "I", false)
  | _ => ("TraitHouse$Trait", "heldInAll", "I", false)
def tyX6 : Nat → FieldType := fun k => match k with
  | 0 => .array (.object "TraitHouse$Step")
  | 1 => .int
  | 2 => .array .long
  | 3 => .array .int
  | 4 => .long
  | 5 => .long
  | 6 => .int
  | _ => .int
abbrev wsX60 : List Cond := u_ws RX6 TX6 8
theorem nmX6 : ∀ a, a < 8 → ∀ b, b < 8 → a ≠ b → (TX6 a).2.1 ≠ (TX6 b).2.1 := by decide +kernel
theorem tyX6_ok : ∀ k, k < 8 → parseFieldDescriptor (TX6 k).2.2.1 = some (tyX6 k) := by decide +kernel
abbrev cX6_init : ByteArray := prog_8_method_1_code
def yX6_init : MethodName := ⟨RX6, "<init>", "([LTraitHouse$Step;I)V"⟩
abbrev cX6_isOutside : ByteArray := prog_8_method_2_code
def yX6_isOutside : MethodName := ⟨RX6, "isOutside", "(J)Z"⟩
abbrev cX6_keep : ByteArray := prog_8_method_3_code
def yX6_keep : MethodName := ⟨RX6, "keep", "(IJI)V"⟩
abbrev cX6_forget : ByteArray := prog_8_method_4_code
def yX6_forget : MethodName := ⟨RX6, "forget", "(I)V"⟩
abbrev cX6_isKept : ByteArray := prog_8_method_5_code
def yX6_isKept : MethodName := ⟨RX6, "isKept", "(I)Z"⟩
abbrev cX6_isStale : ByteArray := prog_8_method_6_code
def yX6_isStale : MethodName := ⟨RX6, "isStale", "(II)Z"⟩
abbrev cX6_isMissing : ByteArray := prog_8_method_7_code
def yX6_isMissing : MethodName := ⟨RX6, "isMissing", "(II)Z"⟩
def RX7 : String := "TraitHouse$Worker"
def TX7 : u_T := fun k => match k with
  | 0 => ("TraitHouse$Worker", "rows", "LTraitHouse$Rows;", true)
  | 1 => ("TraitHouse$Worker", "merges", "LTraitHouse$Merges;", true)
  | 2 => ("TraitHouse$Worker", "traits", "[LTraitHouse$Trait;", true)
  | 3 => ("TraitHouse$Worker", "ones", "[Z", true)
  | 4 => ("TraitHouse$Worker", "seen", "[I", true)
  | 5 => ("TraitHouse$Worker", "stack", "[J", true)
  | 6 => ("TraitHouse$Worker", "values", "[J", true)
  | 7 => ("TraitHouse$Worker", "seenRows", "I", false)
  | 8 => ("TraitHouse$Worker", "moment", "I", false)
  | _ => ("TraitHouse$Worker", "top", "I", false)
def tyX7 : Nat → FieldType := fun k => match k with
  | 0 => .object "TraitHouse$Rows"
  | 1 => .object "TraitHouse$Merges"
  | 2 => .array (.object "TraitHouse$Trait")
  | 3 => .array .boolean
  | 4 => .array .int
  | 5 => .array .long
  | 6 => .array .long
  | 7 => .int
  | 8 => .int
  | _ => .int
abbrev wsX70 : List Cond := u_ws RX7 TX7 10
theorem nmX7 : ∀ a, a < 10 → ∀ b, b < 10 → a ≠ b → (TX7 a).2.1 ≠ (TX7 b).2.1 := by decide +kernel
theorem tyX7_ok : ∀ k, k < 10 → parseFieldDescriptor (TX7 k).2.2.1 = some (tyX7 k) := by decide +kernel
abbrev cX7_init : ByteArray := prog_9_method_1_code
def yX7_init : MethodName := ⟨RX7, "<init>", "(LTraitHouse$Rows;LTraitHouse$Merges;[LTraitHouse$Trait;)V"⟩
abbrev cX7_make : ByteArray := prog_9_method_2_code
def yX7_make : MethodName := ⟨RX7, "make", "(IIII)J"⟩
abbrev cX7_look : ByteArray := prog_9_method_3_code
def yX7_look : MethodName := ⟨RX7, "look", "(III)V"⟩
abbrev cX7_workOut : ByteArray := prog_9_method_4_code
def yX7_workOut : MethodName := ⟨RX7, "workOut", "([LTraitHouse$Step;)J"⟩
abbrev cX7_perform : ByteArray := prog_9_method_5_code
def yX7_perform : MethodName := ⟨RX7, "perform", "(LTraitHouse$Step;)V"⟩
abbrev cX7_latest : ByteArray := prog_9_method_6_code
def yX7_latest : MethodName := ⟨RX7, "latest", "(LTraitHouse$Step;)J"⟩
abbrev cX7_window : ByteArray := prog_9_method_7_code
def yX7_window : MethodName := ⟨RX7, "window", "(LTraitHouse$Step;)J"⟩
abbrev cX7_isWithin : ByteArray := prog_9_method_8_code
def yX7_isWithin : MethodName := ⟨RX7, "isWithin", "(LTraitHouse$Step;I)Z"⟩
abbrev cX7_join : ByteArray := prog_9_method_9_code
def yX7_join : MethodName := ⟨RX7, "join", "(IJJ)J"⟩
abbrev cX7_times : ByteArray := prog_9_method_10_code
def yX7_times : MethodName := ⟨RX7, "times", "(JJ)J"⟩
abbrev cX7_push : ByteArray := prog_9_method_11_code
def yX7_push : MethodName := ⟨RX7, "push", "(J)V"⟩
abbrev cX7_pop : ByteArray := prog_9_method_12_code
def yX7_pop : MethodName := ⟨RX7, "pop", "()J"⟩
def RX8 : String := "TraitHouse"
def TX8 : u_T := fun k => match k with
  | 0 => ("TraitHouse", "rows", "LTraitHouse$Rows;", true)
  | 1 => ("TraitHouse", "merges", "LTraitHouse$Merges;", true)
  | 2 => ("TraitHouse", "erased", "[Z", true)
  | 3 => ("TraitHouse", "tape", "LTraitHouse$Tape;", true)
  | 4 => ("TraitHouse", "reader", "LTraitHouse$Reader;", true)
  | 5 => ("TraitHouse", "traits", "[LTraitHouse$Trait;", true)
  | 6 => ("TraitHouse", "worker", "LTraitHouse$Worker;", true)
  | 7 => ("TraitHouse", "places", "LTraitHouse$Places;", true)
  | 8 => ("TraitHouse", "models", "[I", true)
  | 9 => ("TraitHouse", "heapsAtOne", "[I", true)
  | 10 => ("TraitHouse", "heapsAtOther", "[I", true)
  | 11 => ("TraitHouse", "now", "I", false)
  | 12 => ("TraitHouse", "erasedPeople", "I", false)
  | 13 => ("TraitHouse", "traitsThere", "I", false)
  | 14 => ("TraitHouse", "modelsThere", "I", false)
  | 15 => ("TraitHouse", "latestFault", "I", false)
  | _ => ("TraitHouse", "latestRefusal", "I", false)
def tyX8 : Nat → FieldType := fun k => match k with
  | 0 => .object "TraitHouse$Rows"
  | 1 => .object "TraitHouse$Merges"
  | 2 => .array .boolean
  | 3 => .object "TraitHouse$Tape"
  | 4 => .object "TraitHouse$Reader"
  | 5 => .array (.object "TraitHouse$Trait")
  | 6 => .object "TraitHouse$Worker"
  | 7 => .object "TraitHouse$Places"
  | 8 => .array .int
  | 9 => .array .int
  | 10 => .array .int
  | 11 => .int
  | 12 => .int
  | 13 => .int
  | 14 => .int
  | 15 => .int
  | _ => .int
abbrev wsX80 : List Cond := u_ws RX8 TX8 17
theorem nmX8 : ∀ a, a < 17 → ∀ b, b < 17 → a ≠ b → (TX8 a).2.1 ≠ (TX8 b).2.1 := by decide +kernel
theorem tyX8_ok : ∀ k, k < 17 → parseFieldDescriptor (TX8 k).2.2.1 = some (tyX8 k) := by decide +kernel
abbrev cX8_init : ByteArray := prog_1_method_1_code
def yX8_init : MethodName := ⟨RX8, "<init>", "()V"⟩
abbrev cX8_now : ByteArray := prog_1_method_2_code
def yX8_now : MethodName := ⟨RX8, "now", "(I)I"⟩
abbrev cX8_row : ByteArray := prog_1_method_3_code
def yX8_row : MethodName := ⟨RX8, "row", "(IIIII)I"⟩
abbrev cX8_addRow : ByteArray := prog_1_method_4_code
def yX8_addRow : MethodName := ⟨RX8, "addRow", "(IIIII)I"⟩
abbrev cX8_merge : ByteArray := prog_1_method_5_code
def yX8_merge : MethodName := ⟨RX8, "merge", "(III)I"⟩
abbrev cX8_addMerge : ByteArray := prog_1_method_6_code
def yX8_addMerge : MethodName := ⟨RX8, "addMerge", "(III)I"⟩
abbrev cX8_leads : ByteArray := prog_1_method_7_code
def yX8_leads : MethodName := ⟨RX8, "leads", "(II)I"⟩
abbrev cX8_erase : ByteArray := prog_1_method_8_code
def yX8_erase : MethodName := ⟨RX8, "erase", "(I)I"⟩
abbrev cX8_dropPerson : ByteArray := prog_1_method_9_code
def yX8_dropPerson : MethodName := ⟨RX8, "dropPerson", "(I)I"⟩
abbrev cX8_feed : ByteArray := prog_1_method_10_code
def yX8_feed : MethodName := ⟨RX8, "feed", "(IIIII)I"⟩
abbrev cX8_end : ByteArray := prog_1_method_11_code
def yX8_end : MethodName := ⟨RX8, "end", "(I)I"⟩
abbrev cX8_trait : ByteArray := prog_1_method_12_code
def yX8_trait : MethodName := ⟨RX8, "trait", "()I"⟩
abbrev cX8_readTrait : ByteArray := prog_1_method_13_code
def yX8_readTrait : MethodName := ⟨RX8, "readTrait", "()I"⟩
abbrev cX8_fault : ByteArray := prog_1_method_14_code
def yX8_fault : MethodName := ⟨RX8, "fault", "()I"⟩
abbrev cX8_value : ByteArray := prog_1_method_15_code
def yX8_value : MethodName := ⟨RX8, "value", "(IIII)J"⟩
abbrev cX8_law : ByteArray := prog_1_method_16_code
def yX8_law : MethodName := ⟨RX8, "law", "(IJJ)I"⟩
abbrev cX8_limit : ByteArray := prog_1_method_17_code
def yX8_limit : MethodName := ⟨RX8, "limit", "(II)I"⟩
abbrev cX8_freshen : ByteArray := prog_1_method_18_code
def yX8_freshen : MethodName := ⟨RX8, "freshen", "(I)I"⟩
abbrev cX8_keepFresh : ByteArray := prog_1_method_19_code
def yX8_keepFresh : MethodName := ⟨RX8, "keepFresh", "(LTraitHouse$Trait;II)V"⟩
abbrev cX8_kept : ByteArray := prog_1_method_20_code
def yX8_kept : MethodName := ⟨RX8, "kept", "(II)J"⟩
abbrev cX8_age : ByteArray := prog_1_method_21_code
def yX8_age : MethodName := ⟨RX8, "age", "(III)I"⟩
abbrev cX8_held : ByteArray := prog_1_method_22_code
def yX8_held : MethodName := ⟨RX8, "held", "(I)I"⟩
abbrev cX8_fill : ByteArray := prog_1_method_23_code
def yX8_fill : MethodName := ⟨RX8, "fill", "(IIII)I"⟩
abbrev cX8_placesToFill : ByteArray := prog_1_method_24_code
def yX8_placesToFill : MethodName := ⟨RX8, "placesToFill", "(IIII)I"⟩
abbrev cX8_fillMoment : ByteArray := prog_1_method_25_code
def yX8_fillMoment : MethodName := ⟨RX8, "fillMoment", "(II)V"⟩
abbrev cX8_history : ByteArray := prog_1_method_26_code
def yX8_history : MethodName := ⟨RX8, "history", "(III)J"⟩
abbrev cX8_told : ByteArray := prog_1_method_27_code
def yX8_told : MethodName := ⟨RX8, "told", "(IIII)I"⟩
abbrev cX8_placeOf : ByteArray := prog_1_method_28_code
def yX8_placeOf : MethodName := ⟨RX8, "placeOf", "(III)I"⟩
abbrev cX8_model : ByteArray := prog_1_method_29_code
def yX8_model : MethodName := ⟨RX8, "model", "(I)I"⟩
abbrev cX8_needed : ByteArray := prog_1_method_30_code
def yX8_needed : MethodName := ⟨RX8, "needed", "(I)I"⟩
abbrev cX8_hung : ByteArray := prog_1_method_31_code
def yX8_hung : MethodName := ⟨RX8, "hung", "(I)I"⟩
abbrev cX8_misses : ByteArray := prog_1_method_32_code
def yX8_misses : MethodName := ⟨RX8, "misses", "(II)I"⟩
abbrev cX8_shift : ByteArray := prog_1_method_33_code
def yX8_shift : MethodName := ⟨RX8, "shift", "(IIIJJJI)J"⟩
abbrev cX8_heapUp : ByteArray := prog_1_method_34_code
def yX8_heapUp : MethodName := ⟨RX8, "heapUp", "([IIIJJJ)I"⟩
abbrev cX8_commonDivisor : ByteArray := prog_1_method_35_code
def yX8_commonDivisor : MethodName := ⟨RX8, "commonDivisor", "(II)I"⟩
abbrev cX8_count : ByteArray := prog_1_method_36_code
def yX8_count : MethodName := ⟨RX8, "count", "(I)I"⟩
abbrev cX8_status : ByteArray := prog_1_method_37_code
def yX8_status : MethodName := ⟨RX8, "status", "()I"⟩
abbrev cX8_settle : ByteArray := prog_1_method_38_code
def yX8_settle : MethodName := ⟨RX8, "settle", "(I)I"⟩
abbrev cX8_isMoment : ByteArray := prog_1_method_39_code
def yX8_isMoment : MethodName := ⟨RX8, "isMoment", "(I)Z"⟩
abbrev cX8_isPerson : ByteArray := prog_1_method_40_code
def yX8_isPerson : MethodName := ⟨RX8, "isPerson", "(I)Z"⟩
abbrev cX8_isStream : ByteArray := prog_1_method_41_code
def yX8_isStream : MethodName := ⟨RX8, "isStream", "(I)Z"⟩
abbrev cX8_isRowValue : ByteArray := prog_1_method_42_code
def yX8_isRowValue : MethodName := ⟨RX8, "isRowValue", "(I)Z"⟩
abbrev cX8_isModel : ByteArray := prog_1_method_43_code
def yX8_isModel : MethodName := ⟨RX8, "isModel", "(I)Z"⟩
abbrev cX8_hasBit : ByteArray := prog_1_method_44_code
def yX8_hasBit : MethodName := ⟨RX8, "hasBit", "(II)Z"⟩
abbrev cX8_traitAt : ByteArray := prog_1_method_45_code
def yX8_traitAt : MethodName := ⟨RX8, "traitAt", "(I)LTraitHouse$Trait;"⟩
abbrev cX8_needsOf : ByteArray := prog_1_method_46_code
def yX8_needsOf : MethodName := ⟨RX8, "needsOf", "(I)I"⟩
def RX9 : String := "TraitHouseModel"
def TX9 : u_T := fun k => match k with
  | 0 => ("TraitHouseModel", "status", "I", false)
  | 1 => ("TraitHouseModel", "now", "I", false)
  | 2 => ("TraitHouseModel", "told", "I", false)
  | 3 => ("TraitHouseModel", "rowPerson", "[I", true)
  | 4 => ("TraitHouseModel", "rowStream", "[I", true)
  | 5 => ("TraitHouseModel", "rowMoment", "[I", true)
  | 6 => ("TraitHouseModel", "rowKnown", "[I", true)
  | 7 => ("TraitHouseModel", "rowValue", "[I", true)
  | 8 => ("TraitHouseModel", "isGone", "[Z", true)
  | 9 => ("TraitHouseModel", "mergeTo", "[I", true)
  | 10 => ("TraitHouseModel", "mergeKnown", "[I", true)
  | 11 => ("TraitHouseModel", "merges", "I", false)
  | 12 => ("TraitHouseModel", "isErased", "[Z", true)
  | 13 => ("TraitHouseModel", "tape", "[B", true)
  | 14 => ("TraitHouseModel", "taped", "I", false)
  | 15 => ("TraitHouseModel", "size", "I", false)
  | 16 => ("TraitHouseModel", "from", "I", false)
  | 17 => ("TraitHouseModel", "to", "I", false)
  | 18 => ("TraitHouseModel", "fault", "I", false)
  | 19 => ("TraitHouseModel", "readFault", "I", false)
  | 20 => ("TraitHouseModel", "five", "[I", true)
  | 21 => ("TraitHouseModel", "traits", "I", false)
  | 22 => ("TraitHouseModel", "length", "I", false)
  | 23 => ("TraitHouseModel", "open", "I", false)
  | 24 => ("TraitHouseModel", "leaks", "Z", false)
  | 25 => ("TraitHouseModel", "size0", "[I", true)
  | 26 => ("TraitHouseModel", "step", "[I", true)
  | 27 => ("TraitHouseModel", "stepA", "[I", true)
  | 28 => ("TraitHouseModel", "stepB", "[I", true)
  | 29 => ("TraitHouseModel", "stepC", "[I", true)
  | 30 => ("TraitHouseModel", "values", "[J", true)
  | 31 => ("TraitHouseModel", "heap", "[J", true)
  | 32 => ("TraitHouseModel", "isOne", "[Z", true)
  | 33 => ("TraitHouseModel", "lawFrom", "[J", true)
  | 34 => ("TraitHouseModel", "lawTo", "[J", true)
  | 35 => ("TraitHouseModel", "hasLaw", "[Z", true)
  | 36 => ("TraitHouseModel", "limits", "[I", true)
  | 37 => ("TraitHouseModel", "held", "[I", true)
  | 38 => ("TraitHouseModel", "hasKept", "[Z", true)
  | 39 => ("TraitHouseModel", "kept", "[J", true)
  | 40 => ("TraitHouseModel", "keptAt", "[I", true)
  | 41 => ("TraitHouseModel", "places", "I", false)
  | 42 => ("TraitHouseModel", "placeTrait", "[I", true)
  | 43 => ("TraitHouseModel", "placePerson", "[I", true)
  | 44 => ("TraitHouseModel", "placeMoment", "[I", true)
  | 45 => ("TraitHouseModel", "placeValue", "[J", true)
  | 46 => ("TraitHouseModel", "isFilled", "[Z", true)
  | 47 => ("TraitHouseModel", "models", "I", false)
  | 48 => ("TraitHouseModel", "uses", "[I", true)
  | 49 => ("TraitHouseModel", "heapsOne", "[I", true)
  | _ => ("TraitHouseModel", "heapsOther", "[I", true)
def tyX9 : Nat → FieldType := fun k => match k with
  | 0 => .int
  | 1 => .int
  | 2 => .int
  | 3 => .array .int
  | 4 => .array .int
  | 5 => .array .int
  | 6 => .array .int
  | 7 => .array .int
  | 8 => .array .boolean
  | 9 => .array .int
  | 10 => .array .int
  | 11 => .int
  | 12 => .array .boolean
  | 13 => .array .byte
  | 14 => .int
  | 15 => .int
  | 16 => .int
  | 17 => .int
  | 18 => .int
  | 19 => .int
  | 20 => .array .int
  | 21 => .int
  | 22 => .int
  | 23 => .int
  | 24 => .boolean
  | 25 => .array .int
  | 26 => .array .int
  | 27 => .array .int
  | 28 => .array .int
  | 29 => .array .int
  | 30 => .array .long
  | 31 => .array .long
  | 32 => .array .boolean
  | 33 => .array .long
  | 34 => .array .long
  | 35 => .array .boolean
  | 36 => .array .int
  | 37 => .array .int
  | 38 => .array .boolean
  | 39 => .array .long
  | 40 => .array .int
  | 41 => .int
  | 42 => .array .int
  | 43 => .array .int
  | 44 => .array .int
  | 45 => .array .long
  | 46 => .array .boolean
  | 47 => .int
  | 48 => .array .int
  | 49 => .array .int
  | _ => .array .int
abbrev wsX90 : List Cond := u_ws RX9 TX9 51
theorem nmX9 : ∀ a, a < 51 → ∀ b, b < 51 → a ≠ b → (TX9 a).2.1 ≠ (TX9 b).2.1 := by decide +kernel
theorem tyX9_ok : ∀ k, k < 51 → parseFieldDescriptor (TX9 k).2.2.1 = some (tyX9 k) := by decide +kernel
abbrev cX9_init : ByteArray := prog_11_method_1_code
def yX9_init : MethodName := ⟨RX9, "<init>", "()V"⟩
abbrev cX9_in : ByteArray := prog_11_method_2_code
def yX9_in : MethodName := ⟨RX9, "in", "(JJJ)Z"⟩
abbrev cX9_ends : ByteArray := prog_11_method_3_code
def yX9_ends : MethodName := ⟨RX9, "ends", "(I)I"⟩
abbrev cX9_isMoment : ByteArray := prog_11_method_4_code
def yX9_isMoment : MethodName := ⟨RX9, "isMoment", "(I)Z"⟩
abbrev cX9_isPerson : ByteArray := prog_11_method_5_code
def yX9_isPerson : MethodName := ⟨RX9, "isPerson", "(I)Z"⟩
abbrev cX9_now : ByteArray := prog_11_method_6_code
def yX9_now : MethodName := ⟨RX9, "now", "(I)I"⟩
abbrev cX9_row : ByteArray := prog_11_method_7_code
def yX9_row : MethodName := ⟨RX9, "row", "(IIIII)I"⟩
abbrev cX9_last : ByteArray := prog_11_method_8_code
def yX9_last : MethodName := ⟨RX9, "last", "(II)I"⟩
abbrev cX9_merge : ByteArray := prog_11_method_9_code
def yX9_merge : MethodName := ⟨RX9, "merge", "(III)I"⟩
abbrev cX9_leads : ByteArray := prog_11_method_10_code
def yX9_leads : MethodName := ⟨RX9, "leads", "(II)I"⟩
abbrev cX9_erase : ByteArray := prog_11_method_11_code
def yX9_erase : MethodName := ⟨RX9, "erase", "(I)I"⟩
abbrev cX9_feed : ByteArray := prog_11_method_12_code
def yX9_feed : MethodName := ⟨RX9, "feed", "(IIIII)I"⟩
abbrev cX9_end : ByteArray := prog_11_method_13_code
def yX9_end : MethodName := ⟨RX9, "end", "(I)I"⟩
abbrev cX9_isIn : ByteArray := prog_11_method_14_code
def yX9_isIn : MethodName := ⟨RX9, "isIn", "(III)Z"⟩
abbrev cX9_next : ByteArray := prog_11_method_15_code
def yX9_next : MethodName := ⟨RX9, "next", "()V"⟩
abbrev cX9_isWord : ByteArray := prog_11_method_16_code
def yX9_isWord : MethodName := ⟨RX9, "isWord", "(J)Z"⟩
abbrev cX9_isSign : ByteArray := prog_11_method_17_code
def yX9_isSign : MethodName := ⟨RX9, "isSign", "(I)Z"⟩
abbrev cX9_faults : ByteArray := prog_11_method_18_code
def yX9_faults : MethodName := ⟨RX9, "faults", "()V"⟩
abbrev cX9_good : ByteArray := prog_11_method_19_code
def yX9_good : MethodName := ⟨RX9, "good", "()Z"⟩
abbrev cX9_number : ByteArray := prog_11_method_20_code
def yX9_number : MethodName := ⟨RX9, "number", "(I)I"⟩
abbrev cX9_puts : ByteArray := prog_11_method_21_code
def yX9_puts : MethodName := ⟨RX9, "puts", "(IIII)V"⟩
abbrev cX9_sum : ByteArray := prog_11_method_22_code
def yX9_sum : MethodName := ⟨RX9, "sum", "()V"⟩
abbrev cX9_term : ByteArray := prog_11_method_23_code
def yX9_term : MethodName := ⟨RX9, "term", "()V"⟩
abbrev cX9_part : ByteArray := prog_11_method_24_code
def yX9_part : MethodName := ⟨RX9, "part", "()V"⟩
abbrev cX9_atom : ByteArray := prog_11_method_25_code
def yX9_atom : MethodName := ⟨RX9, "atom", "()V"⟩
abbrev cX9_bracket : ByteArray := prog_11_method_26_code
def yX9_bracket : MethodName := ⟨RX9, "bracket", "()V"⟩
abbrev cX9_window : ByteArray := prog_11_method_27_code
def yX9_window : MethodName := ⟨RX9, "window", "(I)V"⟩
abbrev cX9_trait : ByteArray := prog_11_method_28_code
def yX9_trait : MethodName := ⟨RX9, "trait", "()I"⟩
abbrev cX9_fault : ByteArray := prog_11_method_29_code
def yX9_fault : MethodName := ⟨RX9, "fault", "()I"⟩
abbrev cX9_counts : ByteArray := prog_11_method_30_code
def yX9_counts : MethodName := ⟨RX9, "counts", "(IIII)Z"⟩
abbrev cX9_latest : ByteArray := prog_11_method_31_code
def yX9_latest : MethodName := ⟨RX9, "latest", "(IIIZ)J"⟩
abbrev cX9_windowed : ByteArray := prog_11_method_32_code
def yX9_windowed : MethodName := ⟨RX9, "windowed", "(IIIIII)J"⟩
abbrev cX9_size : ByteArray := prog_11_method_33_code
def yX9_size : MethodName := ⟨RX9, "size", "(J)J"⟩
abbrev cX9_two : ByteArray := prog_11_method_34_code
def yX9_two : MethodName := ⟨RX9, "two", "(IJJ)J"⟩
abbrev cX9_works : ByteArray := prog_11_method_35_code
def yX9_works : MethodName := ⟨RX9, "works", "(III)J"⟩
abbrev cX9_valueOf : ByteArray := prog_11_method_36_code
def yX9_valueOf : MethodName := ⟨RX9, "valueOf", "(IIII)J"⟩
abbrev cX9_isTrait : ByteArray := prog_11_method_37_code
def yX9_isTrait : MethodName := ⟨RX9, "isTrait", "(I)Z"⟩
abbrev cX9_value : ByteArray := prog_11_method_38_code
def yX9_value : MethodName := ⟨RX9, "value", "(IIII)J"⟩
abbrev cX9_law : ByteArray := prog_11_method_39_code
def yX9_law : MethodName := ⟨RX9, "law", "(IJJ)I"⟩
abbrev cX9_limit : ByteArray := prog_11_method_40_code
def yX9_limit : MethodName := ⟨RX9, "limit", "(II)I"⟩
abbrev cX9_lays : ByteArray := prog_11_method_41_code
def yX9_lays : MethodName := ⟨RX9, "lays", "(IIIJZ)V"⟩
abbrev cX9_freshen : ByteArray := prog_11_method_42_code
def yX9_freshen : MethodName := ⟨RX9, "freshen", "(I)I"⟩
abbrev cX9_isKept : ByteArray := prog_11_method_43_code
def yX9_isKept : MethodName := ⟨RX9, "isKept", "(II)Z"⟩
abbrev cX9_kept : ByteArray := prog_11_method_44_code
def yX9_kept : MethodName := ⟨RX9, "kept", "(II)J"⟩
abbrev cX9_age : ByteArray := prog_11_method_45_code
def yX9_age : MethodName := ⟨RX9, "age", "(III)I"⟩
abbrev cX9_held : ByteArray := prog_11_method_46_code
def yX9_held : MethodName := ⟨RX9, "held", "(I)I"⟩
abbrev cX9_living : ByteArray := prog_11_method_47_code
def yX9_living : MethodName := ⟨RX9, "living", "()I"⟩
abbrev cX9_fill : ByteArray := prog_11_method_48_code
def yX9_fill : MethodName := ⟨RX9, "fill", "(IIII)I"⟩
abbrev cX9_found : ByteArray := prog_11_method_49_code
def yX9_found : MethodName := ⟨RX9, "found", "(III)I"⟩
abbrev cX9_history : ByteArray := prog_11_method_50_code
def yX9_history : MethodName := ⟨RX9, "history", "(III)J"⟩
abbrev cX9_told : ByteArray := prog_11_method_51_code
def yX9_told : MethodName := ⟨RX9, "told", "(IIII)I"⟩
abbrev cX9_model : ByteArray := prog_11_method_52_code
def yX9_model : MethodName := ⟨RX9, "model", "(I)I"⟩
abbrev cX9_neededOf : ByteArray := prog_11_method_53_code
def yX9_neededOf : MethodName := ⟨RX9, "neededOf", "(I)I"⟩
abbrev cX9_needed : ByteArray := prog_11_method_54_code
def yX9_needed : MethodName := ⟨RX9, "needed", "(I)I"⟩
abbrev cX9_hung : ByteArray := prog_11_method_55_code
def yX9_hung : MethodName := ⟨RX9, "hung", "(I)I"⟩
abbrev cX9_misses : ByteArray := prog_11_method_56_code
def yX9_misses : MethodName := ⟨RX9, "misses", "(II)I"⟩
abbrev cX9_heaps : ByteArray := prog_11_method_57_code
def yX9_heaps : MethodName := ⟨RX9, "heaps", "(IIJJJ[I)I"⟩
abbrev cX9_shift : ByteArray := prog_11_method_58_code
def yX9_shift : MethodName := ⟨RX9, "shift", "(IIIJJJI)J"⟩
abbrev cX9_count : ByteArray := prog_11_method_59_code
def yX9_count : MethodName := ⟨RX9, "count", "(I)I"⟩
abbrev cX9_status : ByteArray := prog_11_method_60_code
def yX9_status : MethodName := ⟨RX9, "status", "()I"⟩
def RJ9 : String := "java/lang/Math"
def TJ9 : u_T := fun k => match k with
  | _ => ("", "", "", false)
def tyJ9 : Nat → FieldType := fun k => match k with
  | _ => .int
abbrev wsJ90 : List Cond := u_ws RJ9 TJ9 0
theorem nmJ9 : ∀ a, a < 0 → ∀ b, b < 0 → a ≠ b → (TJ9 a).2.1 ≠ (TJ9 b).2.1 := by decide +kernel
theorem tyJ9_ok : ∀ k, k < 0 → parseFieldDescriptor (TJ9 k).2.2.1 = some (tyJ9 k) := by decide +kernel
abbrev cJ9_abs_067f4 : ByteArray := prog_12_method_61_code
def yJ9_abs_067f4 : MethodName := ⟨RJ9, "abs", "(J)J"⟩
abbrev cJ9_max_7cf53 : ByteArray := prog_12_method_65_code
def yJ9_max_7cf53 : MethodName := ⟨RJ9, "max", "(II)I"⟩
abbrev cJ9_max_f86c9 : ByteArray := prog_12_method_66_code
def yJ9_max_f86c9 : MethodName := ⟨RJ9, "max", "(JJ)J"⟩
abbrev cJ9_min_7cf53 : ByteArray := prog_12_method_69_code
def yJ9_min_7cf53 : MethodName := ⟨RJ9, "min", "(II)I"⟩
abbrev cJ9_min_f86c9 : ByteArray := prog_12_method_70_code
def yJ9_min_f86c9 : MethodName := ⟨RJ9, "min", "(JJ)J"⟩
def RJ0 : String := "java/lang/String"
def TJ0 : u_T := fun k => match k with
  | _ => ("", "", "", false)
def tyJ0 : Nat → FieldType := fun k => match k with
  | _ => .int
abbrev wsJ00 : List Cond := u_ws RJ0 TJ0 0
theorem nmJ0 : ∀ a, a < 0 → ∀ b, b < 0 → a ≠ b → (TJ0 a).2.1 ≠ (TJ0 b).2.1 := by decide +kernel
theorem tyJ0_ok : ∀ k, k < 0 → parseFieldDescriptor (TJ0 k).2.2.1 = some (tyJ0 k) := by decide +kernel
abbrev cJ0_length_8abf5 : ByteArray := prog_13_method_54_code
def yJ0_length_8abf5 : MethodName := ⟨RJ0, "length", "()I"⟩
abbrev cJ0_charAt_5068e : ByteArray := prog_13_method_56_code
def yJ0_charAt_5068e : MethodName := ⟨RJ0, "charAt", "(I)C"⟩
abbrev cJ0_coder_7d493 : ByteArray := prog_13_method_152_code
def yJ0_coder_7d493 : MethodName := ⟨RJ0, "coder", "()B"⟩
abbrev cJ0_isLatin1_aae02 : ByteArray := prog_13_method_154_code
def yJ0_isLatin1_aae02 : MethodName := ⟨RJ0, "isLatin1", "()Z"⟩
abbrev cJ0_checkIndex_df160 : ByteArray := prog_13_method_155_code
def yJ0_checkIndex_df160 : MethodName := ⟨RJ0, "checkIndex", "(II)V"⟩
def RJ1 : String := "java/lang/StringLatin1"
def TJ1 : u_T := fun k => match k with
  | _ => ("", "", "", false)
def tyJ1 : Nat → FieldType := fun k => match k with
  | _ => .int
abbrev wsJ10 : List Cond := u_ws RJ1 TJ1 0
theorem nmJ1 : ∀ a, a < 0 → ∀ b, b < 0 → a ≠ b → (TJ1 a).2.1 ≠ (TJ1 b).2.1 := by decide +kernel
theorem tyJ1_ok : ∀ k, k < 0 → parseFieldDescriptor (TJ1 k).2.2.1 = some (tyJ1 k) := by decide +kernel
abbrev cJ1_charAt_3b067 : ByteArray := prog_14_method_2_code
def yJ1_charAt_3b067 : MethodName := ⟨RJ1, "charAt", "([BI)C"⟩
def RJ2 : String := "java/lang/StringUTF16"
def TJ2 : u_T := fun k => match k with
  | _ => ("", "", "", false)
def tyJ2 : Nat → FieldType := fun k => match k with
  | _ => .int
abbrev wsJ20 : List Cond := u_ws RJ2 TJ2 0
theorem nmJ2 : ∀ a, a < 0 → ∀ b, b < 0 → a ≠ b → (TJ2 a).2.1 ≠ (TJ2 b).2.1 := by decide +kernel
theorem tyJ2_ok : ∀ k, k < 0 → parseFieldDescriptor (TJ2 k).2.2.1 = some (tyJ2 k) := by decide +kernel
abbrev cJ2_getChar_3b067 : ByteArray := prog_15_method_5_code
def yJ2_getChar_3b067 : MethodName := ⟨RJ2, "getChar", "([BI)C"⟩
abbrev cJ2_length_9d52b : ByteArray := prog_15_method_6_code
def yJ2_length_9d52b : MethodName := ⟨RJ2, "length", "([B)I"⟩
abbrev cJ2_charAt_3b067 : ByteArray := prog_15_method_83_code
def yJ2_charAt_3b067 : MethodName := ⟨RJ2, "charAt", "([BI)C"⟩
abbrev cJ2_checkIndex_2214a : ByteArray := prog_15_method_91_code
def yJ2_checkIndex_2214a : MethodName := ⟨RJ2, "checkIndex", "(I[B)V"⟩
def RJ7 : String := "java/util/Arrays"
def TJ7 : u_T := fun k => match k with
  | _ => ("", "", "", false)
def tyJ7 : Nat → FieldType := fun k => match k with
  | _ => .int
abbrev wsJ70 : List Cond := u_ws RJ7 TJ7 0
theorem nmJ7 : ∀ a, a < 0 → ∀ b, b < 0 → a ≠ b → (TJ7 a).2.1 ≠ (TJ7 b).2.1 := by decide +kernel
theorem tyJ7_ok : ∀ k, k < 0 → parseFieldDescriptor (TJ7 k).2.2.1 = some (tyJ7 k) := by decide +kernel
abbrev cJ7_fill_d0a16 : ByteArray := prog_16_method_101_code
def yJ7_fill_d0a16 : MethodName := ⟨RJ7, "fill", "([JJ)V"⟩
abbrev cJ7_fill_53178 : ByteArray := prog_16_method_103_code
def yJ7_fill_53178 : MethodName := ⟨RJ7, "fill", "([II)V"⟩
def RJ3 : String := "jdk/internal/util/Preconditions"
def TJ3 : u_T := fun k => match k with
  | _ => ("", "", "", false)
def tyJ3 : Nat → FieldType := fun k => match k with
  | _ => .int
abbrev wsJ30 : List Cond := u_ws RJ3 TJ3 0
theorem nmJ3 : ∀ a, a < 0 → ∀ b, b < 0 → a ≠ b → (TJ3 a).2.1 ≠ (TJ3 b).2.1 := by decide +kernel
theorem tyJ3_ok : ∀ k, k < 0 → parseFieldDescriptor (TJ3 k).2.2.1 = some (tyJ3 k) := by decide +kernel
abbrev cJ3_checkIndex_8e157 : ByteArray := prog_17_method_11_code
def yJ3_checkIndex_8e157 : MethodName := ⟨RJ3, "checkIndex", "(IILjava/util/function/BiFunction;)I"⟩
def RL : String := "TraitHouseLaw"
abbrev cL_law : ByteArray := code
def yL_law : MethodName := ⟨RL, "law", "([I)Z"⟩
def wsJ7_fill_53178 : List Cond := .code yJ7_fill_53178 cJ7_fill_53178 4 none :: ([])
def wsX0_init : List Cond := .code yX0_init cX0_init 1 none :: ([.methodLink RX0 3 objectInit, .instanceMethod objectInit, .code objectInit ⟨#[0xb1]⟩ 1 none, .arrayClass .int, .fieldLink RX0 9 "TraitHouse$Merges" "targets" "[I", .fieldLink RX0 15 "TraitHouse$Merges" "knowns" "[I", .methodLink RX0 18 yJ7_fill_53178, .static yJ7_fill_53178, .initialized RJ7, .code yJ7_fill_53178 cJ7_fill_53178 4 none] ++ wsX00)
def wsX0_isTold : List Cond := .code yX0_isTold cX0_isTold 2 (some .boolean) :: ([.fieldLink RX0 9 "TraitHouse$Merges" "targets" "[I"] ++ wsX00)
def wsX0_add : List Cond := .code yX0_add cX0_add 4 (some .int) :: ([.fieldLink RX0 9 "TraitHouse$Merges" "targets" "[I", .fieldLink RX0 15 "TraitHouse$Merges" "knowns" "[I", .fieldLink RX0 24 "TraitHouse$Merges" "size" "I"] ++ wsX00)
def wsX0_lastOf : List Cond := .code yX0_lastOf cX0_lastOf 5 (some .int) :: ([.fieldLink RX0 15 "TraitHouse$Merges" "knowns" "[I", .fieldLink RX0 9 "TraitHouse$Merges" "targets" "[I", .methodLink RX0 28 yX0_isTold, .instanceMethod yX0_isTold, .selects RX0 yX0_isTold yX0_isTold, .initialized RX0, .code yX0_isTold cX0_isTold 2 (some .boolean)] ++ wsX00)
def wsX1_init : List Cond := .code yX1_init cX1_init 1 none :: ([.methodLink RX1 3 objectInit, .instanceMethod objectInit, .code objectInit ⟨#[0xb1]⟩ 1 none, .arrayClass .int, .fieldLink RX1 9 "TraitHouse$Places" "owners" "[I", .fieldLink RX1 15 "TraitHouse$Places" "moments" "[I", .arrayClass .boolean, .fieldLink RX1 18 "TraitHouse$Places" "filled" "[Z", .arrayClass .long, .fieldLink RX1 22 "TraitHouse$Places" "values" "[J"] ++ wsX10)
def wsX1_free : List Cond := .code yX1_free cX1_free 1 (some .int) :: ([.fieldLink RX1 26 "TraitHouse$Places" "size" "I"] ++ wsX10)
def wsX1_owner : List Cond := .code yX1_owner cX1_owner 2 (some .int) :: ([])
def wsX1_put : List Cond := .code yX1_put cX1_put 7 none :: ([.fieldLink RX1 26 "TraitHouse$Places" "size" "I", .fieldLink RX1 9 "TraitHouse$Places" "owners" "[I", .fieldLink RX1 15 "TraitHouse$Places" "moments" "[I", .fieldLink RX1 18 "TraitHouse$Places" "filled" "[Z", .fieldLink RX1 22 "TraitHouse$Places" "values" "[J", .methodLink RX1 30 yX1_owner, .static yX1_owner, .initialized RX1, .code yX1_owner cX1_owner 2 (some .int)] ++ wsX10)
def wsX1_find : List Cond := .code yX1_find cX1_find 7 (some .int) :: ([.fieldLink RX1 26 "TraitHouse$Places" "size" "I", .fieldLink RX1 9 "TraitHouse$Places" "owners" "[I", .fieldLink RX1 15 "TraitHouse$Places" "moments" "[I", .methodLink RX1 30 yX1_owner, .static yX1_owner, .initialized RX1, .code yX1_owner cX1_owner 2 (some .int)] ++ wsX10)
def wsX1_forget : List Cond := .code yX1_forget cX1_forget 3 none :: ([.fieldLink RX1 26 "TraitHouse$Places" "size" "I", .fieldLink RX1 9 "TraitHouse$Places" "owners" "[I", .fieldLink RX1 22 "TraitHouse$Places" "values" "[J", .constantLong RX1 34 (-9000000000000000000)] ++ wsX10)
def wsX2_init : List Cond := .code yX2_init cX2_init 2 none :: ([.methodLink RX2 3 objectInit, .instanceMethod objectInit, .code objectInit ⟨#[0xb1]⟩ 1 none, .classLink RX2 9 RX4, .fieldLink RX2 11 "TraitHouse$Reader" "steps" "[LTraitHouse$Step;", .fieldLink RX2 17 "TraitHouse$Reader" "tape" "LTraitHouse$Tape;"] ++ wsX20)
def wsX2_isLetterAt : List Cond := .code yX2_isLetterAt cX2_isLetterAt 2 (some .boolean) :: ([.fieldLink RX2 17 "TraitHouse$Reader" "tape" "LTraitHouse$Tape;"] ++ wsX20 ++ wsX50)
def wsX2_isDigitAt : List Cond := .code yX2_isDigitAt cX2_isDigitAt 2 (some .boolean) :: ([.fieldLink RX2 17 "TraitHouse$Reader" "tape" "LTraitHouse$Tape;"] ++ wsX20 ++ wsX50)
def wsX2_advance : List Cond := .code yX2_advance cX2_advance 3 none :: ([.fieldLink RX2 25 "TraitHouse$Reader" "behind" "I", .fieldLink RX2 48 "TraitHouse$Reader" "place" "I", .fieldLink RX2 17 "TraitHouse$Reader" "tape" "LTraitHouse$Tape;", .methodLink RX2 150 Lib.Math.min.name, .static Lib.Math.min.name, .initialized "java/lang/Math", .code Lib.Math.min.name Lib.Math.min.code 2 (some .int), .methodLink RX2 156 yX2_isLetterAt, .instanceMethod yX2_isLetterAt, .selects RX2 yX2_isLetterAt yX2_isLetterAt, .initialized RX2, .code yX2_isLetterAt cX2_isLetterAt 2 (some .boolean), .methodLink RX2 90 yX2_isDigitAt, .instanceMethod yX2_isDigitAt, .selects RX2 yX2_isDigitAt yX2_isDigitAt, .code yX2_isDigitAt cX2_isDigitAt 2 (some .boolean)] ++ wsX20 ++ wsX50)
def wsX2_stop : List Cond := .code yX2_stop cX2_stop 1 (some .boolean) :: ([.fieldLink RX2 48 "TraitHouse$Reader" "place" "I", .fieldLink RX2 31 "TraitHouse$Reader" "fault" "I"] ++ wsX20)
def wsX2_takeNumber_r1 : List Cond := [Cond.fieldLink RX2 48 "TraitHouse$Reader" "place" "I", Cond.constant RX2 134 (1000001), Cond.fieldLink RX2 25 "TraitHouse$Reader" "behind" "I", Cond.fieldLink RX2 17 "TraitHouse$Reader" "tape" "LTraitHouse$Tape;", Cond.methodLink RX2 90 yX2_isDigitAt, Cond.instanceMethod yX2_isDigitAt, Cond.selects RX2 yX2_isDigitAt yX2_isDigitAt, Cond.initialized RX2, Cond.code yX2_isDigitAt cX2_isDigitAt 2 (some .boolean), Cond.methodLink RX2 54 yX2_stop, Cond.instanceMethod yX2_stop, Cond.selects RX2 yX2_stop yX2_stop, Cond.code yX2_stop cX2_stop 1 (some .boolean), Cond.fieldLink RX2 31 "TraitHouse$Reader" "fault" "I", Cond.methodLink RX2 41 yX2_advance, Cond.instanceMethod yX2_advance, Cond.selects RX2 yX2_advance yX2_advance, Cond.code yX2_advance cX2_advance 3 none, Cond.methodLink RX2 150 Lib.Math.min.name, Cond.static Lib.Math.min.name, Cond.initialized "java/lang/Math", Cond.code Lib.Math.min.name Lib.Math.min.code 2 (some .int), Cond.methodLink RX2 156 yX2_isLetterAt, Cond.instanceMethod yX2_isLetterAt]
def wsX2_takeNumber_r2 : List Cond := [Cond.selects RX2 yX2_isLetterAt yX2_isLetterAt, Cond.code yX2_isLetterAt cX2_isLetterAt 2 (some .boolean)]
def wsX2_takeNumber : List Cond := .code yX2_takeNumber cX2_takeNumber 4 (some .int) :: ((wsX2_takeNumber_r1 ++ wsX2_takeNumber_r2) ++ wsX20 ++ wsX50)
def wsX4_init : List Cond := .code yX4_init cX4_init 5 none :: ([.methodLink RX4 1 objectInit, .instanceMethod objectInit, .code objectInit ⟨#[0xb1]⟩ 1 none, .fieldLink RX4 7 "TraitHouse$Step" "kind" "I", .fieldLink RX4 13 "TraitHouse$Step" "number" "I", .fieldLink RX4 16 "TraitHouse$Step" "from" "I", .fieldLink RX4 19 "TraitHouse$Step" "to" "I"] ++ wsX40)
def wsX2_emit : List Cond := .code yX2_emit cX2_emit 5 none :: ([.fieldLink RX2 21 "TraitHouse$Reader" "size" "I", .fieldLink RX2 11 "TraitHouse$Reader" "steps" "[LTraitHouse$Step;", .classLink RX2 9 RX4, .instantiable RX4 4, .initialized RX4, .instanceMethod yX4_init, .code yX4_init cX4_init 5 none, .methodLink RX4 1 objectInit, .instanceMethod objectInit, .code objectInit ⟨#[0xb1]⟩ 1 none, .fieldLink RX4 7 "TraitHouse$Step" "kind" "I", .fieldLink RX4 13 "TraitHouse$Step" "number" "I", .fieldLink RX4 16 "TraitHouse$Step" "from" "I", .fieldLink RX4 19 "TraitHouse$Step" "to" "I"] ++ wsX20 ++ wsX40)
def wsX2_readNumbered_r1 : List Cond := [Cond.fieldLink RX2 34 "TraitHouse$Reader" "reads" "I", Cond.methodLink RX2 110 yX2_takeNumber, Cond.instanceMethod yX2_takeNumber, Cond.selects RX2 yX2_takeNumber yX2_takeNumber, Cond.initialized RX2, Cond.code yX2_takeNumber cX2_takeNumber 4 (some .int), Cond.fieldLink RX2 48 "TraitHouse$Reader" "place" "I", Cond.constant RX2 134 (1000001), Cond.fieldLink RX2 25 "TraitHouse$Reader" "behind" "I", Cond.fieldLink RX2 17 "TraitHouse$Reader" "tape" "LTraitHouse$Tape;", Cond.methodLink RX2 90 yX2_isDigitAt, Cond.instanceMethod yX2_isDigitAt, Cond.selects RX2 yX2_isDigitAt yX2_isDigitAt, Cond.code yX2_isDigitAt cX2_isDigitAt 2 (some .boolean), Cond.methodLink RX2 54 yX2_stop, Cond.instanceMethod yX2_stop, Cond.selects RX2 yX2_stop yX2_stop, Cond.code yX2_stop cX2_stop 1 (some .boolean), Cond.fieldLink RX2 31 "TraitHouse$Reader" "fault" "I", Cond.methodLink RX2 41 yX2_advance, Cond.instanceMethod yX2_advance, Cond.selects RX2 yX2_advance yX2_advance, Cond.code yX2_advance cX2_advance 3 none, Cond.methodLink RX2 150 Lib.Math.min.name]
def wsX2_readNumbered_r2 : List Cond := [Cond.static Lib.Math.min.name, Cond.initialized "java/lang/Math", Cond.code Lib.Math.min.name Lib.Math.min.code 2 (some .int), Cond.methodLink RX2 156 yX2_isLetterAt, Cond.instanceMethod yX2_isLetterAt, Cond.selects RX2 yX2_isLetterAt yX2_isLetterAt, Cond.code yX2_isLetterAt cX2_isLetterAt 2 (some .boolean), Cond.methodLink RX2 69 yX2_emit, Cond.instanceMethod yX2_emit, Cond.selects RX2 yX2_emit yX2_emit, Cond.code yX2_emit cX2_emit 5 none, Cond.fieldLink RX2 21 "TraitHouse$Reader" "size" "I", Cond.fieldLink RX2 11 "TraitHouse$Reader" "steps" "[LTraitHouse$Step;", Cond.classLink RX2 9 RX4, Cond.instantiable RX4 4, Cond.initialized RX4, Cond.instanceMethod yX4_init, Cond.code yX4_init cX4_init 5 none, Cond.methodLink RX4 1 objectInit, Cond.instanceMethod objectInit, Cond.code objectInit ⟨#[0xb1]⟩ 1 none, Cond.fieldLink RX4 7 "TraitHouse$Step" "kind" "I", Cond.fieldLink RX4 13 "TraitHouse$Step" "number" "I", Cond.fieldLink RX4 16 "TraitHouse$Step" "from" "I"]
def wsX2_readNumbered_r3 : List Cond := [Cond.fieldLink RX4 19 "TraitHouse$Step" "to" "I"]
def wsX2_readNumbered : List Cond := .code yX2_readNumbered cX2_readNumbered 4 (some .boolean) :: ((wsX2_readNumbered_r1 ++ (wsX2_readNumbered_r2 ++ wsX2_readNumbered_r3)) ++ wsX20 ++ wsX50 ++ wsX40)
def wsJ0_coder_7d493 : List Cond := .code yJ0_coder_7d493 cJ0_coder_7d493 1 (some .byte) :: ([.fieldLink RJ0 38 "java/lang/String" "COMPACT_STRINGS" "Z", .fieldLink RJ0 15 "java/lang/String" "coder" "B"])
def wsJ0_length_8abf5 : List Cond := .code yJ0_length_8abf5 cJ0_length_8abf5 1 (some .int) :: ([.fieldLink RJ0 9 "java/lang/String" "value" "[B", .methodLink RJ0 335 yJ0_coder_7d493, .instanceMethod yJ0_coder_7d493, .selects RJ0 yJ0_coder_7d493 yJ0_coder_7d493, .initialized RJ0, .code yJ0_coder_7d493 cJ0_coder_7d493 1 (some .byte), .fieldLink RJ0 38 "java/lang/String" "COMPACT_STRINGS" "Z", .fieldLink RJ0 15 "java/lang/String" "coder" "B"])
def wsJ0_isLatin1_aae02 : List Cond := .code yJ0_isLatin1_aae02 cJ0_isLatin1_aae02 1 (some .boolean) :: ([.fieldLink RJ0 38 "java/lang/String" "COMPACT_STRINGS" "Z", .fieldLink RJ0 15 "java/lang/String" "coder" "B"])
def wsJ3_checkIndex_8e157 : List Cond := .code yJ3_checkIndex_8e157 cJ3_checkIndex_8e157 3 (some .int) :: ([])
def wsJ0_checkIndex_df160 : List Cond := .code yJ0_checkIndex_df160 cJ0_checkIndex_df160 2 none :: ([.fieldLink RJ0 1053 "jdk/internal/util/Preconditions" "SIOOBE_FORMATTER" "Ljava/util/function/BiFunction;", .methodLink RJ0 1059 yJ3_checkIndex_8e157, .static yJ3_checkIndex_8e157, .initialized RJ3, .code yJ3_checkIndex_8e157 cJ3_checkIndex_8e157 3 (some .int)])
def wsJ1_charAt_3b067 : List Cond := .code yJ1_charAt_3b067 cJ1_charAt_3b067 2 (some .char) :: ([.methodLink RJ1 9 yJ0_checkIndex_df160, .static yJ0_checkIndex_df160, .initialized RJ0, .code yJ0_checkIndex_df160 cJ0_checkIndex_df160 2 none, .fieldLink RJ0 1053 "jdk/internal/util/Preconditions" "SIOOBE_FORMATTER" "Ljava/util/function/BiFunction;", .methodLink RJ0 1059 yJ3_checkIndex_8e157, .static yJ3_checkIndex_8e157, .initialized RJ3, .code yJ3_checkIndex_8e157 cJ3_checkIndex_8e157 3 (some .int)])
def wsJ2_length_9d52b : List Cond := .code yJ2_length_9d52b cJ2_length_9d52b 1 (some .int) :: ([])
def wsJ2_checkIndex_2214a : List Cond := .code yJ2_checkIndex_2214a cJ2_checkIndex_2214a 2 none :: ([.methodLink RJ2 48 yJ2_length_9d52b, .static yJ2_length_9d52b, .initialized RJ2, .code yJ2_length_9d52b cJ2_length_9d52b 1 (some .int), .methodLink RJ2 414 yJ0_checkIndex_df160, .static yJ0_checkIndex_df160, .initialized RJ0, .code yJ0_checkIndex_df160 cJ0_checkIndex_df160 2 none, .fieldLink RJ0 1053 "jdk/internal/util/Preconditions" "SIOOBE_FORMATTER" "Ljava/util/function/BiFunction;", .methodLink RJ0 1059 yJ3_checkIndex_8e157, .static yJ3_checkIndex_8e157, .initialized RJ3, .code yJ3_checkIndex_8e157 cJ3_checkIndex_8e157 3 (some .int)])
def wsJ2_getChar_3b067 : List Cond := .code yJ2_getChar_3b067 cJ2_getChar_3b067 2 (some .char) :: ([.fieldLink RJ2 44 "java/lang/StringUTF16" "$assertionsDisabled" "Z", .fieldLink RJ2 59 "java/lang/StringUTF16" "HI_BYTE_SHIFT" "I", .fieldLink RJ2 63 "java/lang/StringUTF16" "LO_BYTE_SHIFT" "I", .methodLink RJ2 48 yJ2_length_9d52b, .static yJ2_length_9d52b, .initialized RJ2, .code yJ2_length_9d52b cJ2_length_9d52b 1 (some .int)])
def wsJ2_charAt_3b067 : List Cond := .code yJ2_charAt_3b067 cJ2_charAt_3b067 2 (some .char) :: ([.methodLink RJ2 67 yJ2_checkIndex_2214a, .static yJ2_checkIndex_2214a, .initialized RJ2, .code yJ2_checkIndex_2214a cJ2_checkIndex_2214a 2 none, .methodLink RJ2 48 yJ2_length_9d52b, .static yJ2_length_9d52b, .code yJ2_length_9d52b cJ2_length_9d52b 1 (some .int), .methodLink RJ2 414 yJ0_checkIndex_df160, .static yJ0_checkIndex_df160, .initialized RJ0, .code yJ0_checkIndex_df160 cJ0_checkIndex_df160 2 none, .fieldLink RJ0 1053 "jdk/internal/util/Preconditions" "SIOOBE_FORMATTER" "Ljava/util/function/BiFunction;", .methodLink RJ0 1059 yJ3_checkIndex_8e157, .static yJ3_checkIndex_8e157, .initialized RJ3, .code yJ3_checkIndex_8e157 cJ3_checkIndex_8e157 3 (some .int), .methodLink RJ2 71 yJ2_getChar_3b067, .static yJ2_getChar_3b067, .code yJ2_getChar_3b067 cJ2_getChar_3b067 2 (some .char), .fieldLink RJ2 44 "java/lang/StringUTF16" "$assertionsDisabled" "Z", .fieldLink RJ2 59 "java/lang/StringUTF16" "HI_BYTE_SHIFT" "I", .fieldLink RJ2 63 "java/lang/StringUTF16" "LO_BYTE_SHIFT" "I"])
def wsJ0_charAt_5068e_r1 : List Cond := [Cond.fieldLink RJ0 9 "java/lang/String" "value" "[B", Cond.methodLink RJ0 492 yJ0_isLatin1_aae02, Cond.instanceMethod yJ0_isLatin1_aae02, Cond.selects RJ0 yJ0_isLatin1_aae02 yJ0_isLatin1_aae02, Cond.initialized RJ0, Cond.code yJ0_isLatin1_aae02 cJ0_isLatin1_aae02 1 (some .boolean), Cond.fieldLink RJ0 38 "java/lang/String" "COMPACT_STRINGS" "Z", Cond.fieldLink RJ0 15 "java/lang/String" "coder" "B", Cond.methodLink RJ0 495 yJ1_charAt_3b067, Cond.static yJ1_charAt_3b067, Cond.initialized RJ1, Cond.code yJ1_charAt_3b067 cJ1_charAt_3b067 2 (some .char), Cond.methodLink RJ1 9 yJ0_checkIndex_df160, Cond.static yJ0_checkIndex_df160, Cond.code yJ0_checkIndex_df160 cJ0_checkIndex_df160 2 none, Cond.fieldLink RJ0 1053 "jdk/internal/util/Preconditions" "SIOOBE_FORMATTER" "Ljava/util/function/BiFunction;", Cond.methodLink RJ0 1059 yJ3_checkIndex_8e157, Cond.static yJ3_checkIndex_8e157, Cond.initialized RJ3, Cond.code yJ3_checkIndex_8e157 cJ3_checkIndex_8e157 3 (some .int), Cond.methodLink RJ0 498 yJ2_charAt_3b067, Cond.static yJ2_charAt_3b067, Cond.initialized RJ2, Cond.code yJ2_charAt_3b067 cJ2_charAt_3b067 2 (some .char)]
def wsJ0_charAt_5068e_r2 : List Cond := [Cond.methodLink RJ2 67 yJ2_checkIndex_2214a, Cond.static yJ2_checkIndex_2214a, Cond.code yJ2_checkIndex_2214a cJ2_checkIndex_2214a 2 none, Cond.methodLink RJ2 48 yJ2_length_9d52b, Cond.static yJ2_length_9d52b, Cond.code yJ2_length_9d52b cJ2_length_9d52b 1 (some .int), Cond.methodLink RJ2 414 yJ0_checkIndex_df160, Cond.methodLink RJ2 71 yJ2_getChar_3b067, Cond.static yJ2_getChar_3b067, Cond.code yJ2_getChar_3b067 cJ2_getChar_3b067 2 (some .char), Cond.fieldLink RJ2 44 "java/lang/StringUTF16" "$assertionsDisabled" "Z", Cond.fieldLink RJ2 59 "java/lang/StringUTF16" "HI_BYTE_SHIFT" "I", Cond.fieldLink RJ2 63 "java/lang/StringUTF16" "LO_BYTE_SHIFT" "I"]
def wsJ0_charAt_5068e : List Cond := .code yJ0_charAt_5068e cJ0_charAt_5068e 2 (some .char) :: ((wsJ0_charAt_5068e_r1 ++ wsJ0_charAt_5068e_r2))
def wsX2_isAt_r1 : List Cond := [Cond.fieldLink RX2 25 "TraitHouse$Reader" "behind" "I", Cond.fieldLink RX2 48 "TraitHouse$Reader" "place" "I", Cond.fieldLink RX2 17 "TraitHouse$Reader" "tape" "LTraitHouse$Tape;", Cond.methodLink RX2 141 yJ0_length_8abf5, Cond.instanceMethod yJ0_length_8abf5, Cond.selects RJ0 yJ0_length_8abf5 yJ0_length_8abf5, Cond.initialized RJ0, Cond.code yJ0_length_8abf5 cJ0_length_8abf5 1 (some .int), Cond.fieldLink RJ0 9 "java/lang/String" "value" "[B", Cond.methodLink RJ0 335 yJ0_coder_7d493, Cond.instanceMethod yJ0_coder_7d493, Cond.selects RJ0 yJ0_coder_7d493 yJ0_coder_7d493, Cond.code yJ0_coder_7d493 cJ0_coder_7d493 1 (some .byte), Cond.fieldLink RJ0 38 "java/lang/String" "COMPACT_STRINGS" "Z", Cond.fieldLink RJ0 15 "java/lang/String" "coder" "B", Cond.methodLink RX2 146 yJ0_charAt_5068e, Cond.instanceMethod yJ0_charAt_5068e, Cond.selects RJ0 yJ0_charAt_5068e yJ0_charAt_5068e, Cond.code yJ0_charAt_5068e cJ0_charAt_5068e 2 (some .char), Cond.methodLink RJ0 492 yJ0_isLatin1_aae02, Cond.instanceMethod yJ0_isLatin1_aae02, Cond.selects RJ0 yJ0_isLatin1_aae02 yJ0_isLatin1_aae02, Cond.code yJ0_isLatin1_aae02 cJ0_isLatin1_aae02 1 (some .boolean), Cond.methodLink RJ0 495 yJ1_charAt_3b067]
def wsX2_isAt_r2 : List Cond := [Cond.static yJ1_charAt_3b067, Cond.initialized RJ1, Cond.code yJ1_charAt_3b067 cJ1_charAt_3b067 2 (some .char), Cond.methodLink RJ1 9 yJ0_checkIndex_df160, Cond.static yJ0_checkIndex_df160, Cond.code yJ0_checkIndex_df160 cJ0_checkIndex_df160 2 none, Cond.fieldLink RJ0 1053 "jdk/internal/util/Preconditions" "SIOOBE_FORMATTER" "Ljava/util/function/BiFunction;", Cond.methodLink RJ0 1059 yJ3_checkIndex_8e157, Cond.static yJ3_checkIndex_8e157, Cond.initialized RJ3, Cond.code yJ3_checkIndex_8e157 cJ3_checkIndex_8e157 3 (some .int), Cond.methodLink RJ0 498 yJ2_charAt_3b067, Cond.static yJ2_charAt_3b067, Cond.initialized RJ2, Cond.code yJ2_charAt_3b067 cJ2_charAt_3b067 2 (some .char), Cond.methodLink RJ2 67 yJ2_checkIndex_2214a, Cond.static yJ2_checkIndex_2214a, Cond.code yJ2_checkIndex_2214a cJ2_checkIndex_2214a 2 none, Cond.methodLink RJ2 48 yJ2_length_9d52b, Cond.static yJ2_length_9d52b, Cond.code yJ2_length_9d52b cJ2_length_9d52b 1 (some .int), Cond.methodLink RJ2 414 yJ0_checkIndex_df160, Cond.methodLink RJ2 71 yJ2_getChar_3b067, Cond.static yJ2_getChar_3b067]
def wsX2_isAt_r3 : List Cond := [Cond.code yJ2_getChar_3b067 cJ2_getChar_3b067 2 (some .char), Cond.fieldLink RJ2 44 "java/lang/StringUTF16" "$assertionsDisabled" "Z", Cond.fieldLink RJ2 59 "java/lang/StringUTF16" "HI_BYTE_SHIFT" "I", Cond.fieldLink RJ2 63 "java/lang/StringUTF16" "LO_BYTE_SHIFT" "I"]
def wsX2_isAt : List Cond := .code yX2_isAt cX2_isAt 4 (some .boolean) :: ((wsX2_isAt_r1 ++ (wsX2_isAt_r2 ++ wsX2_isAt_r3)) ++ wsX20 ++ wsX50)
def wsX2_kindAt_r1 : List Cond := [Cond.methodLink RX2 63 yX2_isAt, Cond.instanceMethod yX2_isAt, Cond.selects RX2 yX2_isAt yX2_isAt, Cond.initialized RX2, Cond.code yX2_isAt cX2_isAt 4 (some .boolean), Cond.fieldLink RX2 25 "TraitHouse$Reader" "behind" "I", Cond.fieldLink RX2 48 "TraitHouse$Reader" "place" "I", Cond.fieldLink RX2 17 "TraitHouse$Reader" "tape" "LTraitHouse$Tape;", Cond.methodLink RX2 141 yJ0_length_8abf5, Cond.instanceMethod yJ0_length_8abf5, Cond.selects RJ0 yJ0_length_8abf5 yJ0_length_8abf5, Cond.initialized RJ0, Cond.code yJ0_length_8abf5 cJ0_length_8abf5 1 (some .int), Cond.fieldLink RJ0 9 "java/lang/String" "value" "[B", Cond.methodLink RJ0 335 yJ0_coder_7d493, Cond.instanceMethod yJ0_coder_7d493, Cond.selects RJ0 yJ0_coder_7d493 yJ0_coder_7d493, Cond.code yJ0_coder_7d493 cJ0_coder_7d493 1 (some .byte), Cond.fieldLink RJ0 38 "java/lang/String" "COMPACT_STRINGS" "Z", Cond.fieldLink RJ0 15 "java/lang/String" "coder" "B", Cond.methodLink RX2 146 yJ0_charAt_5068e, Cond.instanceMethod yJ0_charAt_5068e, Cond.selects RJ0 yJ0_charAt_5068e yJ0_charAt_5068e, Cond.code yJ0_charAt_5068e cJ0_charAt_5068e 2 (some .char)]
def wsX2_kindAt_r2 : List Cond := [Cond.methodLink RJ0 492 yJ0_isLatin1_aae02, Cond.instanceMethod yJ0_isLatin1_aae02, Cond.selects RJ0 yJ0_isLatin1_aae02 yJ0_isLatin1_aae02, Cond.code yJ0_isLatin1_aae02 cJ0_isLatin1_aae02 1 (some .boolean), Cond.methodLink RJ0 495 yJ1_charAt_3b067, Cond.static yJ1_charAt_3b067, Cond.initialized RJ1, Cond.code yJ1_charAt_3b067 cJ1_charAt_3b067 2 (some .char), Cond.methodLink RJ1 9 yJ0_checkIndex_df160, Cond.static yJ0_checkIndex_df160, Cond.code yJ0_checkIndex_df160 cJ0_checkIndex_df160 2 none, Cond.fieldLink RJ0 1053 "jdk/internal/util/Preconditions" "SIOOBE_FORMATTER" "Ljava/util/function/BiFunction;", Cond.methodLink RJ0 1059 yJ3_checkIndex_8e157, Cond.static yJ3_checkIndex_8e157, Cond.initialized RJ3, Cond.code yJ3_checkIndex_8e157 cJ3_checkIndex_8e157 3 (some .int), Cond.methodLink RJ0 498 yJ2_charAt_3b067, Cond.static yJ2_charAt_3b067, Cond.initialized RJ2, Cond.code yJ2_charAt_3b067 cJ2_charAt_3b067 2 (some .char), Cond.methodLink RJ2 67 yJ2_checkIndex_2214a, Cond.static yJ2_checkIndex_2214a, Cond.code yJ2_checkIndex_2214a cJ2_checkIndex_2214a 2 none, Cond.methodLink RJ2 48 yJ2_length_9d52b]
def wsX2_kindAt_r3 : List Cond := [Cond.static yJ2_length_9d52b, Cond.code yJ2_length_9d52b cJ2_length_9d52b 1 (some .int), Cond.methodLink RJ2 414 yJ0_checkIndex_df160, Cond.methodLink RJ2 71 yJ2_getChar_3b067, Cond.static yJ2_getChar_3b067, Cond.code yJ2_getChar_3b067 cJ2_getChar_3b067 2 (some .char), Cond.fieldLink RJ2 44 "java/lang/StringUTF16" "$assertionsDisabled" "Z", Cond.fieldLink RJ2 59 "java/lang/StringUTF16" "HI_BYTE_SHIFT" "I", Cond.fieldLink RJ2 63 "java/lang/StringUTF16" "LO_BYTE_SHIFT" "I"]
def wsX2_kindAt : List Cond := .code yX2_kindAt cX2_kindAt 1 (some .int) :: ((wsX2_kindAt_r1 ++ (wsX2_kindAt_r2 ++ wsX2_kindAt_r3)) ++ wsX20 ++ wsX50)
def wsX2_take_r1 : List Cond := [Cond.methodLink RX2 63 yX2_isAt, Cond.instanceMethod yX2_isAt, Cond.selects RX2 yX2_isAt yX2_isAt, Cond.initialized RX2, Cond.code yX2_isAt cX2_isAt 4 (some .boolean), Cond.fieldLink RX2 25 "TraitHouse$Reader" "behind" "I", Cond.fieldLink RX2 48 "TraitHouse$Reader" "place" "I", Cond.fieldLink RX2 17 "TraitHouse$Reader" "tape" "LTraitHouse$Tape;", Cond.methodLink RX2 141 yJ0_length_8abf5, Cond.instanceMethod yJ0_length_8abf5, Cond.selects RJ0 yJ0_length_8abf5 yJ0_length_8abf5, Cond.initialized RJ0, Cond.code yJ0_length_8abf5 cJ0_length_8abf5 1 (some .int), Cond.fieldLink RJ0 9 "java/lang/String" "value" "[B", Cond.methodLink RJ0 335 yJ0_coder_7d493, Cond.instanceMethod yJ0_coder_7d493, Cond.selects RJ0 yJ0_coder_7d493 yJ0_coder_7d493, Cond.code yJ0_coder_7d493 cJ0_coder_7d493 1 (some .byte), Cond.fieldLink RJ0 38 "java/lang/String" "COMPACT_STRINGS" "Z", Cond.fieldLink RJ0 15 "java/lang/String" "coder" "B", Cond.methodLink RX2 146 yJ0_charAt_5068e, Cond.instanceMethod yJ0_charAt_5068e, Cond.selects RJ0 yJ0_charAt_5068e yJ0_charAt_5068e, Cond.code yJ0_charAt_5068e cJ0_charAt_5068e 2 (some .char)]
def wsX2_take_r2 : List Cond := [Cond.methodLink RJ0 492 yJ0_isLatin1_aae02, Cond.instanceMethod yJ0_isLatin1_aae02, Cond.selects RJ0 yJ0_isLatin1_aae02 yJ0_isLatin1_aae02, Cond.code yJ0_isLatin1_aae02 cJ0_isLatin1_aae02 1 (some .boolean), Cond.methodLink RJ0 495 yJ1_charAt_3b067, Cond.static yJ1_charAt_3b067, Cond.initialized RJ1, Cond.code yJ1_charAt_3b067 cJ1_charAt_3b067 2 (some .char), Cond.methodLink RJ1 9 yJ0_checkIndex_df160, Cond.static yJ0_checkIndex_df160, Cond.code yJ0_checkIndex_df160 cJ0_checkIndex_df160 2 none, Cond.fieldLink RJ0 1053 "jdk/internal/util/Preconditions" "SIOOBE_FORMATTER" "Ljava/util/function/BiFunction;", Cond.methodLink RJ0 1059 yJ3_checkIndex_8e157, Cond.static yJ3_checkIndex_8e157, Cond.initialized RJ3, Cond.code yJ3_checkIndex_8e157 cJ3_checkIndex_8e157 3 (some .int), Cond.methodLink RJ0 498 yJ2_charAt_3b067, Cond.static yJ2_charAt_3b067, Cond.initialized RJ2, Cond.code yJ2_charAt_3b067 cJ2_charAt_3b067 2 (some .char), Cond.methodLink RJ2 67 yJ2_checkIndex_2214a, Cond.static yJ2_checkIndex_2214a, Cond.code yJ2_checkIndex_2214a cJ2_checkIndex_2214a 2 none, Cond.methodLink RJ2 48 yJ2_length_9d52b]
def wsX2_take_r3 : List Cond := [Cond.static yJ2_length_9d52b, Cond.code yJ2_length_9d52b cJ2_length_9d52b 1 (some .int), Cond.methodLink RJ2 414 yJ0_checkIndex_df160, Cond.methodLink RJ2 71 yJ2_getChar_3b067, Cond.static yJ2_getChar_3b067, Cond.code yJ2_getChar_3b067 cJ2_getChar_3b067 2 (some .char), Cond.fieldLink RJ2 44 "java/lang/StringUTF16" "$assertionsDisabled" "Z", Cond.fieldLink RJ2 59 "java/lang/StringUTF16" "HI_BYTE_SHIFT" "I", Cond.fieldLink RJ2 63 "java/lang/StringUTF16" "LO_BYTE_SHIFT" "I", Cond.methodLink RX2 54 yX2_stop, Cond.instanceMethod yX2_stop, Cond.selects RX2 yX2_stop yX2_stop, Cond.code yX2_stop cX2_stop 1 (some .boolean), Cond.fieldLink RX2 31 "TraitHouse$Reader" "fault" "I", Cond.methodLink RX2 41 yX2_advance, Cond.instanceMethod yX2_advance, Cond.selects RX2 yX2_advance yX2_advance, Cond.code yX2_advance cX2_advance 3 none, Cond.methodLink RX2 150 Lib.Math.min.name, Cond.static Lib.Math.min.name, Cond.initialized "java/lang/Math", Cond.code Lib.Math.min.name Lib.Math.min.code 2 (some .int), Cond.methodLink RX2 156 yX2_isLetterAt, Cond.instanceMethod yX2_isLetterAt]
def wsX2_take_r4 : List Cond := [Cond.selects RX2 yX2_isLetterAt yX2_isLetterAt, Cond.code yX2_isLetterAt cX2_isLetterAt 2 (some .boolean), Cond.methodLink RX2 90 yX2_isDigitAt, Cond.instanceMethod yX2_isDigitAt, Cond.selects RX2 yX2_isDigitAt yX2_isDigitAt, Cond.code yX2_isDigitAt cX2_isDigitAt 2 (some .boolean)]
def wsX2_take : List Cond := .code yX2_take cX2_take 2 (some .boolean) :: ((wsX2_take_r1 ++ (wsX2_take_r2 ++ (wsX2_take_r3 ++ wsX2_take_r4))) ++ wsX20 ++ wsX50)
def wsX2_readWindow_r1 : List Cond := [Cond.constant RX2 85 (1000000), Cond.fieldLink RX2 37 "TraitHouse$Reader" "leaks" "Z", Cond.methodLink RX2 110 yX2_takeNumber, Cond.instanceMethod yX2_takeNumber, Cond.selects RX2 yX2_takeNumber yX2_takeNumber, Cond.initialized RX2, Cond.code yX2_takeNumber cX2_takeNumber 4 (some .int), Cond.fieldLink RX2 48 "TraitHouse$Reader" "place" "I", Cond.constant RX2 134 (1000001), Cond.fieldLink RX2 25 "TraitHouse$Reader" "behind" "I", Cond.fieldLink RX2 17 "TraitHouse$Reader" "tape" "LTraitHouse$Tape;", Cond.methodLink RX2 90 yX2_isDigitAt, Cond.instanceMethod yX2_isDigitAt, Cond.selects RX2 yX2_isDigitAt yX2_isDigitAt, Cond.code yX2_isDigitAt cX2_isDigitAt 2 (some .boolean), Cond.methodLink RX2 54 yX2_stop, Cond.instanceMethod yX2_stop, Cond.selects RX2 yX2_stop yX2_stop, Cond.code yX2_stop cX2_stop 1 (some .boolean), Cond.fieldLink RX2 31 "TraitHouse$Reader" "fault" "I", Cond.methodLink RX2 41 yX2_advance, Cond.instanceMethod yX2_advance, Cond.selects RX2 yX2_advance yX2_advance, Cond.code yX2_advance cX2_advance 3 none]
def wsX2_readWindow_r2 : List Cond := [Cond.methodLink RX2 150 Lib.Math.min.name, Cond.static Lib.Math.min.name, Cond.initialized "java/lang/Math", Cond.code Lib.Math.min.name Lib.Math.min.code 2 (some .int), Cond.methodLink RX2 156 yX2_isLetterAt, Cond.instanceMethod yX2_isLetterAt, Cond.selects RX2 yX2_isLetterAt yX2_isLetterAt, Cond.code yX2_isLetterAt cX2_isLetterAt 2 (some .boolean), Cond.methodLink RX2 107 yX2_take, Cond.instanceMethod yX2_take, Cond.selects RX2 yX2_take yX2_take, Cond.code yX2_take cX2_take 2 (some .boolean), Cond.methodLink RX2 63 yX2_isAt, Cond.instanceMethod yX2_isAt, Cond.selects RX2 yX2_isAt yX2_isAt, Cond.code yX2_isAt cX2_isAt 4 (some .boolean), Cond.methodLink RX2 141 yJ0_length_8abf5, Cond.instanceMethod yJ0_length_8abf5, Cond.selects RJ0 yJ0_length_8abf5 yJ0_length_8abf5, Cond.initialized RJ0, Cond.code yJ0_length_8abf5 cJ0_length_8abf5 1 (some .int), Cond.fieldLink RJ0 9 "java/lang/String" "value" "[B", Cond.methodLink RJ0 335 yJ0_coder_7d493, Cond.instanceMethod yJ0_coder_7d493]
def wsX2_readWindow_r3 : List Cond := [Cond.selects RJ0 yJ0_coder_7d493 yJ0_coder_7d493, Cond.code yJ0_coder_7d493 cJ0_coder_7d493 1 (some .byte), Cond.fieldLink RJ0 38 "java/lang/String" "COMPACT_STRINGS" "Z", Cond.fieldLink RJ0 15 "java/lang/String" "coder" "B", Cond.methodLink RX2 146 yJ0_charAt_5068e, Cond.instanceMethod yJ0_charAt_5068e, Cond.selects RJ0 yJ0_charAt_5068e yJ0_charAt_5068e, Cond.code yJ0_charAt_5068e cJ0_charAt_5068e 2 (some .char), Cond.methodLink RJ0 492 yJ0_isLatin1_aae02, Cond.instanceMethod yJ0_isLatin1_aae02, Cond.selects RJ0 yJ0_isLatin1_aae02 yJ0_isLatin1_aae02, Cond.code yJ0_isLatin1_aae02 cJ0_isLatin1_aae02 1 (some .boolean), Cond.methodLink RJ0 495 yJ1_charAt_3b067, Cond.static yJ1_charAt_3b067, Cond.initialized RJ1, Cond.code yJ1_charAt_3b067 cJ1_charAt_3b067 2 (some .char), Cond.methodLink RJ1 9 yJ0_checkIndex_df160, Cond.static yJ0_checkIndex_df160, Cond.code yJ0_checkIndex_df160 cJ0_checkIndex_df160 2 none, Cond.fieldLink RJ0 1053 "jdk/internal/util/Preconditions" "SIOOBE_FORMATTER" "Ljava/util/function/BiFunction;", Cond.methodLink RJ0 1059 yJ3_checkIndex_8e157, Cond.static yJ3_checkIndex_8e157, Cond.initialized RJ3, Cond.code yJ3_checkIndex_8e157 cJ3_checkIndex_8e157 3 (some .int)]
def wsX2_readWindow_r4 : List Cond := [Cond.methodLink RJ0 498 yJ2_charAt_3b067, Cond.static yJ2_charAt_3b067, Cond.initialized RJ2, Cond.code yJ2_charAt_3b067 cJ2_charAt_3b067 2 (some .char), Cond.methodLink RJ2 67 yJ2_checkIndex_2214a, Cond.static yJ2_checkIndex_2214a, Cond.code yJ2_checkIndex_2214a cJ2_checkIndex_2214a 2 none, Cond.methodLink RJ2 48 yJ2_length_9d52b, Cond.static yJ2_length_9d52b, Cond.code yJ2_length_9d52b cJ2_length_9d52b 1 (some .int), Cond.methodLink RJ2 414 yJ0_checkIndex_df160, Cond.methodLink RJ2 71 yJ2_getChar_3b067, Cond.static yJ2_getChar_3b067, Cond.code yJ2_getChar_3b067 cJ2_getChar_3b067 2 (some .char), Cond.fieldLink RJ2 44 "java/lang/StringUTF16" "$assertionsDisabled" "Z", Cond.fieldLink RJ2 59 "java/lang/StringUTF16" "HI_BYTE_SHIFT" "I", Cond.fieldLink RJ2 63 "java/lang/StringUTF16" "LO_BYTE_SHIFT" "I", Cond.methodLink RX2 69 yX2_emit, Cond.instanceMethod yX2_emit, Cond.selects RX2 yX2_emit yX2_emit, Cond.code yX2_emit cX2_emit 5 none, Cond.fieldLink RX2 21 "TraitHouse$Reader" "size" "I", Cond.fieldLink RX2 11 "TraitHouse$Reader" "steps" "[LTraitHouse$Step;", Cond.classLink RX2 9 RX4]
def wsX2_readWindow_r5 : List Cond := [Cond.instantiable RX4 4, Cond.initialized RX4, Cond.instanceMethod yX4_init, Cond.code yX4_init cX4_init 5 none, Cond.methodLink RX4 1 objectInit, Cond.instanceMethod objectInit, Cond.code objectInit ⟨#[0xb1]⟩ 1 none, Cond.fieldLink RX4 7 "TraitHouse$Step" "kind" "I", Cond.fieldLink RX4 13 "TraitHouse$Step" "number" "I", Cond.fieldLink RX4 16 "TraitHouse$Step" "from" "I", Cond.fieldLink RX4 19 "TraitHouse$Step" "to" "I"]
def wsX2_readWindow : List Cond := .code yX2_readWindow cX2_readWindow 5 (some .boolean) :: ((wsX2_readWindow_r1 ++ (wsX2_readWindow_r2 ++ (wsX2_readWindow_r3 ++ (wsX2_readWindow_r4 ++ wsX2_readWindow_r5)))) ++ wsX20 ++ wsX50 ++ wsX40)
def wsX2_readAtom_r1 : List Cond := [Cond.fieldLink RX2 48 "TraitHouse$Reader" "place" "I", Cond.constant RX2 85 (1000000), Cond.fieldLink RX2 28 "TraitHouse$Reader" "traitsThere" "I", Cond.methodLink RX2 90 yX2_isDigitAt, Cond.instanceMethod yX2_isDigitAt, Cond.selects RX2 yX2_isDigitAt yX2_isDigitAt, Cond.initialized RX2, Cond.code yX2_isDigitAt cX2_isDigitAt 2 (some .boolean), Cond.fieldLink RX2 17 "TraitHouse$Reader" "tape" "LTraitHouse$Tape;", Cond.methodLink RX2 86 yX2_readNumbered, Cond.instanceMethod yX2_readNumbered, Cond.selects RX2 yX2_readNumbered yX2_readNumbered, Cond.code yX2_readNumbered cX2_readNumbered 4 (some .boolean), Cond.fieldLink RX2 34 "TraitHouse$Reader" "reads" "I", Cond.methodLink RX2 110 yX2_takeNumber, Cond.instanceMethod yX2_takeNumber, Cond.selects RX2 yX2_takeNumber yX2_takeNumber, Cond.code yX2_takeNumber cX2_takeNumber 4 (some .int), Cond.constant RX2 134 (1000001), Cond.fieldLink RX2 25 "TraitHouse$Reader" "behind" "I", Cond.methodLink RX2 54 yX2_stop, Cond.instanceMethod yX2_stop, Cond.selects RX2 yX2_stop yX2_stop, Cond.code yX2_stop cX2_stop 1 (some .boolean)]
def wsX2_readAtom_r2 : List Cond := [Cond.fieldLink RX2 31 "TraitHouse$Reader" "fault" "I", Cond.methodLink RX2 41 yX2_advance, Cond.instanceMethod yX2_advance, Cond.selects RX2 yX2_advance yX2_advance, Cond.code yX2_advance cX2_advance 3 none, Cond.methodLink RX2 150 Lib.Math.min.name, Cond.static Lib.Math.min.name, Cond.initialized "java/lang/Math", Cond.code Lib.Math.min.name Lib.Math.min.code 2 (some .int), Cond.methodLink RX2 156 yX2_isLetterAt, Cond.instanceMethod yX2_isLetterAt, Cond.selects RX2 yX2_isLetterAt yX2_isLetterAt, Cond.code yX2_isLetterAt cX2_isLetterAt 2 (some .boolean), Cond.methodLink RX2 69 yX2_emit, Cond.instanceMethod yX2_emit, Cond.selects RX2 yX2_emit yX2_emit, Cond.code yX2_emit cX2_emit 5 none, Cond.fieldLink RX2 21 "TraitHouse$Reader" "size" "I", Cond.fieldLink RX2 11 "TraitHouse$Reader" "steps" "[LTraitHouse$Step;", Cond.classLink RX2 9 RX4, Cond.instantiable RX4 4, Cond.initialized RX4, Cond.instanceMethod yX4_init, Cond.code yX4_init cX4_init 5 none]
def wsX2_readAtom_r3 : List Cond := [Cond.methodLink RX4 1 objectInit, Cond.instanceMethod objectInit, Cond.code objectInit ⟨#[0xb1]⟩ 1 none, Cond.fieldLink RX4 7 "TraitHouse$Step" "kind" "I", Cond.fieldLink RX4 13 "TraitHouse$Step" "number" "I", Cond.fieldLink RX4 16 "TraitHouse$Step" "from" "I", Cond.fieldLink RX4 19 "TraitHouse$Step" "to" "I", Cond.methodLink RX2 63 yX2_isAt, Cond.instanceMethod yX2_isAt, Cond.selects RX2 yX2_isAt yX2_isAt, Cond.code yX2_isAt cX2_isAt 4 (some .boolean), Cond.methodLink RX2 141 yJ0_length_8abf5, Cond.instanceMethod yJ0_length_8abf5, Cond.selects RJ0 yJ0_length_8abf5 yJ0_length_8abf5, Cond.initialized RJ0, Cond.code yJ0_length_8abf5 cJ0_length_8abf5 1 (some .int), Cond.fieldLink RJ0 9 "java/lang/String" "value" "[B", Cond.methodLink RJ0 335 yJ0_coder_7d493, Cond.instanceMethod yJ0_coder_7d493, Cond.selects RJ0 yJ0_coder_7d493 yJ0_coder_7d493, Cond.code yJ0_coder_7d493 cJ0_coder_7d493 1 (some .byte), Cond.fieldLink RJ0 38 "java/lang/String" "COMPACT_STRINGS" "Z", Cond.fieldLink RJ0 15 "java/lang/String" "coder" "B", Cond.methodLink RX2 146 yJ0_charAt_5068e]
def wsX2_readAtom_r4 : List Cond := [Cond.instanceMethod yJ0_charAt_5068e, Cond.selects RJ0 yJ0_charAt_5068e yJ0_charAt_5068e, Cond.code yJ0_charAt_5068e cJ0_charAt_5068e 2 (some .char), Cond.methodLink RJ0 492 yJ0_isLatin1_aae02, Cond.instanceMethod yJ0_isLatin1_aae02, Cond.selects RJ0 yJ0_isLatin1_aae02 yJ0_isLatin1_aae02, Cond.code yJ0_isLatin1_aae02 cJ0_isLatin1_aae02 1 (some .boolean), Cond.methodLink RJ0 495 yJ1_charAt_3b067, Cond.static yJ1_charAt_3b067, Cond.initialized RJ1, Cond.code yJ1_charAt_3b067 cJ1_charAt_3b067 2 (some .char), Cond.methodLink RJ1 9 yJ0_checkIndex_df160, Cond.static yJ0_checkIndex_df160, Cond.code yJ0_checkIndex_df160 cJ0_checkIndex_df160 2 none, Cond.fieldLink RJ0 1053 "jdk/internal/util/Preconditions" "SIOOBE_FORMATTER" "Ljava/util/function/BiFunction;", Cond.methodLink RJ0 1059 yJ3_checkIndex_8e157, Cond.static yJ3_checkIndex_8e157, Cond.initialized RJ3, Cond.code yJ3_checkIndex_8e157 cJ3_checkIndex_8e157 3 (some .int), Cond.methodLink RJ0 498 yJ2_charAt_3b067, Cond.static yJ2_charAt_3b067, Cond.initialized RJ2, Cond.code yJ2_charAt_3b067 cJ2_charAt_3b067 2 (some .char), Cond.methodLink RJ2 67 yJ2_checkIndex_2214a]
def wsX2_readAtom_r5 : List Cond := [Cond.static yJ2_checkIndex_2214a, Cond.code yJ2_checkIndex_2214a cJ2_checkIndex_2214a 2 none, Cond.methodLink RJ2 48 yJ2_length_9d52b, Cond.static yJ2_length_9d52b, Cond.code yJ2_length_9d52b cJ2_length_9d52b 1 (some .int), Cond.methodLink RJ2 414 yJ0_checkIndex_df160, Cond.methodLink RJ2 71 yJ2_getChar_3b067, Cond.static yJ2_getChar_3b067, Cond.code yJ2_getChar_3b067 cJ2_getChar_3b067 2 (some .char), Cond.fieldLink RJ2 44 "java/lang/StringUTF16" "$assertionsDisabled" "Z", Cond.fieldLink RJ2 59 "java/lang/StringUTF16" "HI_BYTE_SHIFT" "I", Cond.fieldLink RJ2 63 "java/lang/StringUTF16" "LO_BYTE_SHIFT" "I", Cond.methodLink RX2 95 yX2_readBracket, Cond.instanceMethod yX2_readBracket, Cond.selects RX2 yX2_readBracket yX2_readBracket, Cond.methodLink RX2 98 yX2_kindAt, Cond.instanceMethod yX2_kindAt, Cond.selects RX2 yX2_kindAt yX2_kindAt, Cond.code yX2_kindAt cX2_kindAt 1 (some .int), Cond.methodLink RX2 102 yX2_readWindow, Cond.instanceMethod yX2_readWindow, Cond.selects RX2 yX2_readWindow yX2_readWindow, Cond.code yX2_readWindow cX2_readWindow 5 (some .boolean), Cond.fieldLink RX2 37 "TraitHouse$Reader" "leaks" "Z"]
def wsX2_readAtom_r6 : List Cond := [Cond.methodLink RX2 107 yX2_take, Cond.instanceMethod yX2_take, Cond.selects RX2 yX2_take yX2_take, Cond.code yX2_take cX2_take 2 (some .boolean), Cond.code yX2_readBracket cX2_readBracket 2 (some .boolean), Cond.methodLink RX2 44 yX2_readSum, Cond.instanceMethod yX2_readSum, Cond.selects RX2 yX2_readSum yX2_readSum, Cond.code yX2_readPart cX2_readPart 2 (some .boolean), Cond.methodLink RX2 80 yX2_readAtom, Cond.instanceMethod yX2_readAtom, Cond.selects RX2 yX2_readAtom yX2_readAtom, Cond.code yX2_readSum cX2_readSum 5 (some .boolean), Cond.methodLink RX2 58 yX2_readTerm, Cond.instanceMethod yX2_readTerm, Cond.selects RX2 yX2_readTerm yX2_readTerm, Cond.code yX2_readTerm cX2_readTerm 5 (some .boolean), Cond.methodLink RX2 73 yX2_readPart, Cond.instanceMethod yX2_readPart, Cond.selects RX2 yX2_readPart yX2_readPart]
def wsX2_readAtom : List Cond := .code yX2_readAtom cX2_readAtom 3 (some .boolean) :: ((wsX2_readAtom_r1 ++ (wsX2_readAtom_r2 ++ (wsX2_readAtom_r3 ++ (wsX2_readAtom_r4 ++ (wsX2_readAtom_r5 ++ wsX2_readAtom_r6))))) ++ wsX20 ++ wsX50 ++ wsX40)
def wsX2_readBracket_r1 : List Cond := [Cond.methodLink RX2 54 yX2_stop, Cond.instanceMethod yX2_stop, Cond.selects RX2 yX2_stop yX2_stop, Cond.initialized RX2, Cond.code yX2_stop cX2_stop 1 (some .boolean), Cond.fieldLink RX2 48 "TraitHouse$Reader" "place" "I", Cond.fieldLink RX2 31 "TraitHouse$Reader" "fault" "I", Cond.methodLink RX2 41 yX2_advance, Cond.instanceMethod yX2_advance, Cond.selects RX2 yX2_advance yX2_advance, Cond.code yX2_advance cX2_advance 3 none, Cond.fieldLink RX2 25 "TraitHouse$Reader" "behind" "I", Cond.fieldLink RX2 17 "TraitHouse$Reader" "tape" "LTraitHouse$Tape;", Cond.methodLink RX2 150 Lib.Math.min.name, Cond.static Lib.Math.min.name, Cond.initialized "java/lang/Math", Cond.code Lib.Math.min.name Lib.Math.min.code 2 (some .int), Cond.methodLink RX2 156 yX2_isLetterAt, Cond.instanceMethod yX2_isLetterAt, Cond.selects RX2 yX2_isLetterAt yX2_isLetterAt, Cond.code yX2_isLetterAt cX2_isLetterAt 2 (some .boolean), Cond.methodLink RX2 90 yX2_isDigitAt, Cond.instanceMethod yX2_isDigitAt, Cond.selects RX2 yX2_isDigitAt yX2_isDigitAt]
def wsX2_readBracket_r2 : List Cond := [Cond.code yX2_isDigitAt cX2_isDigitAt 2 (some .boolean), Cond.methodLink RX2 44 yX2_readSum, Cond.instanceMethod yX2_readSum, Cond.selects RX2 yX2_readSum yX2_readSum, Cond.methodLink RX2 107 yX2_take, Cond.instanceMethod yX2_take, Cond.selects RX2 yX2_take yX2_take, Cond.code yX2_take cX2_take 2 (some .boolean), Cond.methodLink RX2 63 yX2_isAt, Cond.instanceMethod yX2_isAt, Cond.selects RX2 yX2_isAt yX2_isAt, Cond.code yX2_isAt cX2_isAt 4 (some .boolean), Cond.methodLink RX2 141 yJ0_length_8abf5, Cond.instanceMethod yJ0_length_8abf5, Cond.selects RJ0 yJ0_length_8abf5 yJ0_length_8abf5, Cond.initialized RJ0, Cond.code yJ0_length_8abf5 cJ0_length_8abf5 1 (some .int), Cond.fieldLink RJ0 9 "java/lang/String" "value" "[B", Cond.methodLink RJ0 335 yJ0_coder_7d493, Cond.instanceMethod yJ0_coder_7d493, Cond.selects RJ0 yJ0_coder_7d493 yJ0_coder_7d493, Cond.code yJ0_coder_7d493 cJ0_coder_7d493 1 (some .byte), Cond.fieldLink RJ0 38 "java/lang/String" "COMPACT_STRINGS" "Z", Cond.fieldLink RJ0 15 "java/lang/String" "coder" "B"]
def wsX2_readBracket_r3 : List Cond := [Cond.methodLink RX2 146 yJ0_charAt_5068e, Cond.instanceMethod yJ0_charAt_5068e, Cond.selects RJ0 yJ0_charAt_5068e yJ0_charAt_5068e, Cond.code yJ0_charAt_5068e cJ0_charAt_5068e 2 (some .char), Cond.methodLink RJ0 492 yJ0_isLatin1_aae02, Cond.instanceMethod yJ0_isLatin1_aae02, Cond.selects RJ0 yJ0_isLatin1_aae02 yJ0_isLatin1_aae02, Cond.code yJ0_isLatin1_aae02 cJ0_isLatin1_aae02 1 (some .boolean), Cond.methodLink RJ0 495 yJ1_charAt_3b067, Cond.static yJ1_charAt_3b067, Cond.initialized RJ1, Cond.code yJ1_charAt_3b067 cJ1_charAt_3b067 2 (some .char), Cond.methodLink RJ1 9 yJ0_checkIndex_df160, Cond.static yJ0_checkIndex_df160, Cond.code yJ0_checkIndex_df160 cJ0_checkIndex_df160 2 none, Cond.fieldLink RJ0 1053 "jdk/internal/util/Preconditions" "SIOOBE_FORMATTER" "Ljava/util/function/BiFunction;", Cond.methodLink RJ0 1059 yJ3_checkIndex_8e157, Cond.static yJ3_checkIndex_8e157, Cond.initialized RJ3, Cond.code yJ3_checkIndex_8e157 cJ3_checkIndex_8e157 3 (some .int), Cond.methodLink RJ0 498 yJ2_charAt_3b067, Cond.static yJ2_charAt_3b067, Cond.initialized RJ2, Cond.code yJ2_charAt_3b067 cJ2_charAt_3b067 2 (some .char)]
def wsX2_readBracket_r4 : List Cond := [Cond.methodLink RJ2 67 yJ2_checkIndex_2214a, Cond.static yJ2_checkIndex_2214a, Cond.code yJ2_checkIndex_2214a cJ2_checkIndex_2214a 2 none, Cond.methodLink RJ2 48 yJ2_length_9d52b, Cond.static yJ2_length_9d52b, Cond.code yJ2_length_9d52b cJ2_length_9d52b 1 (some .int), Cond.methodLink RJ2 414 yJ0_checkIndex_df160, Cond.methodLink RJ2 71 yJ2_getChar_3b067, Cond.static yJ2_getChar_3b067, Cond.code yJ2_getChar_3b067 cJ2_getChar_3b067 2 (some .char), Cond.fieldLink RJ2 44 "java/lang/StringUTF16" "$assertionsDisabled" "Z", Cond.fieldLink RJ2 59 "java/lang/StringUTF16" "HI_BYTE_SHIFT" "I", Cond.fieldLink RJ2 63 "java/lang/StringUTF16" "LO_BYTE_SHIFT" "I", Cond.code yX2_readAtom cX2_readAtom 3 (some .boolean), Cond.constant RX2 85 (1000000), Cond.fieldLink RX2 28 "TraitHouse$Reader" "traitsThere" "I", Cond.methodLink RX2 86 yX2_readNumbered, Cond.instanceMethod yX2_readNumbered, Cond.selects RX2 yX2_readNumbered yX2_readNumbered, Cond.code yX2_readNumbered cX2_readNumbered 4 (some .boolean), Cond.fieldLink RX2 34 "TraitHouse$Reader" "reads" "I", Cond.methodLink RX2 110 yX2_takeNumber, Cond.instanceMethod yX2_takeNumber, Cond.selects RX2 yX2_takeNumber yX2_takeNumber]
def wsX2_readBracket_r5 : List Cond := [Cond.code yX2_takeNumber cX2_takeNumber 4 (some .int), Cond.constant RX2 134 (1000001), Cond.methodLink RX2 69 yX2_emit, Cond.instanceMethod yX2_emit, Cond.selects RX2 yX2_emit yX2_emit, Cond.code yX2_emit cX2_emit 5 none, Cond.fieldLink RX2 21 "TraitHouse$Reader" "size" "I", Cond.fieldLink RX2 11 "TraitHouse$Reader" "steps" "[LTraitHouse$Step;", Cond.classLink RX2 9 RX4, Cond.instantiable RX4 4, Cond.initialized RX4, Cond.instanceMethod yX4_init, Cond.code yX4_init cX4_init 5 none, Cond.methodLink RX4 1 objectInit, Cond.instanceMethod objectInit, Cond.code objectInit ⟨#[0xb1]⟩ 1 none, Cond.fieldLink RX4 7 "TraitHouse$Step" "kind" "I", Cond.fieldLink RX4 13 "TraitHouse$Step" "number" "I", Cond.fieldLink RX4 16 "TraitHouse$Step" "from" "I", Cond.fieldLink RX4 19 "TraitHouse$Step" "to" "I", Cond.methodLink RX2 95 yX2_readBracket, Cond.instanceMethod yX2_readBracket, Cond.selects RX2 yX2_readBracket yX2_readBracket, Cond.methodLink RX2 98 yX2_kindAt]
def wsX2_readBracket_r6 : List Cond := [Cond.instanceMethod yX2_kindAt, Cond.selects RX2 yX2_kindAt yX2_kindAt, Cond.code yX2_kindAt cX2_kindAt 1 (some .int), Cond.methodLink RX2 102 yX2_readWindow, Cond.instanceMethod yX2_readWindow, Cond.selects RX2 yX2_readWindow yX2_readWindow, Cond.code yX2_readWindow cX2_readWindow 5 (some .boolean), Cond.fieldLink RX2 37 "TraitHouse$Reader" "leaks" "Z", Cond.code yX2_readPart cX2_readPart 2 (some .boolean), Cond.methodLink RX2 80 yX2_readAtom, Cond.instanceMethod yX2_readAtom, Cond.selects RX2 yX2_readAtom yX2_readAtom, Cond.code yX2_readSum cX2_readSum 5 (some .boolean), Cond.methodLink RX2 58 yX2_readTerm, Cond.instanceMethod yX2_readTerm, Cond.selects RX2 yX2_readTerm yX2_readTerm, Cond.code yX2_readTerm cX2_readTerm 5 (some .boolean), Cond.methodLink RX2 73 yX2_readPart, Cond.instanceMethod yX2_readPart, Cond.selects RX2 yX2_readPart yX2_readPart]
def wsX2_readBracket : List Cond := .code yX2_readBracket cX2_readBracket 2 (some .boolean) :: ((wsX2_readBracket_r1 ++ (wsX2_readBracket_r2 ++ (wsX2_readBracket_r3 ++ (wsX2_readBracket_r4 ++ (wsX2_readBracket_r5 ++ wsX2_readBracket_r6))))) ++ wsX20 ++ wsX50 ++ wsX40)
def wsX2_readPart_r1 : List Cond := [Cond.constant RX2 85 (1000000), Cond.methodLink RX2 80 yX2_readAtom, Cond.instanceMethod yX2_readAtom, Cond.selects RX2 yX2_readAtom yX2_readAtom, Cond.initialized RX2, Cond.methodLink RX2 63 yX2_isAt, Cond.instanceMethod yX2_isAt, Cond.selects RX2 yX2_isAt yX2_isAt, Cond.code yX2_isAt cX2_isAt 4 (some .boolean), Cond.fieldLink RX2 25 "TraitHouse$Reader" "behind" "I", Cond.fieldLink RX2 48 "TraitHouse$Reader" "place" "I", Cond.fieldLink RX2 17 "TraitHouse$Reader" "tape" "LTraitHouse$Tape;", Cond.methodLink RX2 141 yJ0_length_8abf5, Cond.instanceMethod yJ0_length_8abf5, Cond.selects RJ0 yJ0_length_8abf5 yJ0_length_8abf5, Cond.initialized RJ0, Cond.code yJ0_length_8abf5 cJ0_length_8abf5 1 (some .int), Cond.fieldLink RJ0 9 "java/lang/String" "value" "[B", Cond.methodLink RJ0 335 yJ0_coder_7d493, Cond.instanceMethod yJ0_coder_7d493, Cond.selects RJ0 yJ0_coder_7d493 yJ0_coder_7d493, Cond.code yJ0_coder_7d493 cJ0_coder_7d493 1 (some .byte), Cond.fieldLink RJ0 38 "java/lang/String" "COMPACT_STRINGS" "Z", Cond.fieldLink RJ0 15 "java/lang/String" "coder" "B"]
def wsX2_readPart_r2 : List Cond := [Cond.methodLink RX2 146 yJ0_charAt_5068e, Cond.instanceMethod yJ0_charAt_5068e, Cond.selects RJ0 yJ0_charAt_5068e yJ0_charAt_5068e, Cond.code yJ0_charAt_5068e cJ0_charAt_5068e 2 (some .char), Cond.methodLink RJ0 492 yJ0_isLatin1_aae02, Cond.instanceMethod yJ0_isLatin1_aae02, Cond.selects RJ0 yJ0_isLatin1_aae02 yJ0_isLatin1_aae02, Cond.code yJ0_isLatin1_aae02 cJ0_isLatin1_aae02 1 (some .boolean), Cond.methodLink RJ0 495 yJ1_charAt_3b067, Cond.static yJ1_charAt_3b067, Cond.initialized RJ1, Cond.code yJ1_charAt_3b067 cJ1_charAt_3b067 2 (some .char), Cond.methodLink RJ1 9 yJ0_checkIndex_df160, Cond.static yJ0_checkIndex_df160, Cond.code yJ0_checkIndex_df160 cJ0_checkIndex_df160 2 none, Cond.fieldLink RJ0 1053 "jdk/internal/util/Preconditions" "SIOOBE_FORMATTER" "Ljava/util/function/BiFunction;", Cond.methodLink RJ0 1059 yJ3_checkIndex_8e157, Cond.static yJ3_checkIndex_8e157, Cond.initialized RJ3, Cond.code yJ3_checkIndex_8e157 cJ3_checkIndex_8e157 3 (some .int), Cond.methodLink RJ0 498 yJ2_charAt_3b067, Cond.static yJ2_charAt_3b067, Cond.initialized RJ2, Cond.code yJ2_charAt_3b067 cJ2_charAt_3b067 2 (some .char)]
def wsX2_readPart_r3 : List Cond := [Cond.methodLink RJ2 67 yJ2_checkIndex_2214a, Cond.static yJ2_checkIndex_2214a, Cond.code yJ2_checkIndex_2214a cJ2_checkIndex_2214a 2 none, Cond.methodLink RJ2 48 yJ2_length_9d52b, Cond.static yJ2_length_9d52b, Cond.code yJ2_length_9d52b cJ2_length_9d52b 1 (some .int), Cond.methodLink RJ2 414 yJ0_checkIndex_df160, Cond.methodLink RJ2 71 yJ2_getChar_3b067, Cond.static yJ2_getChar_3b067, Cond.code yJ2_getChar_3b067 cJ2_getChar_3b067 2 (some .char), Cond.fieldLink RJ2 44 "java/lang/StringUTF16" "$assertionsDisabled" "Z", Cond.fieldLink RJ2 59 "java/lang/StringUTF16" "HI_BYTE_SHIFT" "I", Cond.fieldLink RJ2 63 "java/lang/StringUTF16" "LO_BYTE_SHIFT" "I", Cond.methodLink RX2 41 yX2_advance, Cond.instanceMethod yX2_advance, Cond.selects RX2 yX2_advance yX2_advance, Cond.code yX2_advance cX2_advance 3 none, Cond.methodLink RX2 150 Lib.Math.min.name, Cond.static Lib.Math.min.name, Cond.initialized "java/lang/Math", Cond.code Lib.Math.min.name Lib.Math.min.code 2 (some .int), Cond.methodLink RX2 156 yX2_isLetterAt, Cond.instanceMethod yX2_isLetterAt, Cond.selects RX2 yX2_isLetterAt yX2_isLetterAt]
def wsX2_readPart_r4 : List Cond := [Cond.code yX2_isLetterAt cX2_isLetterAt 2 (some .boolean), Cond.methodLink RX2 90 yX2_isDigitAt, Cond.instanceMethod yX2_isDigitAt, Cond.selects RX2 yX2_isDigitAt yX2_isDigitAt, Cond.code yX2_isDigitAt cX2_isDigitAt 2 (some .boolean), Cond.methodLink RX2 86 yX2_readNumbered, Cond.instanceMethod yX2_readNumbered, Cond.selects RX2 yX2_readNumbered yX2_readNumbered, Cond.code yX2_readNumbered cX2_readNumbered 4 (some .boolean), Cond.fieldLink RX2 34 "TraitHouse$Reader" "reads" "I", Cond.methodLink RX2 110 yX2_takeNumber, Cond.instanceMethod yX2_takeNumber, Cond.selects RX2 yX2_takeNumber yX2_takeNumber, Cond.code yX2_takeNumber cX2_takeNumber 4 (some .int), Cond.constant RX2 134 (1000001), Cond.methodLink RX2 54 yX2_stop, Cond.instanceMethod yX2_stop, Cond.selects RX2 yX2_stop yX2_stop, Cond.code yX2_stop cX2_stop 1 (some .boolean), Cond.fieldLink RX2 31 "TraitHouse$Reader" "fault" "I", Cond.methodLink RX2 69 yX2_emit, Cond.instanceMethod yX2_emit, Cond.selects RX2 yX2_emit yX2_emit, Cond.code yX2_emit cX2_emit 5 none]
def wsX2_readPart_r5 : List Cond := [Cond.fieldLink RX2 21 "TraitHouse$Reader" "size" "I", Cond.fieldLink RX2 11 "TraitHouse$Reader" "steps" "[LTraitHouse$Step;", Cond.classLink RX2 9 RX4, Cond.instantiable RX4 4, Cond.initialized RX4, Cond.instanceMethod yX4_init, Cond.code yX4_init cX4_init 5 none, Cond.methodLink RX4 1 objectInit, Cond.instanceMethod objectInit, Cond.code objectInit ⟨#[0xb1]⟩ 1 none, Cond.fieldLink RX4 7 "TraitHouse$Step" "kind" "I", Cond.fieldLink RX4 13 "TraitHouse$Step" "number" "I", Cond.fieldLink RX4 16 "TraitHouse$Step" "from" "I", Cond.fieldLink RX4 19 "TraitHouse$Step" "to" "I", Cond.code yX2_readAtom cX2_readAtom 3 (some .boolean), Cond.fieldLink RX2 28 "TraitHouse$Reader" "traitsThere" "I", Cond.methodLink RX2 95 yX2_readBracket, Cond.instanceMethod yX2_readBracket, Cond.selects RX2 yX2_readBracket yX2_readBracket, Cond.methodLink RX2 98 yX2_kindAt, Cond.instanceMethod yX2_kindAt, Cond.selects RX2 yX2_kindAt yX2_kindAt, Cond.code yX2_kindAt cX2_kindAt 1 (some .int), Cond.methodLink RX2 102 yX2_readWindow]
def wsX2_readPart_r6 : List Cond := [Cond.instanceMethod yX2_readWindow, Cond.selects RX2 yX2_readWindow yX2_readWindow, Cond.code yX2_readWindow cX2_readWindow 5 (some .boolean), Cond.fieldLink RX2 37 "TraitHouse$Reader" "leaks" "Z", Cond.methodLink RX2 107 yX2_take, Cond.instanceMethod yX2_take, Cond.selects RX2 yX2_take yX2_take, Cond.code yX2_take cX2_take 2 (some .boolean), Cond.code yX2_readBracket cX2_readBracket 2 (some .boolean), Cond.methodLink RX2 44 yX2_readSum, Cond.instanceMethod yX2_readSum, Cond.selects RX2 yX2_readSum yX2_readSum, Cond.code yX2_readSum cX2_readSum 5 (some .boolean), Cond.methodLink RX2 58 yX2_readTerm, Cond.instanceMethod yX2_readTerm, Cond.selects RX2 yX2_readTerm yX2_readTerm, Cond.code yX2_readTerm cX2_readTerm 5 (some .boolean), Cond.methodLink RX2 73 yX2_readPart, Cond.instanceMethod yX2_readPart, Cond.selects RX2 yX2_readPart yX2_readPart]
def wsX2_readPart : List Cond := .code yX2_readPart cX2_readPart 2 (some .boolean) :: ((wsX2_readPart_r1 ++ (wsX2_readPart_r2 ++ (wsX2_readPart_r3 ++ (wsX2_readPart_r4 ++ (wsX2_readPart_r5 ++ wsX2_readPart_r6))))) ++ wsX20 ++ wsX50 ++ wsX40)
def wsX2_readSum_r1 : List Cond := [Cond.methodLink RX2 58 yX2_readTerm, Cond.instanceMethod yX2_readTerm, Cond.selects RX2 yX2_readTerm yX2_readTerm, Cond.initialized RX2, Cond.methodLink RX2 63 yX2_isAt, Cond.instanceMethod yX2_isAt, Cond.selects RX2 yX2_isAt yX2_isAt, Cond.code yX2_isAt cX2_isAt 4 (some .boolean), Cond.fieldLink RX2 25 "TraitHouse$Reader" "behind" "I", Cond.fieldLink RX2 48 "TraitHouse$Reader" "place" "I", Cond.fieldLink RX2 17 "TraitHouse$Reader" "tape" "LTraitHouse$Tape;", Cond.methodLink RX2 141 yJ0_length_8abf5, Cond.instanceMethod yJ0_length_8abf5, Cond.selects RJ0 yJ0_length_8abf5 yJ0_length_8abf5, Cond.initialized RJ0, Cond.code yJ0_length_8abf5 cJ0_length_8abf5 1 (some .int), Cond.fieldLink RJ0 9 "java/lang/String" "value" "[B", Cond.methodLink RJ0 335 yJ0_coder_7d493, Cond.instanceMethod yJ0_coder_7d493, Cond.selects RJ0 yJ0_coder_7d493 yJ0_coder_7d493, Cond.code yJ0_coder_7d493 cJ0_coder_7d493 1 (some .byte), Cond.fieldLink RJ0 38 "java/lang/String" "COMPACT_STRINGS" "Z", Cond.fieldLink RJ0 15 "java/lang/String" "coder" "B", Cond.methodLink RX2 146 yJ0_charAt_5068e]
def wsX2_readSum_r2 : List Cond := [Cond.instanceMethod yJ0_charAt_5068e, Cond.selects RJ0 yJ0_charAt_5068e yJ0_charAt_5068e, Cond.code yJ0_charAt_5068e cJ0_charAt_5068e 2 (some .char), Cond.methodLink RJ0 492 yJ0_isLatin1_aae02, Cond.instanceMethod yJ0_isLatin1_aae02, Cond.selects RJ0 yJ0_isLatin1_aae02 yJ0_isLatin1_aae02, Cond.code yJ0_isLatin1_aae02 cJ0_isLatin1_aae02 1 (some .boolean), Cond.methodLink RJ0 495 yJ1_charAt_3b067, Cond.static yJ1_charAt_3b067, Cond.initialized RJ1, Cond.code yJ1_charAt_3b067 cJ1_charAt_3b067 2 (some .char), Cond.methodLink RJ1 9 yJ0_checkIndex_df160, Cond.static yJ0_checkIndex_df160, Cond.code yJ0_checkIndex_df160 cJ0_checkIndex_df160 2 none, Cond.fieldLink RJ0 1053 "jdk/internal/util/Preconditions" "SIOOBE_FORMATTER" "Ljava/util/function/BiFunction;", Cond.methodLink RJ0 1059 yJ3_checkIndex_8e157, Cond.static yJ3_checkIndex_8e157, Cond.initialized RJ3, Cond.code yJ3_checkIndex_8e157 cJ3_checkIndex_8e157 3 (some .int), Cond.methodLink RJ0 498 yJ2_charAt_3b067, Cond.static yJ2_charAt_3b067, Cond.initialized RJ2, Cond.code yJ2_charAt_3b067 cJ2_charAt_3b067 2 (some .char), Cond.methodLink RJ2 67 yJ2_checkIndex_2214a]
def wsX2_readSum_r3 : List Cond := [Cond.static yJ2_checkIndex_2214a, Cond.code yJ2_checkIndex_2214a cJ2_checkIndex_2214a 2 none, Cond.methodLink RJ2 48 yJ2_length_9d52b, Cond.static yJ2_length_9d52b, Cond.code yJ2_length_9d52b cJ2_length_9d52b 1 (some .int), Cond.methodLink RJ2 414 yJ0_checkIndex_df160, Cond.methodLink RJ2 71 yJ2_getChar_3b067, Cond.static yJ2_getChar_3b067, Cond.code yJ2_getChar_3b067 cJ2_getChar_3b067 2 (some .char), Cond.fieldLink RJ2 44 "java/lang/StringUTF16" "$assertionsDisabled" "Z", Cond.fieldLink RJ2 59 "java/lang/StringUTF16" "HI_BYTE_SHIFT" "I", Cond.fieldLink RJ2 63 "java/lang/StringUTF16" "LO_BYTE_SHIFT" "I", Cond.methodLink RX2 41 yX2_advance, Cond.instanceMethod yX2_advance, Cond.selects RX2 yX2_advance yX2_advance, Cond.code yX2_advance cX2_advance 3 none, Cond.methodLink RX2 150 Lib.Math.min.name, Cond.static Lib.Math.min.name, Cond.initialized "java/lang/Math", Cond.code Lib.Math.min.name Lib.Math.min.code 2 (some .int), Cond.methodLink RX2 156 yX2_isLetterAt, Cond.instanceMethod yX2_isLetterAt, Cond.selects RX2 yX2_isLetterAt yX2_isLetterAt, Cond.code yX2_isLetterAt cX2_isLetterAt 2 (some .boolean)]
def wsX2_readSum_r4 : List Cond := [Cond.methodLink RX2 90 yX2_isDigitAt, Cond.instanceMethod yX2_isDigitAt, Cond.selects RX2 yX2_isDigitAt yX2_isDigitAt, Cond.code yX2_isDigitAt cX2_isDigitAt 2 (some .boolean), Cond.methodLink RX2 69 yX2_emit, Cond.instanceMethod yX2_emit, Cond.selects RX2 yX2_emit yX2_emit, Cond.code yX2_emit cX2_emit 5 none, Cond.fieldLink RX2 21 "TraitHouse$Reader" "size" "I", Cond.fieldLink RX2 11 "TraitHouse$Reader" "steps" "[LTraitHouse$Step;", Cond.classLink RX2 9 RX4, Cond.instantiable RX4 4, Cond.initialized RX4, Cond.instanceMethod yX4_init, Cond.code yX4_init cX4_init 5 none, Cond.methodLink RX4 1 objectInit, Cond.instanceMethod objectInit, Cond.code objectInit ⟨#[0xb1]⟩ 1 none, Cond.fieldLink RX4 7 "TraitHouse$Step" "kind" "I", Cond.fieldLink RX4 13 "TraitHouse$Step" "number" "I", Cond.fieldLink RX4 16 "TraitHouse$Step" "from" "I", Cond.fieldLink RX4 19 "TraitHouse$Step" "to" "I", Cond.code yX2_readAtom cX2_readAtom 3 (some .boolean), Cond.constant RX2 85 (1000000)]
def wsX2_readSum_r5 : List Cond := [Cond.fieldLink RX2 28 "TraitHouse$Reader" "traitsThere" "I", Cond.methodLink RX2 86 yX2_readNumbered, Cond.instanceMethod yX2_readNumbered, Cond.selects RX2 yX2_readNumbered yX2_readNumbered, Cond.code yX2_readNumbered cX2_readNumbered 4 (some .boolean), Cond.fieldLink RX2 34 "TraitHouse$Reader" "reads" "I", Cond.methodLink RX2 110 yX2_takeNumber, Cond.instanceMethod yX2_takeNumber, Cond.selects RX2 yX2_takeNumber yX2_takeNumber, Cond.code yX2_takeNumber cX2_takeNumber 4 (some .int), Cond.constant RX2 134 (1000001), Cond.methodLink RX2 54 yX2_stop, Cond.instanceMethod yX2_stop, Cond.selects RX2 yX2_stop yX2_stop, Cond.code yX2_stop cX2_stop 1 (some .boolean), Cond.fieldLink RX2 31 "TraitHouse$Reader" "fault" "I", Cond.methodLink RX2 95 yX2_readBracket, Cond.instanceMethod yX2_readBracket, Cond.selects RX2 yX2_readBracket yX2_readBracket, Cond.methodLink RX2 98 yX2_kindAt, Cond.instanceMethod yX2_kindAt, Cond.selects RX2 yX2_kindAt yX2_kindAt, Cond.code yX2_kindAt cX2_kindAt 1 (some .int), Cond.methodLink RX2 102 yX2_readWindow]
def wsX2_readSum_r6 : List Cond := [Cond.instanceMethod yX2_readWindow, Cond.selects RX2 yX2_readWindow yX2_readWindow, Cond.code yX2_readWindow cX2_readWindow 5 (some .boolean), Cond.fieldLink RX2 37 "TraitHouse$Reader" "leaks" "Z", Cond.methodLink RX2 107 yX2_take, Cond.instanceMethod yX2_take, Cond.selects RX2 yX2_take yX2_take, Cond.code yX2_take cX2_take 2 (some .boolean), Cond.code yX2_readBracket cX2_readBracket 2 (some .boolean), Cond.methodLink RX2 44 yX2_readSum, Cond.instanceMethod yX2_readSum, Cond.selects RX2 yX2_readSum yX2_readSum, Cond.code yX2_readPart cX2_readPart 2 (some .boolean), Cond.methodLink RX2 80 yX2_readAtom, Cond.instanceMethod yX2_readAtom, Cond.selects RX2 yX2_readAtom yX2_readAtom, Cond.code yX2_readTerm cX2_readTerm 5 (some .boolean), Cond.methodLink RX2 73 yX2_readPart, Cond.instanceMethod yX2_readPart, Cond.selects RX2 yX2_readPart yX2_readPart]
def wsX2_readSum : List Cond := .code yX2_readSum cX2_readSum 5 (some .boolean) :: ((wsX2_readSum_r1 ++ (wsX2_readSum_r2 ++ (wsX2_readSum_r3 ++ (wsX2_readSum_r4 ++ (wsX2_readSum_r5 ++ wsX2_readSum_r6))))) ++ wsX20 ++ wsX50 ++ wsX40)
def wsX2_readTerm_r1 : List Cond := [Cond.methodLink RX2 73 yX2_readPart, Cond.instanceMethod yX2_readPart, Cond.selects RX2 yX2_readPart yX2_readPart, Cond.initialized RX2, Cond.methodLink RX2 63 yX2_isAt, Cond.instanceMethod yX2_isAt, Cond.selects RX2 yX2_isAt yX2_isAt, Cond.code yX2_isAt cX2_isAt 4 (some .boolean), Cond.fieldLink RX2 25 "TraitHouse$Reader" "behind" "I", Cond.fieldLink RX2 48 "TraitHouse$Reader" "place" "I", Cond.fieldLink RX2 17 "TraitHouse$Reader" "tape" "LTraitHouse$Tape;", Cond.methodLink RX2 141 yJ0_length_8abf5, Cond.instanceMethod yJ0_length_8abf5, Cond.selects RJ0 yJ0_length_8abf5 yJ0_length_8abf5, Cond.initialized RJ0, Cond.code yJ0_length_8abf5 cJ0_length_8abf5 1 (some .int), Cond.fieldLink RJ0 9 "java/lang/String" "value" "[B", Cond.methodLink RJ0 335 yJ0_coder_7d493, Cond.instanceMethod yJ0_coder_7d493, Cond.selects RJ0 yJ0_coder_7d493 yJ0_coder_7d493, Cond.code yJ0_coder_7d493 cJ0_coder_7d493 1 (some .byte), Cond.fieldLink RJ0 38 "java/lang/String" "COMPACT_STRINGS" "Z", Cond.fieldLink RJ0 15 "java/lang/String" "coder" "B", Cond.methodLink RX2 146 yJ0_charAt_5068e]
def wsX2_readTerm_r2 : List Cond := [Cond.instanceMethod yJ0_charAt_5068e, Cond.selects RJ0 yJ0_charAt_5068e yJ0_charAt_5068e, Cond.code yJ0_charAt_5068e cJ0_charAt_5068e 2 (some .char), Cond.methodLink RJ0 492 yJ0_isLatin1_aae02, Cond.instanceMethod yJ0_isLatin1_aae02, Cond.selects RJ0 yJ0_isLatin1_aae02 yJ0_isLatin1_aae02, Cond.code yJ0_isLatin1_aae02 cJ0_isLatin1_aae02 1 (some .boolean), Cond.methodLink RJ0 495 yJ1_charAt_3b067, Cond.static yJ1_charAt_3b067, Cond.initialized RJ1, Cond.code yJ1_charAt_3b067 cJ1_charAt_3b067 2 (some .char), Cond.methodLink RJ1 9 yJ0_checkIndex_df160, Cond.static yJ0_checkIndex_df160, Cond.code yJ0_checkIndex_df160 cJ0_checkIndex_df160 2 none, Cond.fieldLink RJ0 1053 "jdk/internal/util/Preconditions" "SIOOBE_FORMATTER" "Ljava/util/function/BiFunction;", Cond.methodLink RJ0 1059 yJ3_checkIndex_8e157, Cond.static yJ3_checkIndex_8e157, Cond.initialized RJ3, Cond.code yJ3_checkIndex_8e157 cJ3_checkIndex_8e157 3 (some .int), Cond.methodLink RJ0 498 yJ2_charAt_3b067, Cond.static yJ2_charAt_3b067, Cond.initialized RJ2, Cond.code yJ2_charAt_3b067 cJ2_charAt_3b067 2 (some .char), Cond.methodLink RJ2 67 yJ2_checkIndex_2214a]
def wsX2_readTerm_r3 : List Cond := [Cond.static yJ2_checkIndex_2214a, Cond.code yJ2_checkIndex_2214a cJ2_checkIndex_2214a 2 none, Cond.methodLink RJ2 48 yJ2_length_9d52b, Cond.static yJ2_length_9d52b, Cond.code yJ2_length_9d52b cJ2_length_9d52b 1 (some .int), Cond.methodLink RJ2 414 yJ0_checkIndex_df160, Cond.methodLink RJ2 71 yJ2_getChar_3b067, Cond.static yJ2_getChar_3b067, Cond.code yJ2_getChar_3b067 cJ2_getChar_3b067 2 (some .char), Cond.fieldLink RJ2 44 "java/lang/StringUTF16" "$assertionsDisabled" "Z", Cond.fieldLink RJ2 59 "java/lang/StringUTF16" "HI_BYTE_SHIFT" "I", Cond.fieldLink RJ2 63 "java/lang/StringUTF16" "LO_BYTE_SHIFT" "I", Cond.methodLink RX2 41 yX2_advance, Cond.instanceMethod yX2_advance, Cond.selects RX2 yX2_advance yX2_advance, Cond.code yX2_advance cX2_advance 3 none, Cond.methodLink RX2 150 Lib.Math.min.name, Cond.static Lib.Math.min.name, Cond.initialized "java/lang/Math", Cond.code Lib.Math.min.name Lib.Math.min.code 2 (some .int), Cond.methodLink RX2 156 yX2_isLetterAt, Cond.instanceMethod yX2_isLetterAt, Cond.selects RX2 yX2_isLetterAt yX2_isLetterAt, Cond.code yX2_isLetterAt cX2_isLetterAt 2 (some .boolean)]
def wsX2_readTerm_r4 : List Cond := [Cond.methodLink RX2 90 yX2_isDigitAt, Cond.instanceMethod yX2_isDigitAt, Cond.selects RX2 yX2_isDigitAt yX2_isDigitAt, Cond.code yX2_isDigitAt cX2_isDigitAt 2 (some .boolean), Cond.methodLink RX2 69 yX2_emit, Cond.instanceMethod yX2_emit, Cond.selects RX2 yX2_emit yX2_emit, Cond.code yX2_emit cX2_emit 5 none, Cond.fieldLink RX2 21 "TraitHouse$Reader" "size" "I", Cond.fieldLink RX2 11 "TraitHouse$Reader" "steps" "[LTraitHouse$Step;", Cond.classLink RX2 9 RX4, Cond.instantiable RX4 4, Cond.initialized RX4, Cond.instanceMethod yX4_init, Cond.code yX4_init cX4_init 5 none, Cond.methodLink RX4 1 objectInit, Cond.instanceMethod objectInit, Cond.code objectInit ⟨#[0xb1]⟩ 1 none, Cond.fieldLink RX4 7 "TraitHouse$Step" "kind" "I", Cond.fieldLink RX4 13 "TraitHouse$Step" "number" "I", Cond.fieldLink RX4 16 "TraitHouse$Step" "from" "I", Cond.fieldLink RX4 19 "TraitHouse$Step" "to" "I", Cond.code yX2_readAtom cX2_readAtom 3 (some .boolean), Cond.constant RX2 85 (1000000)]
def wsX2_readTerm_r5 : List Cond := [Cond.fieldLink RX2 28 "TraitHouse$Reader" "traitsThere" "I", Cond.methodLink RX2 86 yX2_readNumbered, Cond.instanceMethod yX2_readNumbered, Cond.selects RX2 yX2_readNumbered yX2_readNumbered, Cond.code yX2_readNumbered cX2_readNumbered 4 (some .boolean), Cond.fieldLink RX2 34 "TraitHouse$Reader" "reads" "I", Cond.methodLink RX2 110 yX2_takeNumber, Cond.instanceMethod yX2_takeNumber, Cond.selects RX2 yX2_takeNumber yX2_takeNumber, Cond.code yX2_takeNumber cX2_takeNumber 4 (some .int), Cond.constant RX2 134 (1000001), Cond.methodLink RX2 54 yX2_stop, Cond.instanceMethod yX2_stop, Cond.selects RX2 yX2_stop yX2_stop, Cond.code yX2_stop cX2_stop 1 (some .boolean), Cond.fieldLink RX2 31 "TraitHouse$Reader" "fault" "I", Cond.methodLink RX2 95 yX2_readBracket, Cond.instanceMethod yX2_readBracket, Cond.selects RX2 yX2_readBracket yX2_readBracket, Cond.methodLink RX2 98 yX2_kindAt, Cond.instanceMethod yX2_kindAt, Cond.selects RX2 yX2_kindAt yX2_kindAt, Cond.code yX2_kindAt cX2_kindAt 1 (some .int), Cond.methodLink RX2 102 yX2_readWindow]
def wsX2_readTerm_r6 : List Cond := [Cond.instanceMethod yX2_readWindow, Cond.selects RX2 yX2_readWindow yX2_readWindow, Cond.code yX2_readWindow cX2_readWindow 5 (some .boolean), Cond.fieldLink RX2 37 "TraitHouse$Reader" "leaks" "Z", Cond.methodLink RX2 107 yX2_take, Cond.instanceMethod yX2_take, Cond.selects RX2 yX2_take yX2_take, Cond.code yX2_take cX2_take 2 (some .boolean), Cond.code yX2_readBracket cX2_readBracket 2 (some .boolean), Cond.methodLink RX2 44 yX2_readSum, Cond.instanceMethod yX2_readSum, Cond.selects RX2 yX2_readSum yX2_readSum, Cond.code yX2_readPart cX2_readPart 2 (some .boolean), Cond.methodLink RX2 80 yX2_readAtom, Cond.instanceMethod yX2_readAtom, Cond.selects RX2 yX2_readAtom yX2_readAtom, Cond.code yX2_readSum cX2_readSum 5 (some .boolean), Cond.methodLink RX2 58 yX2_readTerm, Cond.instanceMethod yX2_readTerm, Cond.selects RX2 yX2_readTerm yX2_readTerm]
def wsX2_readTerm : List Cond := .code yX2_readTerm cX2_readTerm 5 (some .boolean) :: ((wsX2_readTerm_r1 ++ (wsX2_readTerm_r2 ++ (wsX2_readTerm_r3 ++ (wsX2_readTerm_r4 ++ (wsX2_readTerm_r5 ++ wsX2_readTerm_r6))))) ++ wsX20 ++ wsX50 ++ wsX40)
def wsX2_read_r1 : List Cond := [Cond.fieldLink RX2 21 "TraitHouse$Reader" "size" "I", Cond.fieldLink RX2 25 "TraitHouse$Reader" "behind" "I", Cond.fieldLink RX2 28 "TraitHouse$Reader" "traitsThere" "I", Cond.fieldLink RX2 31 "TraitHouse$Reader" "fault" "I", Cond.fieldLink RX2 34 "TraitHouse$Reader" "reads" "I", Cond.fieldLink RX2 37 "TraitHouse$Reader" "leaks" "Z", Cond.fieldLink RX2 48 "TraitHouse$Reader" "place" "I", Cond.fieldLink RX2 17 "TraitHouse$Reader" "tape" "LTraitHouse$Tape;", Cond.methodLink RX2 41 yX2_advance, Cond.instanceMethod yX2_advance, Cond.selects RX2 yX2_advance yX2_advance, Cond.initialized RX2, Cond.code yX2_advance cX2_advance 3 none, Cond.methodLink RX2 150 Lib.Math.min.name, Cond.static Lib.Math.min.name, Cond.initialized "java/lang/Math", Cond.code Lib.Math.min.name Lib.Math.min.code 2 (some .int), Cond.methodLink RX2 156 yX2_isLetterAt, Cond.instanceMethod yX2_isLetterAt, Cond.selects RX2 yX2_isLetterAt yX2_isLetterAt, Cond.code yX2_isLetterAt cX2_isLetterAt 2 (some .boolean), Cond.methodLink RX2 90 yX2_isDigitAt, Cond.instanceMethod yX2_isDigitAt, Cond.selects RX2 yX2_isDigitAt yX2_isDigitAt]
def wsX2_read_r2 : List Cond := [Cond.code yX2_isDigitAt cX2_isDigitAt 2 (some .boolean), Cond.methodLink RX2 44 yX2_readSum, Cond.instanceMethod yX2_readSum, Cond.selects RX2 yX2_readSum yX2_readSum, Cond.code yX2_readSum cX2_readSum 5 (some .boolean), Cond.methodLink RX2 58 yX2_readTerm, Cond.instanceMethod yX2_readTerm, Cond.selects RX2 yX2_readTerm yX2_readTerm, Cond.methodLink RX2 63 yX2_isAt, Cond.instanceMethod yX2_isAt, Cond.selects RX2 yX2_isAt yX2_isAt, Cond.code yX2_isAt cX2_isAt 4 (some .boolean), Cond.methodLink RX2 141 yJ0_length_8abf5, Cond.instanceMethod yJ0_length_8abf5, Cond.selects RJ0 yJ0_length_8abf5 yJ0_length_8abf5, Cond.initialized RJ0, Cond.code yJ0_length_8abf5 cJ0_length_8abf5 1 (some .int), Cond.fieldLink RJ0 9 "java/lang/String" "value" "[B", Cond.methodLink RJ0 335 yJ0_coder_7d493, Cond.instanceMethod yJ0_coder_7d493, Cond.selects RJ0 yJ0_coder_7d493 yJ0_coder_7d493, Cond.code yJ0_coder_7d493 cJ0_coder_7d493 1 (some .byte), Cond.fieldLink RJ0 38 "java/lang/String" "COMPACT_STRINGS" "Z", Cond.fieldLink RJ0 15 "java/lang/String" "coder" "B"]
def wsX2_read_r3 : List Cond := [Cond.methodLink RX2 146 yJ0_charAt_5068e, Cond.instanceMethod yJ0_charAt_5068e, Cond.selects RJ0 yJ0_charAt_5068e yJ0_charAt_5068e, Cond.code yJ0_charAt_5068e cJ0_charAt_5068e 2 (some .char), Cond.methodLink RJ0 492 yJ0_isLatin1_aae02, Cond.instanceMethod yJ0_isLatin1_aae02, Cond.selects RJ0 yJ0_isLatin1_aae02 yJ0_isLatin1_aae02, Cond.code yJ0_isLatin1_aae02 cJ0_isLatin1_aae02 1 (some .boolean), Cond.methodLink RJ0 495 yJ1_charAt_3b067, Cond.static yJ1_charAt_3b067, Cond.initialized RJ1, Cond.code yJ1_charAt_3b067 cJ1_charAt_3b067 2 (some .char), Cond.methodLink RJ1 9 yJ0_checkIndex_df160, Cond.static yJ0_checkIndex_df160, Cond.code yJ0_checkIndex_df160 cJ0_checkIndex_df160 2 none, Cond.fieldLink RJ0 1053 "jdk/internal/util/Preconditions" "SIOOBE_FORMATTER" "Ljava/util/function/BiFunction;", Cond.methodLink RJ0 1059 yJ3_checkIndex_8e157, Cond.static yJ3_checkIndex_8e157, Cond.initialized RJ3, Cond.code yJ3_checkIndex_8e157 cJ3_checkIndex_8e157 3 (some .int), Cond.methodLink RJ0 498 yJ2_charAt_3b067, Cond.static yJ2_charAt_3b067, Cond.initialized RJ2, Cond.code yJ2_charAt_3b067 cJ2_charAt_3b067 2 (some .char)]
def wsX2_read_r4 : List Cond := [Cond.methodLink RJ2 67 yJ2_checkIndex_2214a, Cond.static yJ2_checkIndex_2214a, Cond.code yJ2_checkIndex_2214a cJ2_checkIndex_2214a 2 none, Cond.methodLink RJ2 48 yJ2_length_9d52b, Cond.static yJ2_length_9d52b, Cond.code yJ2_length_9d52b cJ2_length_9d52b 1 (some .int), Cond.methodLink RJ2 414 yJ0_checkIndex_df160, Cond.methodLink RJ2 71 yJ2_getChar_3b067, Cond.static yJ2_getChar_3b067, Cond.code yJ2_getChar_3b067 cJ2_getChar_3b067 2 (some .char), Cond.fieldLink RJ2 44 "java/lang/StringUTF16" "$assertionsDisabled" "Z", Cond.fieldLink RJ2 59 "java/lang/StringUTF16" "HI_BYTE_SHIFT" "I", Cond.fieldLink RJ2 63 "java/lang/StringUTF16" "LO_BYTE_SHIFT" "I", Cond.methodLink RX2 69 yX2_emit, Cond.instanceMethod yX2_emit, Cond.selects RX2 yX2_emit yX2_emit, Cond.code yX2_emit cX2_emit 5 none, Cond.fieldLink RX2 11 "TraitHouse$Reader" "steps" "[LTraitHouse$Step;", Cond.classLink RX2 9 RX4, Cond.instantiable RX4 4, Cond.initialized RX4, Cond.instanceMethod yX4_init, Cond.code yX4_init cX4_init 5 none, Cond.methodLink RX4 1 objectInit]
def wsX2_read_r5 : List Cond := [Cond.instanceMethod objectInit, Cond.code objectInit ⟨#[0xb1]⟩ 1 none, Cond.fieldLink RX4 7 "TraitHouse$Step" "kind" "I", Cond.fieldLink RX4 13 "TraitHouse$Step" "number" "I", Cond.fieldLink RX4 16 "TraitHouse$Step" "from" "I", Cond.fieldLink RX4 19 "TraitHouse$Step" "to" "I", Cond.code yX2_readAtom cX2_readAtom 3 (some .boolean), Cond.constant RX2 85 (1000000), Cond.methodLink RX2 86 yX2_readNumbered, Cond.instanceMethod yX2_readNumbered, Cond.selects RX2 yX2_readNumbered yX2_readNumbered, Cond.code yX2_readNumbered cX2_readNumbered 4 (some .boolean), Cond.methodLink RX2 110 yX2_takeNumber, Cond.instanceMethod yX2_takeNumber, Cond.selects RX2 yX2_takeNumber yX2_takeNumber, Cond.code yX2_takeNumber cX2_takeNumber 4 (some .int), Cond.constant RX2 134 (1000001), Cond.methodLink RX2 54 yX2_stop, Cond.instanceMethod yX2_stop, Cond.selects RX2 yX2_stop yX2_stop, Cond.code yX2_stop cX2_stop 1 (some .boolean), Cond.methodLink RX2 95 yX2_readBracket, Cond.instanceMethod yX2_readBracket, Cond.selects RX2 yX2_readBracket yX2_readBracket]
def wsX2_read_r6 : List Cond := [Cond.methodLink RX2 98 yX2_kindAt, Cond.instanceMethod yX2_kindAt, Cond.selects RX2 yX2_kindAt yX2_kindAt, Cond.code yX2_kindAt cX2_kindAt 1 (some .int), Cond.methodLink RX2 102 yX2_readWindow, Cond.instanceMethod yX2_readWindow, Cond.selects RX2 yX2_readWindow yX2_readWindow, Cond.code yX2_readWindow cX2_readWindow 5 (some .boolean), Cond.methodLink RX2 107 yX2_take, Cond.instanceMethod yX2_take, Cond.selects RX2 yX2_take yX2_take, Cond.code yX2_take cX2_take 2 (some .boolean), Cond.code yX2_readBracket cX2_readBracket 2 (some .boolean), Cond.code yX2_readPart cX2_readPart 2 (some .boolean), Cond.methodLink RX2 80 yX2_readAtom, Cond.instanceMethod yX2_readAtom, Cond.selects RX2 yX2_readAtom yX2_readAtom, Cond.code yX2_readTerm cX2_readTerm 5 (some .boolean), Cond.methodLink RX2 73 yX2_readPart, Cond.instanceMethod yX2_readPart, Cond.selects RX2 yX2_readPart yX2_readPart]
def wsX2_read : List Cond := .code yX2_read cX2_read 2 (some .int) :: ((wsX2_read_r1 ++ (wsX2_read_r2 ++ (wsX2_read_r3 ++ (wsX2_read_r4 ++ (wsX2_read_r5 ++ wsX2_read_r6))))) ++ wsX20 ++ wsX50 ++ wsX40)
def wsX2_stepsRead : List Cond := .code yX2_stepsRead cX2_stepsRead 3 (some (.array (.object "TraitHouse$Step"))) :: ([.fieldLink RX2 21 "TraitHouse$Reader" "size" "I", .classLink RX2 9 RX4, .fieldLink RX2 11 "TraitHouse$Reader" "steps" "[LTraitHouse$Step;"] ++ wsX20)
def wsX3_init : List Cond := .code yX3_init cX3_init 1 none :: ([.methodLink RX3 3 objectInit, .instanceMethod objectInit, .code objectInit ⟨#[0xb1]⟩ 1 none, .arrayClass .int, .fieldLink RX3 9 "TraitHouse$Rows" "people" "[I", .fieldLink RX3 15 "TraitHouse$Rows" "streams" "[I", .fieldLink RX3 18 "TraitHouse$Rows" "moments" "[I", .fieldLink RX3 21 "TraitHouse$Rows" "knowns" "[I", .fieldLink RX3 24 "TraitHouse$Rows" "values" "[I"] ++ wsX30)
def wsX3_isFull : List Cond := .code yX3_isFull cX3_isFull 1 (some .boolean) :: ([.fieldLink RX3 27 "TraitHouse$Rows" "size" "I"] ++ wsX30)
def wsX3_add : List Cond := .code yX3_add cX3_add 6 (some .int) :: ([.fieldLink RX3 9 "TraitHouse$Rows" "people" "[I", .fieldLink RX3 27 "TraitHouse$Rows" "size" "I", .fieldLink RX3 15 "TraitHouse$Rows" "streams" "[I", .fieldLink RX3 18 "TraitHouse$Rows" "moments" "[I", .fieldLink RX3 21 "TraitHouse$Rows" "knowns" "[I", .fieldLink RX3 24 "TraitHouse$Rows" "values" "[I", .fieldLink RX3 35 "TraitHouse$Rows" "nextNumber" "I", .methodLink RX3 31 yX3_isFull, .instanceMethod yX3_isFull, .selects RX3 yX3_isFull yX3_isFull, .initialized RX3, .code yX3_isFull cX3_isFull 1 (some .boolean)] ++ wsX30)
def wsX3_move : List Cond := .code yX3_move cX3_move 3 none :: ([.fieldLink RX3 9 "TraitHouse$Rows" "people" "[I", .fieldLink RX3 15 "TraitHouse$Rows" "streams" "[I", .fieldLink RX3 18 "TraitHouse$Rows" "moments" "[I", .fieldLink RX3 21 "TraitHouse$Rows" "knowns" "[I", .fieldLink RX3 24 "TraitHouse$Rows" "values" "[I"] ++ wsX30)
def wsX3_drop : List Cond := .code yX3_drop cX3_drop 4 (some .int) :: ([.fieldLink RX3 27 "TraitHouse$Rows" "size" "I", .fieldLink RX3 9 "TraitHouse$Rows" "people" "[I", .methodLink RX3 38 yX3_move, .instanceMethod yX3_move, .selects RX3 yX3_move yX3_move, .initialized RX3, .code yX3_move cX3_move 3 none, .fieldLink RX3 15 "TraitHouse$Rows" "streams" "[I", .fieldLink RX3 18 "TraitHouse$Rows" "moments" "[I", .fieldLink RX3 21 "TraitHouse$Rows" "knowns" "[I", .fieldLink RX3 24 "TraitHouse$Rows" "values" "[I"] ++ wsX30)
def wsX5_init : List Cond := .code yX5_init cX5_init 1 none :: ([.methodLink RX5 3 objectInit, .instanceMethod objectInit, .code objectInit ⟨#[0xb1]⟩ 1 none, .arrayClass .int, .fieldLink RX5 9 "TraitHouse$Tape" "bytes" "[I"] ++ wsX50)
def wsX5_append : List Cond := .code yX5_append cX5_append 3 none :: ([.fieldLink RX5 15 "TraitHouse$Tape" "size" "I", .fieldLink RX5 9 "TraitHouse$Tape" "bytes" "[I"] ++ wsX50)
def wsJ7_fill_d0a16 : List Cond := .code yJ7_fill_d0a16 cJ7_fill_d0a16 5 none :: ([])
def wsX6_init : List Cond := .code yX6_init cX6_init 3 none :: ([.methodLink RX6 3 objectInit, .instanceMethod objectInit, .code objectInit ⟨#[0xb1]⟩ 1 none, .arrayClass .long, .fieldLink RX6 9 "TraitHouse$Trait" "keptValues" "[J", .arrayClass .int, .fieldLink RX6 15 "TraitHouse$Trait" "keptMoments" "[I", .constantLong RX6 19 (-1000000000000), .fieldLink RX6 21 "TraitHouse$Trait" "lawFrom" "J", .constantLong RX6 25 (1000000000000), .fieldLink RX6 27 "TraitHouse$Trait" "lawTo" "J", .constant RX6 30 (100000), .fieldLink RX6 31 "TraitHouse$Trait" "staleAbove" "I", .fieldLink RX6 35 "TraitHouse$Trait" "steps" "[LTraitHouse$Step;", .fieldLink RX6 39 "TraitHouse$Trait" "needs" "I", .constantLong RX6 42 (-9000000000000000000), .methodLink RX6 44 yJ7_fill_d0a16, .static yJ7_fill_d0a16, .initialized RJ7, .code yJ7_fill_d0a16 cJ7_fill_d0a16 5 none, .methodLink RX6 50 yJ7_fill_53178, .static yJ7_fill_53178, .code yJ7_fill_53178 cJ7_fill_53178 4 none] ++ wsX60)
def wsX6_isOutside : List Cond := .code yX6_isOutside cX6_isOutside 3 (some .boolean) :: ([.constantLong RX6 42 (-9000000000000000000), .fieldLink RX6 21 "TraitHouse$Trait" "lawFrom" "J", .fieldLink RX6 27 "TraitHouse$Trait" "lawTo" "J"] ++ wsX60)
def wsX6_keep : List Cond := .code yX6_keep cX6_keep 5 none :: ([.fieldLink RX6 9 "TraitHouse$Trait" "keptValues" "[J", .fieldLink RX6 15 "TraitHouse$Trait" "keptMoments" "[I"] ++ wsX60)
def wsX6_forget : List Cond := .code yX6_forget cX6_forget 2 none :: ([.constantLong RX6 42 (-9000000000000000000), .methodLink RX6 53 yX6_keep, .instanceMethod yX6_keep, .selects RX6 yX6_keep yX6_keep, .initialized RX6, .code yX6_keep cX6_keep 5 none, .fieldLink RX6 9 "TraitHouse$Trait" "keptValues" "[J", .fieldLink RX6 15 "TraitHouse$Trait" "keptMoments" "[I"] ++ wsX60)
def wsX6_isKept : List Cond := .code yX6_isKept cX6_isKept 2 (some .boolean) :: ([.fieldLink RX6 15 "TraitHouse$Trait" "keptMoments" "[I"] ++ wsX60)
def wsX6_isStale : List Cond := .code yX6_isStale cX6_isStale 3 (some .boolean) :: ([.fieldLink RX6 15 "TraitHouse$Trait" "keptMoments" "[I", .fieldLink RX6 31 "TraitHouse$Trait" "staleAbove" "I"] ++ wsX60)
def wsX6_isMissing : List Cond := .code yX6_isMissing cX6_isMissing 3 (some .boolean) :: ([.fieldLink RX6 9 "TraitHouse$Trait" "keptValues" "[J", .constantLong RX6 42 (-9000000000000000000), .methodLink RX6 57 yX6_isKept, .instanceMethod yX6_isKept, .selects RX6 yX6_isKept yX6_isKept, .initialized RX6, .code yX6_isKept cX6_isKept 2 (some .boolean), .fieldLink RX6 15 "TraitHouse$Trait" "keptMoments" "[I", .methodLink RX6 61 yX6_isStale, .instanceMethod yX6_isStale, .selects RX6 yX6_isStale yX6_isStale, .code yX6_isStale cX6_isStale 3 (some .boolean), .fieldLink RX6 31 "TraitHouse$Trait" "staleAbove" "I"] ++ wsX60)
def wsX7_init : List Cond := .code yX7_init cX7_init 4 none :: ([.methodLink RX7 3 objectInit, .instanceMethod objectInit, .code objectInit ⟨#[0xb1]⟩ 1 none, .arrayClass .boolean, .fieldLink RX7 9 "TraitHouse$Worker" "ones" "[Z", .arrayClass .int, .fieldLink RX7 15 "TraitHouse$Worker" "seen" "[I", .arrayClass .long, .fieldLink RX7 19 "TraitHouse$Worker" "stack" "[J", .fieldLink RX7 23 "TraitHouse$Worker" "values" "[J", .fieldLink RX7 26 "TraitHouse$Worker" "rows" "LTraitHouse$Rows;", .fieldLink RX7 30 "TraitHouse$Worker" "merges" "LTraitHouse$Merges;", .fieldLink RX7 34 "TraitHouse$Worker" "traits" "[LTraitHouse$Trait;"] ++ wsX70)
def wsX7_look : List Cond := .code yX7_look cX7_look 6 none :: ([.fieldLink RX7 30 "TraitHouse$Worker" "merges" "LTraitHouse$Merges;", .fieldLink RX7 9 "TraitHouse$Worker" "ones" "[Z", .fieldLink RX7 68 "TraitHouse$Worker" "moment" "I", .fieldLink RX7 71 "TraitHouse$Worker" "seenRows" "I", .fieldLink RX7 26 "TraitHouse$Worker" "rows" "LTraitHouse$Rows;", .fieldLink RX7 15 "TraitHouse$Worker" "seen" "[I", .instanceMethod yX0_lastOf, .initialized RX0, .selects RX0 yX0_lastOf yX0_lastOf, .code yX0_lastOf cX0_lastOf 5 (some .int), .fieldLink RX0 15 "TraitHouse$Merges" "knowns" "[I", .fieldLink RX0 9 "TraitHouse$Merges" "targets" "[I", .methodLink RX0 28 yX0_isTold, .instanceMethod yX0_isTold, .selects RX0 yX0_isTold yX0_isTold, .code yX0_isTold cX0_isTold 2 (some .boolean)] ++ wsX70 ++ wsX30 ++ wsX00)
def wsX8_hasBit : List Cond := .code yX8_hasBit cX8_hasBit 2 (some .boolean) :: ([])
def wsX7_push : List Cond := .code yX7_push cX7_push 3 none :: ([.fieldLink RX7 88 "TraitHouse$Worker" "top" "I", .fieldLink RX7 19 "TraitHouse$Worker" "stack" "[J", .methodLink RX7 153 Lib.MathLoose.abs_long.x, .static Lib.MathLoose.abs_long.x, .initialized "java/lang/Math", .code Lib.MathLoose.abs_long.x Lib.MathLoose.abs_long.code 2 (some .long), .constantLong RX7 157 (1000000000000), .constantLong RX7 38 (-9000000000000000000)] ++ wsX70)
def wsX7_latest : List Cond := .code yX7_latest cX7_latest 5 (some .long) :: ([.fieldLink RX7 71 "TraitHouse$Worker" "seenRows" "I", .fieldLink RX7 15 "TraitHouse$Worker" "seen" "[I", .fieldLink RX7 26 "TraitHouse$Worker" "rows" "LTraitHouse$Rows;", .constantLong RX7 38 (-9000000000000000000), .fieldLink RX7 68 "TraitHouse$Worker" "moment" "I"] ++ wsX70 ++ wsX30 ++ wsX40)
def wsX7_isWithin : List Cond := .code yX7_isWithin cX7_isWithin 3 (some .boolean) :: ([.fieldLink RX7 68 "TraitHouse$Worker" "moment" "I"] ++ wsX70 ++ wsX40)
def wsX7_window : List Cond := .code yX7_window cX7_window 11 (some .long) :: ([.constantLong RX7 127 (1000000), .constantLong RX7 129 (-1000000), .fieldLink RX7 71 "TraitHouse$Worker" "seenRows" "I", .fieldLink RX7 15 "TraitHouse$Worker" "seen" "[I", .fieldLink RX7 26 "TraitHouse$Worker" "rows" "LTraitHouse$Rows;", .methodLink RX7 135 Lib.MathLoose.min_long.x, .static Lib.MathLoose.min_long.x, .initialized "java/lang/Math", .code Lib.MathLoose.min_long.x Lib.MathLoose.min_long.code 4 (some .long), .methodLink RX7 141 Lib.MathLoose.max_long.x, .static Lib.MathLoose.max_long.x, .code Lib.MathLoose.max_long.x Lib.MathLoose.max_long.code 4 (some .long), .constantLong RX7 38 (-9000000000000000000), .methodLink RX7 131 yX7_isWithin, .instanceMethod yX7_isWithin, .selects RX7 yX7_isWithin yX7_isWithin, .initialized RX7, .code yX7_isWithin cX7_isWithin 3 (some .boolean), .fieldLink RX7 68 "TraitHouse$Worker" "moment" "I"] ++ wsX70 ++ wsX30 ++ wsX40)
def wsX7_pop : List Cond := .code yX7_pop cX7_pop 1 (some .long) :: ([.fieldLink RX7 88 "TraitHouse$Worker" "top" "I", .constantLong RX7 38 (-9000000000000000000), .fieldLink RX7 19 "TraitHouse$Worker" "stack" "[J"] ++ wsX70)
def wsX7_times : List Cond := .code yX7_times cX7_times 4 (some .long) :: ([.methodLink RX7 153 Lib.MathLoose.abs_long.x, .static Lib.MathLoose.abs_long.x, .initialized "java/lang/Math", .code Lib.MathLoose.abs_long.x Lib.MathLoose.abs_long.code 2 (some .long), .constantLong RX7 157 (1000000000000), .constantLong RX7 38 (-9000000000000000000)])
def wsX7_join : List Cond := .code yX7_join cX7_join 5 (some .long) :: ([.constantLong RX7 38 (-9000000000000000000), .methodLink RX7 150 yX7_times, .static yX7_times, .initialized RX7, .code yX7_times cX7_times 4 (some .long), .methodLink RX7 153 Lib.MathLoose.abs_long.x, .static Lib.MathLoose.abs_long.x, .initialized "java/lang/Math", .code Lib.MathLoose.abs_long.x Lib.MathLoose.abs_long.code 2 (some .long), .constantLong RX7 157 (1000000000000)])
def wsX7_perform_r1 : List Cond := [Cond.fieldLink RX7 23 "TraitHouse$Worker" "values" "[J", Cond.constantLong RX7 38 (-9000000000000000000), Cond.methodLink RX7 107 yX7_push, Cond.instanceMethod yX7_push, Cond.selects RX7 yX7_push yX7_push, Cond.initialized RX7, Cond.code yX7_push cX7_push 3 none, Cond.fieldLink RX7 88 "TraitHouse$Worker" "top" "I", Cond.fieldLink RX7 19 "TraitHouse$Worker" "stack" "[J", Cond.methodLink RX7 153 Lib.MathLoose.abs_long.x, Cond.static Lib.MathLoose.abs_long.x, Cond.initialized "java/lang/Math", Cond.code Lib.MathLoose.abs_long.x Lib.MathLoose.abs_long.code 2 (some .long), Cond.constantLong RX7 157 (1000000000000), Cond.methodLink RX7 111 yX7_latest, Cond.instanceMethod yX7_latest, Cond.selects RX7 yX7_latest yX7_latest, Cond.code yX7_latest cX7_latest 5 (some .long), Cond.fieldLink RX7 71 "TraitHouse$Worker" "seenRows" "I", Cond.fieldLink RX7 15 "TraitHouse$Worker" "seen" "[I", Cond.fieldLink RX7 26 "TraitHouse$Worker" "rows" "LTraitHouse$Rows;", Cond.fieldLink RX7 68 "TraitHouse$Worker" "moment" "I", Cond.methodLink RX7 115 yX7_window, Cond.instanceMethod yX7_window]
def wsX7_perform_r2 : List Cond := [Cond.selects RX7 yX7_window yX7_window, Cond.code yX7_window cX7_window 11 (some .long), Cond.constantLong RX7 127 (1000000), Cond.constantLong RX7 129 (-1000000), Cond.methodLink RX7 135 Lib.MathLoose.min_long.x, Cond.static Lib.MathLoose.min_long.x, Cond.code Lib.MathLoose.min_long.x Lib.MathLoose.min_long.code 4 (some .long), Cond.methodLink RX7 141 Lib.MathLoose.max_long.x, Cond.static Lib.MathLoose.max_long.x, Cond.code Lib.MathLoose.max_long.x Lib.MathLoose.max_long.code 4 (some .long), Cond.methodLink RX7 131 yX7_isWithin, Cond.instanceMethod yX7_isWithin, Cond.selects RX7 yX7_isWithin yX7_isWithin, Cond.code yX7_isWithin cX7_isWithin 3 (some .boolean), Cond.methodLink RX7 95 yX7_pop, Cond.instanceMethod yX7_pop, Cond.selects RX7 yX7_pop yX7_pop, Cond.code yX7_pop cX7_pop 1 (some .long), Cond.methodLink RX7 118 yX7_join, Cond.static yX7_join, Cond.code yX7_join cX7_join 5 (some .long), Cond.methodLink RX7 150 yX7_times, Cond.static yX7_times, Cond.code yX7_times cX7_times 4 (some .long)]
def wsX7_perform : List Cond := .code yX7_perform cX7_perform 6 none :: ((wsX7_perform_r1 ++ wsX7_perform_r2) ++ wsX40 ++ wsX70 ++ wsX30)
def wsX7_workOut_r1 : List Cond := [Cond.fieldLink RX7 88 "TraitHouse$Worker" "top" "I", Cond.methodLink RX7 91 yX7_perform, Cond.instanceMethod yX7_perform, Cond.selects RX7 yX7_perform yX7_perform, Cond.initialized RX7, Cond.code yX7_perform cX7_perform 6 none, Cond.fieldLink RX7 23 "TraitHouse$Worker" "values" "[J", Cond.constantLong RX7 38 (-9000000000000000000), Cond.methodLink RX7 107 yX7_push, Cond.instanceMethod yX7_push, Cond.selects RX7 yX7_push yX7_push, Cond.code yX7_push cX7_push 3 none, Cond.fieldLink RX7 19 "TraitHouse$Worker" "stack" "[J", Cond.methodLink RX7 153 Lib.MathLoose.abs_long.x, Cond.static Lib.MathLoose.abs_long.x, Cond.initialized "java/lang/Math", Cond.code Lib.MathLoose.abs_long.x Lib.MathLoose.abs_long.code 2 (some .long), Cond.constantLong RX7 157 (1000000000000), Cond.methodLink RX7 111 yX7_latest, Cond.instanceMethod yX7_latest, Cond.selects RX7 yX7_latest yX7_latest, Cond.code yX7_latest cX7_latest 5 (some .long), Cond.fieldLink RX7 71 "TraitHouse$Worker" "seenRows" "I", Cond.fieldLink RX7 15 "TraitHouse$Worker" "seen" "[I"]
def wsX7_workOut_r2 : List Cond := [Cond.fieldLink RX7 26 "TraitHouse$Worker" "rows" "LTraitHouse$Rows;", Cond.fieldLink RX7 68 "TraitHouse$Worker" "moment" "I", Cond.methodLink RX7 115 yX7_window, Cond.instanceMethod yX7_window, Cond.selects RX7 yX7_window yX7_window, Cond.code yX7_window cX7_window 11 (some .long), Cond.constantLong RX7 127 (1000000), Cond.constantLong RX7 129 (-1000000), Cond.methodLink RX7 135 Lib.MathLoose.min_long.x, Cond.static Lib.MathLoose.min_long.x, Cond.code Lib.MathLoose.min_long.x Lib.MathLoose.min_long.code 4 (some .long), Cond.methodLink RX7 141 Lib.MathLoose.max_long.x, Cond.static Lib.MathLoose.max_long.x, Cond.code Lib.MathLoose.max_long.x Lib.MathLoose.max_long.code 4 (some .long), Cond.methodLink RX7 131 yX7_isWithin, Cond.instanceMethod yX7_isWithin, Cond.selects RX7 yX7_isWithin yX7_isWithin, Cond.code yX7_isWithin cX7_isWithin 3 (some .boolean), Cond.methodLink RX7 95 yX7_pop, Cond.instanceMethod yX7_pop, Cond.selects RX7 yX7_pop yX7_pop, Cond.code yX7_pop cX7_pop 1 (some .long), Cond.methodLink RX7 118 yX7_join, Cond.static yX7_join]
def wsX7_workOut_r3 : List Cond := [Cond.code yX7_join cX7_join 5 (some .long), Cond.methodLink RX7 150 yX7_times, Cond.static yX7_times, Cond.code yX7_times cX7_times 4 (some .long)]
def wsX7_workOut : List Cond := .code yX7_workOut cX7_workOut 3 (some .long) :: ((wsX7_workOut_r1 ++ (wsX7_workOut_r2 ++ wsX7_workOut_r3)) ++ wsX70 ++ wsX40 ++ wsX30)
def wsX7_make_r1 : List Cond := [Cond.fieldLink RX7 34 "TraitHouse$Worker" "traits" "[LTraitHouse$Trait;", Cond.constantLong RX7 38 (-9000000000000000000), Cond.fieldLink RX7 23 "TraitHouse$Worker" "values" "[J", Cond.methodLink RX7 46 yX7_look, Cond.instanceMethod yX7_look, Cond.selects RX7 yX7_look yX7_look, Cond.initialized RX7, Cond.code yX7_look cX7_look 6 none, Cond.fieldLink RX7 30 "TraitHouse$Worker" "merges" "LTraitHouse$Merges;", Cond.fieldLink RX7 9 "TraitHouse$Worker" "ones" "[Z", Cond.fieldLink RX7 68 "TraitHouse$Worker" "moment" "I", Cond.fieldLink RX7 71 "TraitHouse$Worker" "seenRows" "I", Cond.fieldLink RX7 26 "TraitHouse$Worker" "rows" "LTraitHouse$Rows;", Cond.fieldLink RX7 15 "TraitHouse$Worker" "seen" "[I", Cond.instanceMethod yX0_lastOf, Cond.initialized RX0, Cond.selects RX0 yX0_lastOf yX0_lastOf, Cond.code yX0_lastOf cX0_lastOf 5 (some .int), Cond.fieldLink RX0 15 "TraitHouse$Merges" "knowns" "[I", Cond.fieldLink RX0 9 "TraitHouse$Merges" "targets" "[I", Cond.methodLink RX0 28 yX0_isTold, Cond.instanceMethod yX0_isTold, Cond.selects RX0 yX0_isTold yX0_isTold, Cond.code yX0_isTold cX0_isTold 2 (some .boolean)]
def wsX7_make_r2 : List Cond := [Cond.static yX8_hasBit, Cond.initialized RX8, Cond.code yX8_hasBit cX8_hasBit 2 (some .boolean), Cond.methodLink RX7 58 yX7_workOut, Cond.instanceMethod yX7_workOut, Cond.selects RX7 yX7_workOut yX7_workOut, Cond.code yX7_workOut cX7_workOut 3 (some .long), Cond.fieldLink RX7 88 "TraitHouse$Worker" "top" "I", Cond.methodLink RX7 91 yX7_perform, Cond.instanceMethod yX7_perform, Cond.selects RX7 yX7_perform yX7_perform, Cond.code yX7_perform cX7_perform 6 none, Cond.methodLink RX7 107 yX7_push, Cond.instanceMethod yX7_push, Cond.selects RX7 yX7_push yX7_push, Cond.code yX7_push cX7_push 3 none, Cond.fieldLink RX7 19 "TraitHouse$Worker" "stack" "[J", Cond.methodLink RX7 153 Lib.MathLoose.abs_long.x, Cond.static Lib.MathLoose.abs_long.x, Cond.initialized "java/lang/Math", Cond.code Lib.MathLoose.abs_long.x Lib.MathLoose.abs_long.code 2 (some .long), Cond.constantLong RX7 157 (1000000000000), Cond.methodLink RX7 111 yX7_latest, Cond.instanceMethod yX7_latest]
def wsX7_make_r3 : List Cond := [Cond.selects RX7 yX7_latest yX7_latest, Cond.code yX7_latest cX7_latest 5 (some .long), Cond.methodLink RX7 115 yX7_window, Cond.instanceMethod yX7_window, Cond.selects RX7 yX7_window yX7_window, Cond.code yX7_window cX7_window 11 (some .long), Cond.constantLong RX7 127 (1000000), Cond.constantLong RX7 129 (-1000000), Cond.methodLink RX7 135 Lib.MathLoose.min_long.x, Cond.static Lib.MathLoose.min_long.x, Cond.code Lib.MathLoose.min_long.x Lib.MathLoose.min_long.code 4 (some .long), Cond.methodLink RX7 141 Lib.MathLoose.max_long.x, Cond.static Lib.MathLoose.max_long.x, Cond.code Lib.MathLoose.max_long.x Lib.MathLoose.max_long.code 4 (some .long), Cond.methodLink RX7 131 yX7_isWithin, Cond.instanceMethod yX7_isWithin, Cond.selects RX7 yX7_isWithin yX7_isWithin, Cond.code yX7_isWithin cX7_isWithin 3 (some .boolean), Cond.methodLink RX7 95 yX7_pop, Cond.instanceMethod yX7_pop, Cond.selects RX7 yX7_pop yX7_pop, Cond.code yX7_pop cX7_pop 1 (some .long), Cond.methodLink RX7 118 yX7_join, Cond.static yX7_join]
def wsX7_make_r4 : List Cond := [Cond.code yX7_join cX7_join 5 (some .long), Cond.methodLink RX7 150 yX7_times, Cond.static yX7_times, Cond.code yX7_times cX7_times 4 (some .long)]
def wsX7_make : List Cond := .code yX7_make cX7_make 7 (some .long) :: ((wsX7_make_r1 ++ (wsX7_make_r2 ++ (wsX7_make_r3 ++ wsX7_make_r4))) ++ wsX70 ++ wsX60 ++ wsX30 ++ wsX00 ++ wsX40)
def wsX8_init_r1 : List Cond := [Cond.methodLink RX8 1 objectInit, Cond.instanceMethod objectInit, Cond.code objectInit ⟨#[0xb1]⟩ 1 none, Cond.classLink RX8 7 RX3, Cond.instantiable RX3 7, Cond.initialized RX3, Cond.fieldLink RX8 10 "TraitHouse" "rows" "LTraitHouse$Rows;", Cond.classLink RX8 16 RX0, Cond.instantiable RX0 3, Cond.initialized RX0, Cond.fieldLink RX8 19 "TraitHouse" "merges" "LTraitHouse$Merges;", Cond.arrayClass .boolean, Cond.fieldLink RX8 23 "TraitHouse" "erased" "[Z", Cond.classLink RX8 27 RX5, Cond.instantiable RX5 2, Cond.initialized RX5, Cond.fieldLink RX8 30 "TraitHouse" "tape" "LTraitHouse$Tape;", Cond.classLink RX8 34 RX2, Cond.instantiable RX2 9, Cond.initialized RX2, Cond.fieldLink RX8 39 "TraitHouse" "reader" "LTraitHouse$Reader;", Cond.classLink RX8 43 RX6, Cond.fieldLink RX8 45 "TraitHouse" "traits" "[LTraitHouse$Trait;", Cond.classLink RX8 49 RX7]
def wsX8_init_r2 : List Cond := [Cond.instantiable RX7 10, Cond.initialized RX7, Cond.fieldLink RX8 54 "TraitHouse" "worker" "LTraitHouse$Worker;", Cond.classLink RX8 58 RX1, Cond.instantiable RX1 5, Cond.initialized RX1, Cond.fieldLink RX8 61 "TraitHouse" "places" "LTraitHouse$Places;", Cond.arrayClass .int, Cond.fieldLink RX8 65 "TraitHouse" "models" "[I", Cond.fieldLink RX8 69 "TraitHouse" "heapsAtOne" "[I", Cond.fieldLink RX8 72 "TraitHouse" "heapsAtOther" "[I", Cond.fieldLink RX8 75 "TraitHouse" "latestFault" "I", Cond.instanceMethod yX3_init, Cond.code yX3_init cX3_init 1 none, Cond.methodLink RX3 3 objectInit, Cond.fieldLink RX3 9 "TraitHouse$Rows" "people" "[I", Cond.fieldLink RX3 15 "TraitHouse$Rows" "streams" "[I", Cond.fieldLink RX3 18 "TraitHouse$Rows" "moments" "[I", Cond.fieldLink RX3 21 "TraitHouse$Rows" "knowns" "[I", Cond.fieldLink RX3 24 "TraitHouse$Rows" "values" "[I", Cond.instanceMethod yX0_init, Cond.code yX0_init cX0_init 1 none, Cond.methodLink RX0 3 objectInit, Cond.fieldLink RX0 9 "TraitHouse$Merges" "targets" "[I"]
def wsX8_init_r3 : List Cond := [Cond.fieldLink RX0 15 "TraitHouse$Merges" "knowns" "[I", Cond.methodLink RX0 18 yJ7_fill_53178, Cond.static yJ7_fill_53178, Cond.initialized RJ7, Cond.code yJ7_fill_53178 cJ7_fill_53178 4 none, Cond.instanceMethod yX5_init, Cond.code yX5_init cX5_init 1 none, Cond.methodLink RX5 3 objectInit, Cond.fieldLink RX5 9 "TraitHouse$Tape" "bytes" "[I", Cond.instanceMethod yX2_init, Cond.code yX2_init cX2_init 2 none, Cond.methodLink RX2 3 objectInit, Cond.classLink RX2 9 RX4, Cond.fieldLink RX2 11 "TraitHouse$Reader" "steps" "[LTraitHouse$Step;", Cond.fieldLink RX2 17 "TraitHouse$Reader" "tape" "LTraitHouse$Tape;", Cond.instanceMethod yX7_init, Cond.code yX7_init cX7_init 4 none, Cond.methodLink RX7 3 objectInit, Cond.fieldLink RX7 9 "TraitHouse$Worker" "ones" "[Z", Cond.fieldLink RX7 15 "TraitHouse$Worker" "seen" "[I", Cond.arrayClass .long, Cond.fieldLink RX7 19 "TraitHouse$Worker" "stack" "[J", Cond.fieldLink RX7 23 "TraitHouse$Worker" "values" "[J", Cond.fieldLink RX7 26 "TraitHouse$Worker" "rows" "LTraitHouse$Rows;"]
def wsX8_init_r4 : List Cond := [Cond.fieldLink RX7 30 "TraitHouse$Worker" "merges" "LTraitHouse$Merges;", Cond.fieldLink RX7 34 "TraitHouse$Worker" "traits" "[LTraitHouse$Trait;", Cond.instanceMethod yX1_init, Cond.code yX1_init cX1_init 1 none, Cond.methodLink RX1 3 objectInit, Cond.fieldLink RX1 9 "TraitHouse$Places" "owners" "[I", Cond.fieldLink RX1 15 "TraitHouse$Places" "moments" "[I", Cond.fieldLink RX1 18 "TraitHouse$Places" "filled" "[Z", Cond.fieldLink RX1 22 "TraitHouse$Places" "values" "[J"]
def wsX8_init : List Cond := .code yX8_init cX8_init 1 none :: ((wsX8_init_r1 ++ (wsX8_init_r2 ++ (wsX8_init_r3 ++ wsX8_init_r4))) ++ wsX30 ++ wsX80 ++ wsX00 ++ wsX50 ++ wsX20 ++ wsX70 ++ wsX10)
def wsX8_isMoment : List Cond := .code yX8_isMoment cX8_isMoment 1 (some .boolean) :: ([.constant RX8 117 (100000)])
def wsX8_settle : List Cond := .code yX8_settle cX8_settle 2 (some .int) :: ([.methodLink RX8 292 Lib.Math.min.name, .static Lib.Math.min.name, .initialized "java/lang/Math", .code Lib.Math.min.name Lib.Math.min.code 2 (some .int), .fieldLink RX8 289 "TraitHouse" "latestRefusal" "I"] ++ wsX80)
def wsX8_now : List Cond := .code yX8_now cX8_now 2 (some .int) :: ([.fieldLink RX8 83 "TraitHouse" "now" "I", .methodLink RX8 79 yX8_isMoment, .static yX8_isMoment, .initialized RX8, .code yX8_isMoment cX8_isMoment 1 (some .boolean), .constant RX8 117 (100000), .methodLink RX8 86 yX8_settle, .instanceMethod yX8_settle, .selects RX8 yX8_settle yX8_settle, .code yX8_settle cX8_settle 2 (some .int), .methodLink RX8 292 Lib.Math.min.name, .static Lib.Math.min.name, .initialized "java/lang/Math", .code Lib.Math.min.name Lib.Math.min.code 2 (some .int), .fieldLink RX8 289 "TraitHouse" "latestRefusal" "I"] ++ wsX80)
def wsX8_isStream : List Cond := .code yX8_isStream cX8_isStream 1 (some .boolean) :: ([])
def wsX8_isRowValue : List Cond := .code yX8_isRowValue cX8_isRowValue 1 (some .boolean) :: ([.constant RX8 295 (-1000000), .constant RX8 296 (1000000)])
def wsX8_isPerson : List Cond := .code yX8_isPerson cX8_isPerson 1 (some .boolean) :: ([])
def wsX8_addRow_r1 : List Cond := [Cond.fieldLink RX8 10 "TraitHouse" "rows" "LTraitHouse$Rows;", Cond.fieldLink RX8 23 "TraitHouse" "erased" "[Z", Cond.methodLink RX8 94 yX8_isStream, Cond.static yX8_isStream, Cond.initialized RX8, Cond.code yX8_isStream cX8_isStream 1 (some .boolean), Cond.methodLink RX8 79 yX8_isMoment, Cond.static yX8_isMoment, Cond.code yX8_isMoment cX8_isMoment 1 (some .boolean), Cond.constant RX8 117 (100000), Cond.methodLink RX8 97 yX8_isRowValue, Cond.static yX8_isRowValue, Cond.code yX8_isRowValue cX8_isRowValue 1 (some .boolean), Cond.constant RX8 295 (-1000000), Cond.constant RX8 296 (1000000), Cond.methodLink RX8 100 yX8_isPerson, Cond.static yX8_isPerson, Cond.code yX8_isPerson cX8_isPerson 1 (some .boolean), Cond.instanceMethod yX3_isFull, Cond.initialized RX3, Cond.selects RX3 yX3_isFull yX3_isFull, Cond.code yX3_isFull cX3_isFull 1 (some .boolean), Cond.fieldLink RX3 27 "TraitHouse$Rows" "size" "I", Cond.instanceMethod yX3_add]
def wsX8_addRow_r2 : List Cond := [Cond.selects RX3 yX3_add yX3_add, Cond.code yX3_add cX3_add 6 (some .int), Cond.fieldLink RX3 9 "TraitHouse$Rows" "people" "[I", Cond.fieldLink RX3 15 "TraitHouse$Rows" "streams" "[I", Cond.fieldLink RX3 18 "TraitHouse$Rows" "moments" "[I", Cond.fieldLink RX3 21 "TraitHouse$Rows" "knowns" "[I", Cond.fieldLink RX3 24 "TraitHouse$Rows" "values" "[I", Cond.fieldLink RX3 35 "TraitHouse$Rows" "nextNumber" "I", Cond.methodLink RX3 31 yX3_isFull]
def wsX8_addRow : List Cond := .code yX8_addRow cX8_addRow 6 (some .int) :: ((wsX8_addRow_r1 ++ wsX8_addRow_r2) ++ wsX80 ++ wsX30)
def wsX8_row_r1 : List Cond := [Cond.methodLink RX8 90 yX8_addRow, Cond.instanceMethod yX8_addRow, Cond.selects RX8 yX8_addRow yX8_addRow, Cond.initialized RX8, Cond.code yX8_addRow cX8_addRow 6 (some .int), Cond.fieldLink RX8 10 "TraitHouse" "rows" "LTraitHouse$Rows;", Cond.fieldLink RX8 23 "TraitHouse" "erased" "[Z", Cond.methodLink RX8 94 yX8_isStream, Cond.static yX8_isStream, Cond.code yX8_isStream cX8_isStream 1 (some .boolean), Cond.methodLink RX8 79 yX8_isMoment, Cond.static yX8_isMoment, Cond.code yX8_isMoment cX8_isMoment 1 (some .boolean), Cond.constant RX8 117 (100000), Cond.methodLink RX8 97 yX8_isRowValue, Cond.static yX8_isRowValue, Cond.code yX8_isRowValue cX8_isRowValue 1 (some .boolean), Cond.constant RX8 295 (-1000000), Cond.constant RX8 296 (1000000), Cond.methodLink RX8 100 yX8_isPerson, Cond.static yX8_isPerson, Cond.code yX8_isPerson cX8_isPerson 1 (some .boolean), Cond.instanceMethod yX3_isFull, Cond.initialized RX3]
def wsX8_row_r2 : List Cond := [Cond.selects RX3 yX3_isFull yX3_isFull, Cond.code yX3_isFull cX3_isFull 1 (some .boolean), Cond.fieldLink RX3 27 "TraitHouse$Rows" "size" "I", Cond.instanceMethod yX3_add, Cond.selects RX3 yX3_add yX3_add, Cond.code yX3_add cX3_add 6 (some .int), Cond.fieldLink RX3 9 "TraitHouse$Rows" "people" "[I", Cond.fieldLink RX3 15 "TraitHouse$Rows" "streams" "[I", Cond.fieldLink RX3 18 "TraitHouse$Rows" "moments" "[I", Cond.fieldLink RX3 21 "TraitHouse$Rows" "knowns" "[I", Cond.fieldLink RX3 24 "TraitHouse$Rows" "values" "[I", Cond.fieldLink RX3 35 "TraitHouse$Rows" "nextNumber" "I", Cond.methodLink RX3 31 yX3_isFull, Cond.methodLink RX8 86 yX8_settle, Cond.instanceMethod yX8_settle, Cond.selects RX8 yX8_settle yX8_settle, Cond.code yX8_settle cX8_settle 2 (some .int), Cond.methodLink RX8 292 Lib.Math.min.name, Cond.static Lib.Math.min.name, Cond.initialized "java/lang/Math", Cond.code Lib.Math.min.name Lib.Math.min.code 2 (some .int), Cond.fieldLink RX8 289 "TraitHouse" "latestRefusal" "I"]
def wsX8_row : List Cond := .code yX8_row cX8_row 6 (some .int) :: ((wsX8_row_r1 ++ wsX8_row_r2) ++ wsX80 ++ wsX30)
def wsX8_addMerge : List Cond := .code yX8_addMerge cX8_addMerge 4 (some .int) :: ([.fieldLink RX8 19 "TraitHouse" "merges" "LTraitHouse$Merges;", .constant RX8 117 (100000), .methodLink RX8 79 yX8_isMoment, .static yX8_isMoment, .initialized RX8, .code yX8_isMoment cX8_isMoment 1 (some .boolean), .methodLink RX8 100 yX8_isPerson, .static yX8_isPerson, .code yX8_isPerson cX8_isPerson 1 (some .boolean), .instanceMethod yX0_isTold, .initialized RX0, .selects RX0 yX0_isTold yX0_isTold, .code yX0_isTold cX0_isTold 2 (some .boolean), .fieldLink RX0 9 "TraitHouse$Merges" "targets" "[I", .instanceMethod yX0_lastOf, .selects RX0 yX0_lastOf yX0_lastOf, .code yX0_lastOf cX0_lastOf 5 (some .int), .fieldLink RX0 15 "TraitHouse$Merges" "knowns" "[I", .methodLink RX0 28 yX0_isTold, .instanceMethod yX0_add, .selects RX0 yX0_add yX0_add, .code yX0_add cX0_add 4 (some .int), .fieldLink RX0 24 "TraitHouse$Merges" "size" "I"] ++ wsX80 ++ wsX00)
def wsX8_merge_r1 : List Cond := [Cond.methodLink RX8 110 yX8_addMerge, Cond.instanceMethod yX8_addMerge, Cond.selects RX8 yX8_addMerge yX8_addMerge, Cond.initialized RX8, Cond.code yX8_addMerge cX8_addMerge 4 (some .int), Cond.fieldLink RX8 19 "TraitHouse" "merges" "LTraitHouse$Merges;", Cond.constant RX8 117 (100000), Cond.methodLink RX8 79 yX8_isMoment, Cond.static yX8_isMoment, Cond.code yX8_isMoment cX8_isMoment 1 (some .boolean), Cond.methodLink RX8 100 yX8_isPerson, Cond.static yX8_isPerson, Cond.code yX8_isPerson cX8_isPerson 1 (some .boolean), Cond.instanceMethod yX0_isTold, Cond.initialized RX0, Cond.selects RX0 yX0_isTold yX0_isTold, Cond.code yX0_isTold cX0_isTold 2 (some .boolean), Cond.fieldLink RX0 9 "TraitHouse$Merges" "targets" "[I", Cond.instanceMethod yX0_lastOf, Cond.selects RX0 yX0_lastOf yX0_lastOf, Cond.code yX0_lastOf cX0_lastOf 5 (some .int), Cond.fieldLink RX0 15 "TraitHouse$Merges" "knowns" "[I", Cond.methodLink RX0 28 yX0_isTold, Cond.instanceMethod yX0_add]
def wsX8_merge_r2 : List Cond := [Cond.selects RX0 yX0_add yX0_add, Cond.code yX0_add cX0_add 4 (some .int), Cond.fieldLink RX0 24 "TraitHouse$Merges" "size" "I", Cond.methodLink RX8 86 yX8_settle, Cond.instanceMethod yX8_settle, Cond.selects RX8 yX8_settle yX8_settle, Cond.code yX8_settle cX8_settle 2 (some .int), Cond.methodLink RX8 292 Lib.Math.min.name, Cond.static Lib.Math.min.name, Cond.initialized "java/lang/Math", Cond.code Lib.Math.min.name Lib.Math.min.code 2 (some .int), Cond.fieldLink RX8 289 "TraitHouse" "latestRefusal" "I"]
def wsX8_merge : List Cond := .code yX8_merge cX8_merge 4 (some .int) :: ((wsX8_merge_r1 ++ wsX8_merge_r2) ++ wsX80 ++ wsX00)
def wsX8_leads : List Cond := .code yX8_leads cX8_leads 3 (some .int) :: ([.fieldLink RX8 19 "TraitHouse" "merges" "LTraitHouse$Merges;", .methodLink RX8 100 yX8_isPerson, .static yX8_isPerson, .initialized RX8, .code yX8_isPerson cX8_isPerson 1 (some .boolean), .methodLink RX8 79 yX8_isMoment, .static yX8_isMoment, .code yX8_isMoment cX8_isMoment 1 (some .boolean), .constant RX8 117 (100000), .instanceMethod yX0_lastOf, .initialized RX0, .selects RX0 yX0_lastOf yX0_lastOf, .code yX0_lastOf cX0_lastOf 5 (some .int), .fieldLink RX0 15 "TraitHouse$Merges" "knowns" "[I", .fieldLink RX0 9 "TraitHouse$Merges" "targets" "[I", .methodLink RX0 28 yX0_isTold, .instanceMethod yX0_isTold, .selects RX0 yX0_isTold yX0_isTold, .code yX0_isTold cX0_isTold 2 (some .boolean)] ++ wsX80 ++ wsX00)
def wsX8_traitAt : List Cond := .code yX8_traitAt cX8_traitAt 2 (some (.object "TraitHouse$Trait")) :: ([.fieldLink RX8 148 "TraitHouse" "traitsThere" "I", .fieldLink RX8 45 "TraitHouse" "traits" "[LTraitHouse$Trait;"] ++ wsX80)
def wsX8_dropPerson_r1 : List Cond := [Cond.fieldLink RX8 23 "TraitHouse" "erased" "[Z", Cond.fieldLink RX8 127 "TraitHouse" "erasedPeople" "I", Cond.fieldLink RX8 61 "TraitHouse" "places" "LTraitHouse$Places;", Cond.fieldLink RX8 10 "TraitHouse" "rows" "LTraitHouse$Rows;", Cond.methodLink RX8 100 yX8_isPerson, Cond.static yX8_isPerson, Cond.initialized RX8, Cond.code yX8_isPerson cX8_isPerson 1 (some .boolean), Cond.methodLink RX8 130 yX8_traitAt, Cond.instanceMethod yX8_traitAt, Cond.selects RX8 yX8_traitAt yX8_traitAt, Cond.code yX8_traitAt cX8_traitAt 2 (some (.object "TraitHouse$Trait")), Cond.fieldLink RX8 148 "TraitHouse" "traitsThere" "I", Cond.fieldLink RX8 45 "TraitHouse" "traits" "[LTraitHouse$Trait;", Cond.instanceMethod yX6_forget, Cond.initialized RX6, Cond.selects RX6 yX6_forget yX6_forget, Cond.code yX6_forget cX6_forget 2 none, Cond.constantLong RX6 42 (-9000000000000000000), Cond.methodLink RX6 53 yX6_keep, Cond.instanceMethod yX6_keep, Cond.selects RX6 yX6_keep yX6_keep, Cond.code yX6_keep cX6_keep 5 none, Cond.fieldLink RX6 9 "TraitHouse$Trait" "keptValues" "[J"]
def wsX8_dropPerson_r2 : List Cond := [Cond.fieldLink RX6 15 "TraitHouse$Trait" "keptMoments" "[I", Cond.instanceMethod yX1_forget, Cond.initialized RX1, Cond.selects RX1 yX1_forget yX1_forget, Cond.code yX1_forget cX1_forget 3 none, Cond.fieldLink RX1 26 "TraitHouse$Places" "size" "I", Cond.fieldLink RX1 9 "TraitHouse$Places" "owners" "[I", Cond.fieldLink RX1 22 "TraitHouse$Places" "values" "[J", Cond.constantLong RX1 34 (-9000000000000000000), Cond.instanceMethod yX3_drop, Cond.initialized RX3, Cond.selects RX3 yX3_drop yX3_drop, Cond.code yX3_drop cX3_drop 4 (some .int), Cond.fieldLink RX3 27 "TraitHouse$Rows" "size" "I", Cond.fieldLink RX3 9 "TraitHouse$Rows" "people" "[I", Cond.methodLink RX3 38 yX3_move, Cond.instanceMethod yX3_move, Cond.selects RX3 yX3_move yX3_move, Cond.code yX3_move cX3_move 3 none, Cond.fieldLink RX3 15 "TraitHouse$Rows" "streams" "[I", Cond.fieldLink RX3 18 "TraitHouse$Rows" "moments" "[I", Cond.fieldLink RX3 21 "TraitHouse$Rows" "knowns" "[I", Cond.fieldLink RX3 24 "TraitHouse$Rows" "values" "[I"]
def wsX8_dropPerson : List Cond := .code yX8_dropPerson cX8_dropPerson 4 (some .int) :: ((wsX8_dropPerson_r1 ++ wsX8_dropPerson_r2) ++ wsX80 ++ wsX60 ++ wsX10 ++ wsX30)
def wsX8_erase_r1 : List Cond := [Cond.methodLink RX8 124 yX8_dropPerson, Cond.instanceMethod yX8_dropPerson, Cond.selects RX8 yX8_dropPerson yX8_dropPerson, Cond.initialized RX8, Cond.code yX8_dropPerson cX8_dropPerson 4 (some .int), Cond.fieldLink RX8 23 "TraitHouse" "erased" "[Z", Cond.fieldLink RX8 127 "TraitHouse" "erasedPeople" "I", Cond.fieldLink RX8 61 "TraitHouse" "places" "LTraitHouse$Places;", Cond.fieldLink RX8 10 "TraitHouse" "rows" "LTraitHouse$Rows;", Cond.methodLink RX8 100 yX8_isPerson, Cond.static yX8_isPerson, Cond.code yX8_isPerson cX8_isPerson 1 (some .boolean), Cond.methodLink RX8 130 yX8_traitAt, Cond.instanceMethod yX8_traitAt, Cond.selects RX8 yX8_traitAt yX8_traitAt, Cond.code yX8_traitAt cX8_traitAt 2 (some (.object "TraitHouse$Trait")), Cond.fieldLink RX8 148 "TraitHouse" "traitsThere" "I", Cond.fieldLink RX8 45 "TraitHouse" "traits" "[LTraitHouse$Trait;", Cond.instanceMethod yX6_forget, Cond.initialized RX6, Cond.selects RX6 yX6_forget yX6_forget, Cond.code yX6_forget cX6_forget 2 none, Cond.constantLong RX6 42 (-9000000000000000000), Cond.methodLink RX6 53 yX6_keep]
def wsX8_erase_r2 : List Cond := [Cond.instanceMethod yX6_keep, Cond.selects RX6 yX6_keep yX6_keep, Cond.code yX6_keep cX6_keep 5 none, Cond.fieldLink RX6 9 "TraitHouse$Trait" "keptValues" "[J", Cond.fieldLink RX6 15 "TraitHouse$Trait" "keptMoments" "[I", Cond.instanceMethod yX1_forget, Cond.initialized RX1, Cond.selects RX1 yX1_forget yX1_forget, Cond.code yX1_forget cX1_forget 3 none, Cond.fieldLink RX1 26 "TraitHouse$Places" "size" "I", Cond.fieldLink RX1 9 "TraitHouse$Places" "owners" "[I", Cond.fieldLink RX1 22 "TraitHouse$Places" "values" "[J", Cond.constantLong RX1 34 (-9000000000000000000), Cond.instanceMethod yX3_drop, Cond.initialized RX3, Cond.selects RX3 yX3_drop yX3_drop, Cond.code yX3_drop cX3_drop 4 (some .int), Cond.fieldLink RX3 27 "TraitHouse$Rows" "size" "I", Cond.fieldLink RX3 9 "TraitHouse$Rows" "people" "[I", Cond.methodLink RX3 38 yX3_move, Cond.instanceMethod yX3_move, Cond.selects RX3 yX3_move yX3_move, Cond.code yX3_move cX3_move 3 none, Cond.fieldLink RX3 15 "TraitHouse$Rows" "streams" "[I"]
def wsX8_erase_r3 : List Cond := [Cond.fieldLink RX3 18 "TraitHouse$Rows" "moments" "[I", Cond.fieldLink RX3 21 "TraitHouse$Rows" "knowns" "[I", Cond.fieldLink RX3 24 "TraitHouse$Rows" "values" "[I", Cond.methodLink RX8 86 yX8_settle, Cond.instanceMethod yX8_settle, Cond.selects RX8 yX8_settle yX8_settle, Cond.code yX8_settle cX8_settle 2 (some .int), Cond.methodLink RX8 292 Lib.Math.min.name, Cond.static Lib.Math.min.name, Cond.initialized "java/lang/Math", Cond.code Lib.Math.min.name Lib.Math.min.code 2 (some .int), Cond.fieldLink RX8 289 "TraitHouse" "latestRefusal" "I"]
def wsX8_erase : List Cond := .code yX8_erase cX8_erase 2 (some .int) :: ((wsX8_erase_r1 ++ (wsX8_erase_r2 ++ wsX8_erase_r3)) ++ wsX80 ++ wsX60 ++ wsX10 ++ wsX30)
def wsX8_feed : List Cond := .code yX8_feed cX8_feed 6 (some .int) :: ([.fieldLink RX8 30 "TraitHouse" "tape" "LTraitHouse$Tape;", .instanceMethod yX5_append, .initialized RX5, .selects RX5 yX5_append yX5_append, .code yX5_append cX5_append 3 none, .fieldLink RX5 15 "TraitHouse$Tape" "size" "I", .fieldLink RX5 9 "TraitHouse$Tape" "bytes" "[I"] ++ wsX80 ++ wsX50)
def wsX8_end : List Cond := .code yX8_end cX8_end 2 (some .int) :: ([.fieldLink RX8 30 "TraitHouse" "tape" "LTraitHouse$Tape;"] ++ wsX80 ++ wsX50)
def wsX8_needsOf : List Cond := .code yX8_needsOf cX8_needsOf 5 (some .int) :: ([.fieldLink RX8 148 "TraitHouse" "traitsThere" "I", .methodLink RX8 130 yX8_traitAt, .instanceMethod yX8_traitAt, .selects RX8 yX8_traitAt yX8_traitAt, .initialized RX8, .code yX8_traitAt cX8_traitAt 2 (some (.object "TraitHouse$Trait")), .fieldLink RX8 45 "TraitHouse" "traits" "[LTraitHouse$Trait;", .methodLink RX8 256 yX8_hasBit, .static yX8_hasBit, .code yX8_hasBit cX8_hasBit 2 (some .boolean)] ++ wsX80 ++ wsX60)
def wsX8_readTrait_r1 : List Cond := [Cond.fieldLink RX8 39 "TraitHouse" "reader" "LTraitHouse$Reader;", Cond.fieldLink RX8 148 "TraitHouse" "traitsThere" "I", Cond.fieldLink RX8 75 "TraitHouse" "latestFault" "I", Cond.fieldLink RX8 45 "TraitHouse" "traits" "[LTraitHouse$Trait;", Cond.classLink RX8 43 RX6, Cond.instantiable RX6 8, Cond.initialized RX6, Cond.instanceMethod yX2_read, Cond.initialized RX2, Cond.selects RX2 yX2_read yX2_read, Cond.code yX2_read cX2_read 2 (some .int), Cond.fieldLink RX2 21 "TraitHouse$Reader" "size" "I", Cond.fieldLink RX2 25 "TraitHouse$Reader" "behind" "I", Cond.fieldLink RX2 28 "TraitHouse$Reader" "traitsThere" "I", Cond.fieldLink RX2 31 "TraitHouse$Reader" "fault" "I", Cond.fieldLink RX2 34 "TraitHouse$Reader" "reads" "I", Cond.fieldLink RX2 37 "TraitHouse$Reader" "leaks" "Z", Cond.fieldLink RX2 48 "TraitHouse$Reader" "place" "I", Cond.fieldLink RX2 17 "TraitHouse$Reader" "tape" "LTraitHouse$Tape;", Cond.methodLink RX2 41 yX2_advance, Cond.instanceMethod yX2_advance, Cond.selects RX2 yX2_advance yX2_advance, Cond.code yX2_advance cX2_advance 3 none, Cond.methodLink RX2 150 Lib.Math.min.name]
def wsX8_readTrait_r2 : List Cond := [Cond.static Lib.Math.min.name, Cond.initialized "java/lang/Math", Cond.code Lib.Math.min.name Lib.Math.min.code 2 (some .int), Cond.methodLink RX2 156 yX2_isLetterAt, Cond.instanceMethod yX2_isLetterAt, Cond.selects RX2 yX2_isLetterAt yX2_isLetterAt, Cond.code yX2_isLetterAt cX2_isLetterAt 2 (some .boolean), Cond.methodLink RX2 90 yX2_isDigitAt, Cond.instanceMethod yX2_isDigitAt, Cond.selects RX2 yX2_isDigitAt yX2_isDigitAt, Cond.code yX2_isDigitAt cX2_isDigitAt 2 (some .boolean), Cond.methodLink RX2 44 yX2_readSum, Cond.instanceMethod yX2_readSum, Cond.selects RX2 yX2_readSum yX2_readSum, Cond.code yX2_readSum cX2_readSum 5 (some .boolean), Cond.methodLink RX2 58 yX2_readTerm, Cond.instanceMethod yX2_readTerm, Cond.selects RX2 yX2_readTerm yX2_readTerm, Cond.methodLink RX2 63 yX2_isAt, Cond.instanceMethod yX2_isAt, Cond.selects RX2 yX2_isAt yX2_isAt, Cond.code yX2_isAt cX2_isAt 4 (some .boolean), Cond.methodLink RX2 141 yJ0_length_8abf5, Cond.instanceMethod yJ0_length_8abf5]
def wsX8_readTrait_r3 : List Cond := [Cond.selects RJ0 yJ0_length_8abf5 yJ0_length_8abf5, Cond.initialized RJ0, Cond.code yJ0_length_8abf5 cJ0_length_8abf5 1 (some .int), Cond.fieldLink RJ0 9 "java/lang/String" "value" "[B", Cond.methodLink RJ0 335 yJ0_coder_7d493, Cond.instanceMethod yJ0_coder_7d493, Cond.selects RJ0 yJ0_coder_7d493 yJ0_coder_7d493, Cond.code yJ0_coder_7d493 cJ0_coder_7d493 1 (some .byte), Cond.fieldLink RJ0 38 "java/lang/String" "COMPACT_STRINGS" "Z", Cond.fieldLink RJ0 15 "java/lang/String" "coder" "B", Cond.methodLink RX2 146 yJ0_charAt_5068e, Cond.instanceMethod yJ0_charAt_5068e, Cond.selects RJ0 yJ0_charAt_5068e yJ0_charAt_5068e, Cond.code yJ0_charAt_5068e cJ0_charAt_5068e 2 (some .char), Cond.methodLink RJ0 492 yJ0_isLatin1_aae02, Cond.instanceMethod yJ0_isLatin1_aae02, Cond.selects RJ0 yJ0_isLatin1_aae02 yJ0_isLatin1_aae02, Cond.code yJ0_isLatin1_aae02 cJ0_isLatin1_aae02 1 (some .boolean), Cond.methodLink RJ0 495 yJ1_charAt_3b067, Cond.static yJ1_charAt_3b067, Cond.initialized RJ1, Cond.code yJ1_charAt_3b067 cJ1_charAt_3b067 2 (some .char), Cond.methodLink RJ1 9 yJ0_checkIndex_df160, Cond.static yJ0_checkIndex_df160]
def wsX8_readTrait_r4 : List Cond := [Cond.code yJ0_checkIndex_df160 cJ0_checkIndex_df160 2 none, Cond.fieldLink RJ0 1053 "jdk/internal/util/Preconditions" "SIOOBE_FORMATTER" "Ljava/util/function/BiFunction;", Cond.methodLink RJ0 1059 yJ3_checkIndex_8e157, Cond.static yJ3_checkIndex_8e157, Cond.initialized RJ3, Cond.code yJ3_checkIndex_8e157 cJ3_checkIndex_8e157 3 (some .int), Cond.methodLink RJ0 498 yJ2_charAt_3b067, Cond.static yJ2_charAt_3b067, Cond.initialized RJ2, Cond.code yJ2_charAt_3b067 cJ2_charAt_3b067 2 (some .char), Cond.methodLink RJ2 67 yJ2_checkIndex_2214a, Cond.static yJ2_checkIndex_2214a, Cond.code yJ2_checkIndex_2214a cJ2_checkIndex_2214a 2 none, Cond.methodLink RJ2 48 yJ2_length_9d52b, Cond.static yJ2_length_9d52b, Cond.code yJ2_length_9d52b cJ2_length_9d52b 1 (some .int), Cond.methodLink RJ2 414 yJ0_checkIndex_df160, Cond.methodLink RJ2 71 yJ2_getChar_3b067, Cond.static yJ2_getChar_3b067, Cond.code yJ2_getChar_3b067 cJ2_getChar_3b067 2 (some .char), Cond.fieldLink RJ2 44 "java/lang/StringUTF16" "$assertionsDisabled" "Z", Cond.fieldLink RJ2 59 "java/lang/StringUTF16" "HI_BYTE_SHIFT" "I", Cond.fieldLink RJ2 63 "java/lang/StringUTF16" "LO_BYTE_SHIFT" "I", Cond.methodLink RX2 69 yX2_emit]
def wsX8_readTrait_r5 : List Cond := [Cond.instanceMethod yX2_emit, Cond.selects RX2 yX2_emit yX2_emit, Cond.code yX2_emit cX2_emit 5 none, Cond.fieldLink RX2 11 "TraitHouse$Reader" "steps" "[LTraitHouse$Step;", Cond.classLink RX2 9 RX4, Cond.instantiable RX4 4, Cond.initialized RX4, Cond.instanceMethod yX4_init, Cond.code yX4_init cX4_init 5 none, Cond.methodLink RX4 1 objectInit, Cond.instanceMethod objectInit, Cond.code objectInit ⟨#[0xb1]⟩ 1 none, Cond.fieldLink RX4 7 "TraitHouse$Step" "kind" "I", Cond.fieldLink RX4 13 "TraitHouse$Step" "number" "I", Cond.fieldLink RX4 16 "TraitHouse$Step" "from" "I", Cond.fieldLink RX4 19 "TraitHouse$Step" "to" "I", Cond.code yX2_readAtom cX2_readAtom 3 (some .boolean), Cond.constant RX2 85 (1000000), Cond.methodLink RX2 86 yX2_readNumbered, Cond.instanceMethod yX2_readNumbered, Cond.selects RX2 yX2_readNumbered yX2_readNumbered, Cond.code yX2_readNumbered cX2_readNumbered 4 (some .boolean), Cond.methodLink RX2 110 yX2_takeNumber, Cond.instanceMethod yX2_takeNumber]
def wsX8_readTrait_r6 : List Cond := [Cond.selects RX2 yX2_takeNumber yX2_takeNumber, Cond.code yX2_takeNumber cX2_takeNumber 4 (some .int), Cond.constant RX2 134 (1000001), Cond.methodLink RX2 54 yX2_stop, Cond.instanceMethod yX2_stop, Cond.selects RX2 yX2_stop yX2_stop, Cond.code yX2_stop cX2_stop 1 (some .boolean), Cond.methodLink RX2 95 yX2_readBracket, Cond.instanceMethod yX2_readBracket, Cond.selects RX2 yX2_readBracket yX2_readBracket, Cond.methodLink RX2 98 yX2_kindAt, Cond.instanceMethod yX2_kindAt, Cond.selects RX2 yX2_kindAt yX2_kindAt, Cond.code yX2_kindAt cX2_kindAt 1 (some .int), Cond.methodLink RX2 102 yX2_readWindow, Cond.instanceMethod yX2_readWindow, Cond.selects RX2 yX2_readWindow yX2_readWindow, Cond.code yX2_readWindow cX2_readWindow 5 (some .boolean), Cond.methodLink RX2 107 yX2_take, Cond.instanceMethod yX2_take, Cond.selects RX2 yX2_take yX2_take, Cond.code yX2_take cX2_take 2 (some .boolean), Cond.code yX2_readBracket cX2_readBracket 2 (some .boolean), Cond.code yX2_readPart cX2_readPart 2 (some .boolean)]
def wsX8_readTrait_r7 : List Cond := [Cond.methodLink RX2 80 yX2_readAtom, Cond.instanceMethod yX2_readAtom, Cond.selects RX2 yX2_readAtom yX2_readAtom, Cond.code yX2_readTerm cX2_readTerm 5 (some .boolean), Cond.methodLink RX2 73 yX2_readPart, Cond.instanceMethod yX2_readPart, Cond.selects RX2 yX2_readPart yX2_readPart, Cond.instanceMethod yX2_stepsRead, Cond.selects RX2 yX2_stepsRead yX2_stepsRead, Cond.code yX2_stepsRead cX2_stepsRead 3 (some (.array (.object "TraitHouse$Step"))), Cond.methodLink RX8 169 yX8_needsOf, Cond.instanceMethod yX8_needsOf, Cond.selects RX8 yX8_needsOf yX8_needsOf, Cond.initialized RX8, Cond.code yX8_needsOf cX8_needsOf 5 (some .int), Cond.methodLink RX8 130 yX8_traitAt, Cond.instanceMethod yX8_traitAt, Cond.selects RX8 yX8_traitAt yX8_traitAt, Cond.code yX8_traitAt cX8_traitAt 2 (some (.object "TraitHouse$Trait")), Cond.methodLink RX8 256 yX8_hasBit, Cond.static yX8_hasBit, Cond.code yX8_hasBit cX8_hasBit 2 (some .boolean), Cond.instanceMethod yX6_init, Cond.code yX6_init cX6_init 3 none]
def wsX8_readTrait_r8 : List Cond := [Cond.methodLink RX6 3 objectInit, Cond.arrayClass .long, Cond.fieldLink RX6 9 "TraitHouse$Trait" "keptValues" "[J", Cond.arrayClass .int, Cond.fieldLink RX6 15 "TraitHouse$Trait" "keptMoments" "[I", Cond.constantLong RX6 19 (-1000000000000), Cond.fieldLink RX6 21 "TraitHouse$Trait" "lawFrom" "J", Cond.constantLong RX6 25 (1000000000000), Cond.fieldLink RX6 27 "TraitHouse$Trait" "lawTo" "J", Cond.constant RX6 30 (100000), Cond.fieldLink RX6 31 "TraitHouse$Trait" "staleAbove" "I", Cond.fieldLink RX6 35 "TraitHouse$Trait" "steps" "[LTraitHouse$Step;", Cond.fieldLink RX6 39 "TraitHouse$Trait" "needs" "I", Cond.constantLong RX6 42 (-9000000000000000000), Cond.methodLink RX6 44 yJ7_fill_d0a16, Cond.static yJ7_fill_d0a16, Cond.initialized RJ7, Cond.code yJ7_fill_d0a16 cJ7_fill_d0a16 5 none, Cond.methodLink RX6 50 yJ7_fill_53178, Cond.static yJ7_fill_53178, Cond.code yJ7_fill_53178 cJ7_fill_53178 4 none]
def wsX8_readTrait : List Cond := .code yX8_readTrait cX8_readTrait 2 (some .int) :: ((wsX8_readTrait_r1 ++ (wsX8_readTrait_r2 ++ (wsX8_readTrait_r3 ++ (wsX8_readTrait_r4 ++ (wsX8_readTrait_r5 ++ (wsX8_readTrait_r6 ++ (wsX8_readTrait_r7 ++ wsX8_readTrait_r8))))))) ++ wsX80 ++ wsX20 ++ wsX60 ++ wsX50 ++ wsX40)
def wsX8_trait_r1 : List Cond := [Cond.fieldLink RX8 148 "TraitHouse" "traitsThere" "I", Cond.fieldLink RX8 30 "TraitHouse" "tape" "LTraitHouse$Tape;", Cond.methodLink RX8 151 yX8_readTrait, Cond.instanceMethod yX8_readTrait, Cond.selects RX8 yX8_readTrait yX8_readTrait, Cond.initialized RX8, Cond.code yX8_readTrait cX8_readTrait 2 (some .int), Cond.fieldLink RX8 39 "TraitHouse" "reader" "LTraitHouse$Reader;", Cond.fieldLink RX8 75 "TraitHouse" "latestFault" "I", Cond.fieldLink RX8 45 "TraitHouse" "traits" "[LTraitHouse$Trait;", Cond.classLink RX8 43 RX6, Cond.instantiable RX6 8, Cond.initialized RX6, Cond.instanceMethod yX2_read, Cond.initialized RX2, Cond.selects RX2 yX2_read yX2_read, Cond.code yX2_read cX2_read 2 (some .int), Cond.fieldLink RX2 21 "TraitHouse$Reader" "size" "I", Cond.fieldLink RX2 25 "TraitHouse$Reader" "behind" "I", Cond.fieldLink RX2 28 "TraitHouse$Reader" "traitsThere" "I", Cond.fieldLink RX2 31 "TraitHouse$Reader" "fault" "I", Cond.fieldLink RX2 34 "TraitHouse$Reader" "reads" "I", Cond.fieldLink RX2 37 "TraitHouse$Reader" "leaks" "Z", Cond.fieldLink RX2 48 "TraitHouse$Reader" "place" "I"]
def wsX8_trait_r2 : List Cond := [Cond.fieldLink RX2 17 "TraitHouse$Reader" "tape" "LTraitHouse$Tape;", Cond.methodLink RX2 41 yX2_advance, Cond.instanceMethod yX2_advance, Cond.selects RX2 yX2_advance yX2_advance, Cond.code yX2_advance cX2_advance 3 none, Cond.methodLink RX2 150 Lib.Math.min.name, Cond.static Lib.Math.min.name, Cond.initialized "java/lang/Math", Cond.code Lib.Math.min.name Lib.Math.min.code 2 (some .int), Cond.methodLink RX2 156 yX2_isLetterAt, Cond.instanceMethod yX2_isLetterAt, Cond.selects RX2 yX2_isLetterAt yX2_isLetterAt, Cond.code yX2_isLetterAt cX2_isLetterAt 2 (some .boolean), Cond.methodLink RX2 90 yX2_isDigitAt, Cond.instanceMethod yX2_isDigitAt, Cond.selects RX2 yX2_isDigitAt yX2_isDigitAt, Cond.code yX2_isDigitAt cX2_isDigitAt 2 (some .boolean), Cond.methodLink RX2 44 yX2_readSum, Cond.instanceMethod yX2_readSum, Cond.selects RX2 yX2_readSum yX2_readSum, Cond.code yX2_readSum cX2_readSum 5 (some .boolean), Cond.methodLink RX2 58 yX2_readTerm, Cond.instanceMethod yX2_readTerm, Cond.selects RX2 yX2_readTerm yX2_readTerm]
def wsX8_trait_r3 : List Cond := [Cond.methodLink RX2 63 yX2_isAt, Cond.instanceMethod yX2_isAt, Cond.selects RX2 yX2_isAt yX2_isAt, Cond.code yX2_isAt cX2_isAt 4 (some .boolean), Cond.methodLink RX2 141 yJ0_length_8abf5, Cond.instanceMethod yJ0_length_8abf5, Cond.selects RJ0 yJ0_length_8abf5 yJ0_length_8abf5, Cond.initialized RJ0, Cond.code yJ0_length_8abf5 cJ0_length_8abf5 1 (some .int), Cond.fieldLink RJ0 9 "java/lang/String" "value" "[B", Cond.methodLink RJ0 335 yJ0_coder_7d493, Cond.instanceMethod yJ0_coder_7d493, Cond.selects RJ0 yJ0_coder_7d493 yJ0_coder_7d493, Cond.code yJ0_coder_7d493 cJ0_coder_7d493 1 (some .byte), Cond.fieldLink RJ0 38 "java/lang/String" "COMPACT_STRINGS" "Z", Cond.fieldLink RJ0 15 "java/lang/String" "coder" "B", Cond.methodLink RX2 146 yJ0_charAt_5068e, Cond.instanceMethod yJ0_charAt_5068e, Cond.selects RJ0 yJ0_charAt_5068e yJ0_charAt_5068e, Cond.code yJ0_charAt_5068e cJ0_charAt_5068e 2 (some .char), Cond.methodLink RJ0 492 yJ0_isLatin1_aae02, Cond.instanceMethod yJ0_isLatin1_aae02, Cond.selects RJ0 yJ0_isLatin1_aae02 yJ0_isLatin1_aae02, Cond.code yJ0_isLatin1_aae02 cJ0_isLatin1_aae02 1 (some .boolean)]
def wsX8_trait_r4 : List Cond := [Cond.methodLink RJ0 495 yJ1_charAt_3b067, Cond.static yJ1_charAt_3b067, Cond.initialized RJ1, Cond.code yJ1_charAt_3b067 cJ1_charAt_3b067 2 (some .char), Cond.methodLink RJ1 9 yJ0_checkIndex_df160, Cond.static yJ0_checkIndex_df160, Cond.code yJ0_checkIndex_df160 cJ0_checkIndex_df160 2 none, Cond.fieldLink RJ0 1053 "jdk/internal/util/Preconditions" "SIOOBE_FORMATTER" "Ljava/util/function/BiFunction;", Cond.methodLink RJ0 1059 yJ3_checkIndex_8e157, Cond.static yJ3_checkIndex_8e157, Cond.initialized RJ3, Cond.code yJ3_checkIndex_8e157 cJ3_checkIndex_8e157 3 (some .int), Cond.methodLink RJ0 498 yJ2_charAt_3b067, Cond.static yJ2_charAt_3b067, Cond.initialized RJ2, Cond.code yJ2_charAt_3b067 cJ2_charAt_3b067 2 (some .char), Cond.methodLink RJ2 67 yJ2_checkIndex_2214a, Cond.static yJ2_checkIndex_2214a, Cond.code yJ2_checkIndex_2214a cJ2_checkIndex_2214a 2 none, Cond.methodLink RJ2 48 yJ2_length_9d52b, Cond.static yJ2_length_9d52b, Cond.code yJ2_length_9d52b cJ2_length_9d52b 1 (some .int), Cond.methodLink RJ2 414 yJ0_checkIndex_df160, Cond.methodLink RJ2 71 yJ2_getChar_3b067]
def wsX8_trait_r5 : List Cond := [Cond.static yJ2_getChar_3b067, Cond.code yJ2_getChar_3b067 cJ2_getChar_3b067 2 (some .char), Cond.fieldLink RJ2 44 "java/lang/StringUTF16" "$assertionsDisabled" "Z", Cond.fieldLink RJ2 59 "java/lang/StringUTF16" "HI_BYTE_SHIFT" "I", Cond.fieldLink RJ2 63 "java/lang/StringUTF16" "LO_BYTE_SHIFT" "I", Cond.methodLink RX2 69 yX2_emit, Cond.instanceMethod yX2_emit, Cond.selects RX2 yX2_emit yX2_emit, Cond.code yX2_emit cX2_emit 5 none, Cond.fieldLink RX2 11 "TraitHouse$Reader" "steps" "[LTraitHouse$Step;", Cond.classLink RX2 9 RX4, Cond.instantiable RX4 4, Cond.initialized RX4, Cond.instanceMethod yX4_init, Cond.code yX4_init cX4_init 5 none, Cond.methodLink RX4 1 objectInit, Cond.instanceMethod objectInit, Cond.code objectInit ⟨#[0xb1]⟩ 1 none, Cond.fieldLink RX4 7 "TraitHouse$Step" "kind" "I", Cond.fieldLink RX4 13 "TraitHouse$Step" "number" "I", Cond.fieldLink RX4 16 "TraitHouse$Step" "from" "I", Cond.fieldLink RX4 19 "TraitHouse$Step" "to" "I", Cond.code yX2_readAtom cX2_readAtom 3 (some .boolean), Cond.constant RX2 85 (1000000)]
def wsX8_trait_r6 : List Cond := [Cond.methodLink RX2 86 yX2_readNumbered, Cond.instanceMethod yX2_readNumbered, Cond.selects RX2 yX2_readNumbered yX2_readNumbered, Cond.code yX2_readNumbered cX2_readNumbered 4 (some .boolean), Cond.methodLink RX2 110 yX2_takeNumber, Cond.instanceMethod yX2_takeNumber, Cond.selects RX2 yX2_takeNumber yX2_takeNumber, Cond.code yX2_takeNumber cX2_takeNumber 4 (some .int), Cond.constant RX2 134 (1000001), Cond.methodLink RX2 54 yX2_stop, Cond.instanceMethod yX2_stop, Cond.selects RX2 yX2_stop yX2_stop, Cond.code yX2_stop cX2_stop 1 (some .boolean), Cond.methodLink RX2 95 yX2_readBracket, Cond.instanceMethod yX2_readBracket, Cond.selects RX2 yX2_readBracket yX2_readBracket, Cond.methodLink RX2 98 yX2_kindAt, Cond.instanceMethod yX2_kindAt, Cond.selects RX2 yX2_kindAt yX2_kindAt, Cond.code yX2_kindAt cX2_kindAt 1 (some .int), Cond.methodLink RX2 102 yX2_readWindow, Cond.instanceMethod yX2_readWindow, Cond.selects RX2 yX2_readWindow yX2_readWindow, Cond.code yX2_readWindow cX2_readWindow 5 (some .boolean)]
def wsX8_trait_r7 : List Cond := [Cond.methodLink RX2 107 yX2_take, Cond.instanceMethod yX2_take, Cond.selects RX2 yX2_take yX2_take, Cond.code yX2_take cX2_take 2 (some .boolean), Cond.code yX2_readBracket cX2_readBracket 2 (some .boolean), Cond.code yX2_readPart cX2_readPart 2 (some .boolean), Cond.methodLink RX2 80 yX2_readAtom, Cond.instanceMethod yX2_readAtom, Cond.selects RX2 yX2_readAtom yX2_readAtom, Cond.code yX2_readTerm cX2_readTerm 5 (some .boolean), Cond.methodLink RX2 73 yX2_readPart, Cond.instanceMethod yX2_readPart, Cond.selects RX2 yX2_readPart yX2_readPart, Cond.instanceMethod yX2_stepsRead, Cond.selects RX2 yX2_stepsRead yX2_stepsRead, Cond.code yX2_stepsRead cX2_stepsRead 3 (some (.array (.object "TraitHouse$Step"))), Cond.methodLink RX8 169 yX8_needsOf, Cond.instanceMethod yX8_needsOf, Cond.selects RX8 yX8_needsOf yX8_needsOf, Cond.code yX8_needsOf cX8_needsOf 5 (some .int), Cond.methodLink RX8 130 yX8_traitAt, Cond.instanceMethod yX8_traitAt, Cond.selects RX8 yX8_traitAt yX8_traitAt, Cond.code yX8_traitAt cX8_traitAt 2 (some (.object "TraitHouse$Trait"))]
def wsX8_trait_r8 : List Cond := [Cond.methodLink RX8 256 yX8_hasBit, Cond.static yX8_hasBit, Cond.code yX8_hasBit cX8_hasBit 2 (some .boolean), Cond.instanceMethod yX6_init, Cond.code yX6_init cX6_init 3 none, Cond.methodLink RX6 3 objectInit, Cond.arrayClass .long, Cond.fieldLink RX6 9 "TraitHouse$Trait" "keptValues" "[J", Cond.arrayClass .int, Cond.fieldLink RX6 15 "TraitHouse$Trait" "keptMoments" "[I", Cond.constantLong RX6 19 (-1000000000000), Cond.fieldLink RX6 21 "TraitHouse$Trait" "lawFrom" "J", Cond.constantLong RX6 25 (1000000000000), Cond.fieldLink RX6 27 "TraitHouse$Trait" "lawTo" "J", Cond.constant RX6 30 (100000), Cond.fieldLink RX6 31 "TraitHouse$Trait" "staleAbove" "I", Cond.fieldLink RX6 35 "TraitHouse$Trait" "steps" "[LTraitHouse$Step;", Cond.fieldLink RX6 39 "TraitHouse$Trait" "needs" "I", Cond.constantLong RX6 42 (-9000000000000000000), Cond.methodLink RX6 44 yJ7_fill_d0a16, Cond.static yJ7_fill_d0a16, Cond.initialized RJ7, Cond.code yJ7_fill_d0a16 cJ7_fill_d0a16 5 none, Cond.methodLink RX6 50 yJ7_fill_53178]
def wsX8_trait_r9 : List Cond := [Cond.static yJ7_fill_53178, Cond.code yJ7_fill_53178 cJ7_fill_53178 4 none, Cond.methodLink RX8 86 yX8_settle, Cond.instanceMethod yX8_settle, Cond.selects RX8 yX8_settle yX8_settle, Cond.code yX8_settle cX8_settle 2 (some .int), Cond.methodLink RX8 292 Lib.Math.min.name, Cond.fieldLink RX8 289 "TraitHouse" "latestRefusal" "I"]
def wsX8_trait : List Cond := .code yX8_trait cX8_trait 2 (some .int) :: ((wsX8_trait_r1 ++ (wsX8_trait_r2 ++ (wsX8_trait_r3 ++ (wsX8_trait_r4 ++ (wsX8_trait_r5 ++ (wsX8_trait_r6 ++ (wsX8_trait_r7 ++ (wsX8_trait_r8 ++ wsX8_trait_r9)))))))) ++ wsX80 ++ wsX50 ++ wsX20 ++ wsX60 ++ wsX40)
def wsX8_fault : List Cond := .code yX8_fault cX8_fault 1 (some .int) :: ([.fieldLink RX8 75 "TraitHouse" "latestFault" "I"] ++ wsX80)
def wsX8_value_r1 : List Cond := [Cond.constantLong RX8 175 (-9000000000000000000), Cond.fieldLink RX8 54 "TraitHouse" "worker" "LTraitHouse$Worker;", Cond.methodLink RX8 130 yX8_traitAt, Cond.instanceMethod yX8_traitAt, Cond.selects RX8 yX8_traitAt yX8_traitAt, Cond.initialized RX8, Cond.code yX8_traitAt cX8_traitAt 2 (some (.object "TraitHouse$Trait")), Cond.fieldLink RX8 148 "TraitHouse" "traitsThere" "I", Cond.fieldLink RX8 45 "TraitHouse" "traits" "[LTraitHouse$Trait;", Cond.methodLink RX8 100 yX8_isPerson, Cond.static yX8_isPerson, Cond.code yX8_isPerson cX8_isPerson 1 (some .boolean), Cond.methodLink RX8 79 yX8_isMoment, Cond.static yX8_isMoment, Cond.code yX8_isMoment cX8_isMoment 1 (some .boolean), Cond.constant RX8 117 (100000), Cond.instanceMethod yX7_make, Cond.initialized RX7, Cond.selects RX7 yX7_make yX7_make, Cond.code yX7_make cX7_make 7 (some .long), Cond.fieldLink RX7 34 "TraitHouse$Worker" "traits" "[LTraitHouse$Trait;", Cond.constantLong RX7 38 (-9000000000000000000), Cond.fieldLink RX7 23 "TraitHouse$Worker" "values" "[J", Cond.methodLink RX7 46 yX7_look]
def wsX8_value_r2 : List Cond := [Cond.instanceMethod yX7_look, Cond.selects RX7 yX7_look yX7_look, Cond.code yX7_look cX7_look 6 none, Cond.fieldLink RX7 30 "TraitHouse$Worker" "merges" "LTraitHouse$Merges;", Cond.fieldLink RX7 9 "TraitHouse$Worker" "ones" "[Z", Cond.fieldLink RX7 68 "TraitHouse$Worker" "moment" "I", Cond.fieldLink RX7 71 "TraitHouse$Worker" "seenRows" "I", Cond.fieldLink RX7 26 "TraitHouse$Worker" "rows" "LTraitHouse$Rows;", Cond.fieldLink RX7 15 "TraitHouse$Worker" "seen" "[I", Cond.instanceMethod yX0_lastOf, Cond.initialized RX0, Cond.selects RX0 yX0_lastOf yX0_lastOf, Cond.code yX0_lastOf cX0_lastOf 5 (some .int), Cond.fieldLink RX0 15 "TraitHouse$Merges" "knowns" "[I", Cond.fieldLink RX0 9 "TraitHouse$Merges" "targets" "[I", Cond.methodLink RX0 28 yX0_isTold, Cond.instanceMethod yX0_isTold, Cond.selects RX0 yX0_isTold yX0_isTold, Cond.code yX0_isTold cX0_isTold 2 (some .boolean), Cond.static yX8_hasBit, Cond.code yX8_hasBit cX8_hasBit 2 (some .boolean), Cond.methodLink RX7 58 yX7_workOut, Cond.instanceMethod yX7_workOut, Cond.selects RX7 yX7_workOut yX7_workOut]
def wsX8_value_r3 : List Cond := [Cond.code yX7_workOut cX7_workOut 3 (some .long), Cond.fieldLink RX7 88 "TraitHouse$Worker" "top" "I", Cond.methodLink RX7 91 yX7_perform, Cond.instanceMethod yX7_perform, Cond.selects RX7 yX7_perform yX7_perform, Cond.code yX7_perform cX7_perform 6 none, Cond.methodLink RX7 107 yX7_push, Cond.instanceMethod yX7_push, Cond.selects RX7 yX7_push yX7_push, Cond.code yX7_push cX7_push 3 none, Cond.fieldLink RX7 19 "TraitHouse$Worker" "stack" "[J", Cond.methodLink RX7 153 Lib.MathLoose.abs_long.x, Cond.static Lib.MathLoose.abs_long.x, Cond.initialized "java/lang/Math", Cond.code Lib.MathLoose.abs_long.x Lib.MathLoose.abs_long.code 2 (some .long), Cond.constantLong RX7 157 (1000000000000), Cond.methodLink RX7 111 yX7_latest, Cond.instanceMethod yX7_latest, Cond.selects RX7 yX7_latest yX7_latest, Cond.code yX7_latest cX7_latest 5 (some .long), Cond.methodLink RX7 115 yX7_window, Cond.instanceMethod yX7_window, Cond.selects RX7 yX7_window yX7_window, Cond.code yX7_window cX7_window 11 (some .long)]
def wsX8_value_r4 : List Cond := [Cond.constantLong RX7 127 (1000000), Cond.constantLong RX7 129 (-1000000), Cond.methodLink RX7 135 Lib.MathLoose.min_long.x, Cond.static Lib.MathLoose.min_long.x, Cond.code Lib.MathLoose.min_long.x Lib.MathLoose.min_long.code 4 (some .long), Cond.methodLink RX7 141 Lib.MathLoose.max_long.x, Cond.static Lib.MathLoose.max_long.x, Cond.code Lib.MathLoose.max_long.x Lib.MathLoose.max_long.code 4 (some .long), Cond.methodLink RX7 131 yX7_isWithin, Cond.instanceMethod yX7_isWithin, Cond.selects RX7 yX7_isWithin yX7_isWithin, Cond.code yX7_isWithin cX7_isWithin 3 (some .boolean), Cond.methodLink RX7 95 yX7_pop, Cond.instanceMethod yX7_pop, Cond.selects RX7 yX7_pop yX7_pop, Cond.code yX7_pop cX7_pop 1 (some .long), Cond.methodLink RX7 118 yX7_join, Cond.static yX7_join, Cond.code yX7_join cX7_join 5 (some .long), Cond.methodLink RX7 150 yX7_times, Cond.static yX7_times, Cond.code yX7_times cX7_times 4 (some .long)]
def wsX8_value : List Cond := .code yX8_value cX8_value 5 (some .long) :: ((wsX8_value_r1 ++ (wsX8_value_r2 ++ (wsX8_value_r3 ++ wsX8_value_r4))) ++ wsX80 ++ wsX70 ++ wsX60 ++ wsX30 ++ wsX00 ++ wsX40)
def wsX8_law : List Cond := .code yX8_law cX8_law 7 (some .int) :: ([.methodLink RX8 86 yX8_settle, .instanceMethod yX8_settle, .selects RX8 yX8_settle yX8_settle, .initialized RX8, .code yX8_settle cX8_settle 2 (some .int), .methodLink RX8 292 Lib.Math.min.name, .static Lib.Math.min.name, .initialized "java/lang/Math", .code Lib.Math.min.name Lib.Math.min.code 2 (some .int), .fieldLink RX8 289 "TraitHouse" "latestRefusal" "I", .methodLink RX8 130 yX8_traitAt, .instanceMethod yX8_traitAt, .selects RX8 yX8_traitAt yX8_traitAt, .code yX8_traitAt cX8_traitAt 2 (some (.object "TraitHouse$Trait")), .fieldLink RX8 148 "TraitHouse" "traitsThere" "I", .fieldLink RX8 45 "TraitHouse" "traits" "[LTraitHouse$Trait;"] ++ wsX60 ++ wsX80)
def wsX8_limit : List Cond := .code yX8_limit cX8_limit 5 (some .int) :: ([.methodLink RX8 79 yX8_isMoment, .static yX8_isMoment, .initialized RX8, .code yX8_isMoment cX8_isMoment 1 (some .boolean), .constant RX8 117 (100000), .methodLink RX8 86 yX8_settle, .instanceMethod yX8_settle, .selects RX8 yX8_settle yX8_settle, .code yX8_settle cX8_settle 2 (some .int), .methodLink RX8 292 Lib.Math.min.name, .static Lib.Math.min.name, .initialized "java/lang/Math", .code Lib.Math.min.name Lib.Math.min.code 2 (some .int), .fieldLink RX8 289 "TraitHouse" "latestRefusal" "I", .methodLink RX8 130 yX8_traitAt, .instanceMethod yX8_traitAt, .selects RX8 yX8_traitAt yX8_traitAt, .code yX8_traitAt cX8_traitAt 2 (some (.object "TraitHouse$Trait")), .fieldLink RX8 148 "TraitHouse" "traitsThere" "I", .fieldLink RX8 45 "TraitHouse" "traits" "[LTraitHouse$Trait;"] ++ wsX60 ++ wsX80)
def wsX8_keepFresh_r1 : List Cond := [Cond.fieldLink RX8 54 "TraitHouse" "worker" "LTraitHouse$Worker;", Cond.fieldLink RX8 83 "TraitHouse" "now" "I", Cond.fieldLink RX8 61 "TraitHouse" "places" "LTraitHouse$Places;", Cond.instanceMethod yX7_make, Cond.initialized RX7, Cond.selects RX7 yX7_make yX7_make, Cond.code yX7_make cX7_make 7 (some .long), Cond.fieldLink RX7 34 "TraitHouse$Worker" "traits" "[LTraitHouse$Trait;", Cond.constantLong RX7 38 (-9000000000000000000), Cond.fieldLink RX7 23 "TraitHouse$Worker" "values" "[J", Cond.methodLink RX7 46 yX7_look, Cond.instanceMethod yX7_look, Cond.selects RX7 yX7_look yX7_look, Cond.code yX7_look cX7_look 6 none, Cond.fieldLink RX7 30 "TraitHouse$Worker" "merges" "LTraitHouse$Merges;", Cond.fieldLink RX7 9 "TraitHouse$Worker" "ones" "[Z", Cond.fieldLink RX7 68 "TraitHouse$Worker" "moment" "I", Cond.fieldLink RX7 71 "TraitHouse$Worker" "seenRows" "I", Cond.fieldLink RX7 26 "TraitHouse$Worker" "rows" "LTraitHouse$Rows;", Cond.fieldLink RX7 15 "TraitHouse$Worker" "seen" "[I", Cond.instanceMethod yX0_lastOf, Cond.initialized RX0, Cond.selects RX0 yX0_lastOf yX0_lastOf, Cond.code yX0_lastOf cX0_lastOf 5 (some .int)]
def wsX8_keepFresh_r2 : List Cond := [Cond.fieldLink RX0 15 "TraitHouse$Merges" "knowns" "[I", Cond.fieldLink RX0 9 "TraitHouse$Merges" "targets" "[I", Cond.methodLink RX0 28 yX0_isTold, Cond.instanceMethod yX0_isTold, Cond.selects RX0 yX0_isTold yX0_isTold, Cond.code yX0_isTold cX0_isTold 2 (some .boolean), Cond.static yX8_hasBit, Cond.initialized RX8, Cond.code yX8_hasBit cX8_hasBit 2 (some .boolean), Cond.methodLink RX7 58 yX7_workOut, Cond.instanceMethod yX7_workOut, Cond.selects RX7 yX7_workOut yX7_workOut, Cond.code yX7_workOut cX7_workOut 3 (some .long), Cond.fieldLink RX7 88 "TraitHouse$Worker" "top" "I", Cond.methodLink RX7 91 yX7_perform, Cond.instanceMethod yX7_perform, Cond.selects RX7 yX7_perform yX7_perform, Cond.code yX7_perform cX7_perform 6 none, Cond.methodLink RX7 107 yX7_push, Cond.instanceMethod yX7_push, Cond.selects RX7 yX7_push yX7_push, Cond.code yX7_push cX7_push 3 none, Cond.fieldLink RX7 19 "TraitHouse$Worker" "stack" "[J", Cond.methodLink RX7 153 Lib.MathLoose.abs_long.x]
def wsX8_keepFresh_r3 : List Cond := [Cond.static Lib.MathLoose.abs_long.x, Cond.initialized "java/lang/Math", Cond.code Lib.MathLoose.abs_long.x Lib.MathLoose.abs_long.code 2 (some .long), Cond.constantLong RX7 157 (1000000000000), Cond.methodLink RX7 111 yX7_latest, Cond.instanceMethod yX7_latest, Cond.selects RX7 yX7_latest yX7_latest, Cond.code yX7_latest cX7_latest 5 (some .long), Cond.methodLink RX7 115 yX7_window, Cond.instanceMethod yX7_window, Cond.selects RX7 yX7_window yX7_window, Cond.code yX7_window cX7_window 11 (some .long), Cond.constantLong RX7 127 (1000000), Cond.constantLong RX7 129 (-1000000), Cond.methodLink RX7 135 Lib.MathLoose.min_long.x, Cond.static Lib.MathLoose.min_long.x, Cond.code Lib.MathLoose.min_long.x Lib.MathLoose.min_long.code 4 (some .long), Cond.methodLink RX7 141 Lib.MathLoose.max_long.x, Cond.static Lib.MathLoose.max_long.x, Cond.code Lib.MathLoose.max_long.x Lib.MathLoose.max_long.code 4 (some .long), Cond.methodLink RX7 131 yX7_isWithin, Cond.instanceMethod yX7_isWithin, Cond.selects RX7 yX7_isWithin yX7_isWithin, Cond.code yX7_isWithin cX7_isWithin 3 (some .boolean)]
def wsX8_keepFresh_r4 : List Cond := [Cond.methodLink RX7 95 yX7_pop, Cond.instanceMethod yX7_pop, Cond.selects RX7 yX7_pop yX7_pop, Cond.code yX7_pop cX7_pop 1 (some .long), Cond.methodLink RX7 118 yX7_join, Cond.static yX7_join, Cond.code yX7_join cX7_join 5 (some .long), Cond.methodLink RX7 150 yX7_times, Cond.static yX7_times, Cond.code yX7_times cX7_times 4 (some .long), Cond.instanceMethod yX6_isOutside, Cond.initialized RX6, Cond.selects RX6 yX6_isOutside yX6_isOutside, Cond.code yX6_isOutside cX6_isOutside 3 (some .boolean), Cond.constantLong RX6 42 (-9000000000000000000), Cond.fieldLink RX6 21 "TraitHouse$Trait" "lawFrom" "J", Cond.fieldLink RX6 27 "TraitHouse$Trait" "lawTo" "J", Cond.instanceMethod yX6_keep, Cond.selects RX6 yX6_keep yX6_keep, Cond.code yX6_keep cX6_keep 5 none, Cond.fieldLink RX6 9 "TraitHouse$Trait" "keptValues" "[J", Cond.fieldLink RX6 15 "TraitHouse$Trait" "keptMoments" "[I", Cond.instanceMethod yX1_put, Cond.initialized RX1]
def wsX8_keepFresh_r5 : List Cond := [Cond.selects RX1 yX1_put yX1_put, Cond.code yX1_put cX1_put 7 none, Cond.fieldLink RX1 26 "TraitHouse$Places" "size" "I", Cond.fieldLink RX1 9 "TraitHouse$Places" "owners" "[I", Cond.fieldLink RX1 15 "TraitHouse$Places" "moments" "[I", Cond.fieldLink RX1 18 "TraitHouse$Places" "filled" "[Z", Cond.fieldLink RX1 22 "TraitHouse$Places" "values" "[J", Cond.methodLink RX1 30 yX1_owner, Cond.static yX1_owner, Cond.code yX1_owner cX1_owner 2 (some .int)]
def wsX8_keepFresh : List Cond := .code yX8_keepFresh cX8_keepFresh 6 none :: ((wsX8_keepFresh_r1 ++ (wsX8_keepFresh_r2 ++ (wsX8_keepFresh_r3 ++ (wsX8_keepFresh_r4 ++ wsX8_keepFresh_r5)))) ++ wsX80 ++ wsX60 ++ wsX70 ++ wsX30 ++ wsX00 ++ wsX40 ++ wsX10)
def wsX8_freshen_r1 : List Cond := [Cond.fieldLink RX8 23 "TraitHouse" "erased" "[Z", Cond.methodLink RX8 130 yX8_traitAt, Cond.instanceMethod yX8_traitAt, Cond.selects RX8 yX8_traitAt yX8_traitAt, Cond.initialized RX8, Cond.code yX8_traitAt cX8_traitAt 2 (some (.object "TraitHouse$Trait")), Cond.fieldLink RX8 148 "TraitHouse" "traitsThere" "I", Cond.fieldLink RX8 45 "TraitHouse" "traits" "[LTraitHouse$Trait;", Cond.methodLink RX8 86 yX8_settle, Cond.instanceMethod yX8_settle, Cond.selects RX8 yX8_settle yX8_settle, Cond.code yX8_settle cX8_settle 2 (some .int), Cond.methodLink RX8 292 Lib.Math.min.name, Cond.static Lib.Math.min.name, Cond.initialized "java/lang/Math", Cond.code Lib.Math.min.name Lib.Math.min.code 2 (some .int), Cond.fieldLink RX8 289 "TraitHouse" "latestRefusal" "I", Cond.methodLink RX8 194 yX8_keepFresh, Cond.instanceMethod yX8_keepFresh, Cond.selects RX8 yX8_keepFresh yX8_keepFresh, Cond.code yX8_keepFresh cX8_keepFresh 6 none, Cond.fieldLink RX8 54 "TraitHouse" "worker" "LTraitHouse$Worker;", Cond.fieldLink RX8 83 "TraitHouse" "now" "I", Cond.fieldLink RX8 61 "TraitHouse" "places" "LTraitHouse$Places;"]
def wsX8_freshen_r2 : List Cond := [Cond.instanceMethod yX7_make, Cond.initialized RX7, Cond.selects RX7 yX7_make yX7_make, Cond.code yX7_make cX7_make 7 (some .long), Cond.fieldLink RX7 34 "TraitHouse$Worker" "traits" "[LTraitHouse$Trait;", Cond.constantLong RX7 38 (-9000000000000000000), Cond.fieldLink RX7 23 "TraitHouse$Worker" "values" "[J", Cond.methodLink RX7 46 yX7_look, Cond.instanceMethod yX7_look, Cond.selects RX7 yX7_look yX7_look, Cond.code yX7_look cX7_look 6 none, Cond.fieldLink RX7 30 "TraitHouse$Worker" "merges" "LTraitHouse$Merges;", Cond.fieldLink RX7 9 "TraitHouse$Worker" "ones" "[Z", Cond.fieldLink RX7 68 "TraitHouse$Worker" "moment" "I", Cond.fieldLink RX7 71 "TraitHouse$Worker" "seenRows" "I", Cond.fieldLink RX7 26 "TraitHouse$Worker" "rows" "LTraitHouse$Rows;", Cond.fieldLink RX7 15 "TraitHouse$Worker" "seen" "[I", Cond.instanceMethod yX0_lastOf, Cond.initialized RX0, Cond.selects RX0 yX0_lastOf yX0_lastOf, Cond.code yX0_lastOf cX0_lastOf 5 (some .int), Cond.fieldLink RX0 15 "TraitHouse$Merges" "knowns" "[I", Cond.fieldLink RX0 9 "TraitHouse$Merges" "targets" "[I", Cond.methodLink RX0 28 yX0_isTold]
def wsX8_freshen_r3 : List Cond := [Cond.instanceMethod yX0_isTold, Cond.selects RX0 yX0_isTold yX0_isTold, Cond.code yX0_isTold cX0_isTold 2 (some .boolean), Cond.static yX8_hasBit, Cond.code yX8_hasBit cX8_hasBit 2 (some .boolean), Cond.methodLink RX7 58 yX7_workOut, Cond.instanceMethod yX7_workOut, Cond.selects RX7 yX7_workOut yX7_workOut, Cond.code yX7_workOut cX7_workOut 3 (some .long), Cond.fieldLink RX7 88 "TraitHouse$Worker" "top" "I", Cond.methodLink RX7 91 yX7_perform, Cond.instanceMethod yX7_perform, Cond.selects RX7 yX7_perform yX7_perform, Cond.code yX7_perform cX7_perform 6 none, Cond.methodLink RX7 107 yX7_push, Cond.instanceMethod yX7_push, Cond.selects RX7 yX7_push yX7_push, Cond.code yX7_push cX7_push 3 none, Cond.fieldLink RX7 19 "TraitHouse$Worker" "stack" "[J", Cond.methodLink RX7 153 Lib.MathLoose.abs_long.x, Cond.static Lib.MathLoose.abs_long.x, Cond.code Lib.MathLoose.abs_long.x Lib.MathLoose.abs_long.code 2 (some .long), Cond.constantLong RX7 157 (1000000000000), Cond.methodLink RX7 111 yX7_latest]
def wsX8_freshen_r4 : List Cond := [Cond.instanceMethod yX7_latest, Cond.selects RX7 yX7_latest yX7_latest, Cond.code yX7_latest cX7_latest 5 (some .long), Cond.methodLink RX7 115 yX7_window, Cond.instanceMethod yX7_window, Cond.selects RX7 yX7_window yX7_window, Cond.code yX7_window cX7_window 11 (some .long), Cond.constantLong RX7 127 (1000000), Cond.constantLong RX7 129 (-1000000), Cond.methodLink RX7 135 Lib.MathLoose.min_long.x, Cond.static Lib.MathLoose.min_long.x, Cond.code Lib.MathLoose.min_long.x Lib.MathLoose.min_long.code 4 (some .long), Cond.methodLink RX7 141 Lib.MathLoose.max_long.x, Cond.static Lib.MathLoose.max_long.x, Cond.code Lib.MathLoose.max_long.x Lib.MathLoose.max_long.code 4 (some .long), Cond.methodLink RX7 131 yX7_isWithin, Cond.instanceMethod yX7_isWithin, Cond.selects RX7 yX7_isWithin yX7_isWithin, Cond.code yX7_isWithin cX7_isWithin 3 (some .boolean), Cond.methodLink RX7 95 yX7_pop, Cond.instanceMethod yX7_pop, Cond.selects RX7 yX7_pop yX7_pop, Cond.code yX7_pop cX7_pop 1 (some .long), Cond.methodLink RX7 118 yX7_join]
def wsX8_freshen_r5 : List Cond := [Cond.static yX7_join, Cond.code yX7_join cX7_join 5 (some .long), Cond.methodLink RX7 150 yX7_times, Cond.static yX7_times, Cond.code yX7_times cX7_times 4 (some .long), Cond.instanceMethod yX6_isOutside, Cond.initialized RX6, Cond.selects RX6 yX6_isOutside yX6_isOutside, Cond.code yX6_isOutside cX6_isOutside 3 (some .boolean), Cond.constantLong RX6 42 (-9000000000000000000), Cond.fieldLink RX6 21 "TraitHouse$Trait" "lawFrom" "J", Cond.fieldLink RX6 27 "TraitHouse$Trait" "lawTo" "J", Cond.instanceMethod yX6_keep, Cond.selects RX6 yX6_keep yX6_keep, Cond.code yX6_keep cX6_keep 5 none, Cond.fieldLink RX6 9 "TraitHouse$Trait" "keptValues" "[J", Cond.fieldLink RX6 15 "TraitHouse$Trait" "keptMoments" "[I", Cond.instanceMethod yX1_put, Cond.initialized RX1, Cond.selects RX1 yX1_put yX1_put, Cond.code yX1_put cX1_put 7 none, Cond.fieldLink RX1 26 "TraitHouse$Places" "size" "I", Cond.fieldLink RX1 9 "TraitHouse$Places" "owners" "[I", Cond.fieldLink RX1 15 "TraitHouse$Places" "moments" "[I"]
def wsX8_freshen_r6 : List Cond := [Cond.fieldLink RX1 18 "TraitHouse$Places" "filled" "[Z", Cond.fieldLink RX1 22 "TraitHouse$Places" "values" "[J", Cond.methodLink RX1 30 yX1_owner, Cond.static yX1_owner, Cond.code yX1_owner cX1_owner 2 (some .int)]
def wsX8_freshen : List Cond := .code yX8_freshen cX8_freshen 5 (some .int) :: ((wsX8_freshen_r1 ++ (wsX8_freshen_r2 ++ (wsX8_freshen_r3 ++ (wsX8_freshen_r4 ++ (wsX8_freshen_r5 ++ wsX8_freshen_r6))))) ++ wsX60 ++ wsX80 ++ wsX70 ++ wsX30 ++ wsX00 ++ wsX40 ++ wsX10)
def wsX8_kept : List Cond := .code yX8_kept cX8_kept 4 (some .long) :: ([.constantLong RX8 175 (-9000000000000000000), .methodLink RX8 130 yX8_traitAt, .instanceMethod yX8_traitAt, .selects RX8 yX8_traitAt yX8_traitAt, .initialized RX8, .code yX8_traitAt cX8_traitAt 2 (some (.object "TraitHouse$Trait")), .fieldLink RX8 148 "TraitHouse" "traitsThere" "I", .fieldLink RX8 45 "TraitHouse" "traits" "[LTraitHouse$Trait;", .methodLink RX8 100 yX8_isPerson, .static yX8_isPerson, .code yX8_isPerson cX8_isPerson 1 (some .boolean)] ++ wsX60 ++ wsX80)
def wsX8_age : List Cond := .code yX8_age cX8_age 5 (some .int) :: ([.fieldLink RX8 83 "TraitHouse" "now" "I", .methodLink RX8 130 yX8_traitAt, .instanceMethod yX8_traitAt, .selects RX8 yX8_traitAt yX8_traitAt, .initialized RX8, .code yX8_traitAt cX8_traitAt 2 (some (.object "TraitHouse$Trait")), .fieldLink RX8 148 "TraitHouse" "traitsThere" "I", .fieldLink RX8 45 "TraitHouse" "traits" "[LTraitHouse$Trait;", .methodLink RX8 100 yX8_isPerson, .static yX8_isPerson, .code yX8_isPerson cX8_isPerson 1 (some .boolean), .instanceMethod yX6_isKept, .initialized RX6, .selects RX6 yX6_isKept yX6_isKept, .code yX6_isKept cX6_isKept 2 (some .boolean), .fieldLink RX6 15 "TraitHouse$Trait" "keptMoments" "[I", .instanceMethod yX6_isStale, .selects RX6 yX6_isStale yX6_isStale, .code yX6_isStale cX6_isStale 3 (some .boolean), .fieldLink RX6 31 "TraitHouse$Trait" "staleAbove" "I"] ++ wsX60 ++ wsX80)
def wsX8_held : List Cond := .code yX8_held cX8_held 3 (some .int) :: ([.methodLink RX8 130 yX8_traitAt, .instanceMethod yX8_traitAt, .selects RX8 yX8_traitAt yX8_traitAt, .initialized RX8, .code yX8_traitAt cX8_traitAt 2 (some (.object "TraitHouse$Trait")), .fieldLink RX8 148 "TraitHouse" "traitsThere" "I", .fieldLink RX8 45 "TraitHouse" "traits" "[LTraitHouse$Trait;"] ++ wsX60 ++ wsX80)
def wsX8_placesToFill : List Cond := .code yX8_placesToFill cX8_placesToFill 7 (some .int) :: ([.fieldLink RX8 83 "TraitHouse" "now" "I", .fieldLink RX8 127 "TraitHouse" "erasedPeople" "I", .fieldLink RX8 61 "TraitHouse" "places" "LTraitHouse$Places;", .methodLink RX8 79 yX8_isMoment, .static yX8_isMoment, .initialized RX8, .code yX8_isMoment cX8_isMoment 1 (some .boolean), .constant RX8 117 (100000), .methodLink RX8 130 yX8_traitAt, .instanceMethod yX8_traitAt, .selects RX8 yX8_traitAt yX8_traitAt, .code yX8_traitAt cX8_traitAt 2 (some (.object "TraitHouse$Trait")), .fieldLink RX8 148 "TraitHouse" "traitsThere" "I", .fieldLink RX8 45 "TraitHouse" "traits" "[LTraitHouse$Trait;", .instanceMethod yX1_free, .initialized RX1, .selects RX1 yX1_free yX1_free, .code yX1_free cX1_free 1 (some .int), .fieldLink RX1 26 "TraitHouse$Places" "size" "I"] ++ wsX80 ++ wsX10)
def wsX8_fillMoment_r1 : List Cond := [Cond.fieldLink RX8 23 "TraitHouse" "erased" "[Z", Cond.fieldLink RX8 61 "TraitHouse" "places" "LTraitHouse$Places;", Cond.fieldLink RX8 54 "TraitHouse" "worker" "LTraitHouse$Worker;", Cond.instanceMethod yX7_make, Cond.initialized RX7, Cond.selects RX7 yX7_make yX7_make, Cond.code yX7_make cX7_make 7 (some .long), Cond.fieldLink RX7 34 "TraitHouse$Worker" "traits" "[LTraitHouse$Trait;", Cond.constantLong RX7 38 (-9000000000000000000), Cond.fieldLink RX7 23 "TraitHouse$Worker" "values" "[J", Cond.methodLink RX7 46 yX7_look, Cond.instanceMethod yX7_look, Cond.selects RX7 yX7_look yX7_look, Cond.code yX7_look cX7_look 6 none, Cond.fieldLink RX7 30 "TraitHouse$Worker" "merges" "LTraitHouse$Merges;", Cond.fieldLink RX7 9 "TraitHouse$Worker" "ones" "[Z", Cond.fieldLink RX7 68 "TraitHouse$Worker" "moment" "I", Cond.fieldLink RX7 71 "TraitHouse$Worker" "seenRows" "I", Cond.fieldLink RX7 26 "TraitHouse$Worker" "rows" "LTraitHouse$Rows;", Cond.fieldLink RX7 15 "TraitHouse$Worker" "seen" "[I", Cond.instanceMethod yX0_lastOf, Cond.initialized RX0, Cond.selects RX0 yX0_lastOf yX0_lastOf, Cond.code yX0_lastOf cX0_lastOf 5 (some .int)]
def wsX8_fillMoment_r2 : List Cond := [Cond.fieldLink RX0 15 "TraitHouse$Merges" "knowns" "[I", Cond.fieldLink RX0 9 "TraitHouse$Merges" "targets" "[I", Cond.methodLink RX0 28 yX0_isTold, Cond.instanceMethod yX0_isTold, Cond.selects RX0 yX0_isTold yX0_isTold, Cond.code yX0_isTold cX0_isTold 2 (some .boolean), Cond.static yX8_hasBit, Cond.initialized RX8, Cond.code yX8_hasBit cX8_hasBit 2 (some .boolean), Cond.methodLink RX7 58 yX7_workOut, Cond.instanceMethod yX7_workOut, Cond.selects RX7 yX7_workOut yX7_workOut, Cond.code yX7_workOut cX7_workOut 3 (some .long), Cond.fieldLink RX7 88 "TraitHouse$Worker" "top" "I", Cond.methodLink RX7 91 yX7_perform, Cond.instanceMethod yX7_perform, Cond.selects RX7 yX7_perform yX7_perform, Cond.code yX7_perform cX7_perform 6 none, Cond.methodLink RX7 107 yX7_push, Cond.instanceMethod yX7_push, Cond.selects RX7 yX7_push yX7_push, Cond.code yX7_push cX7_push 3 none, Cond.fieldLink RX7 19 "TraitHouse$Worker" "stack" "[J", Cond.methodLink RX7 153 Lib.MathLoose.abs_long.x]
def wsX8_fillMoment_r3 : List Cond := [Cond.static Lib.MathLoose.abs_long.x, Cond.initialized "java/lang/Math", Cond.code Lib.MathLoose.abs_long.x Lib.MathLoose.abs_long.code 2 (some .long), Cond.constantLong RX7 157 (1000000000000), Cond.methodLink RX7 111 yX7_latest, Cond.instanceMethod yX7_latest, Cond.selects RX7 yX7_latest yX7_latest, Cond.code yX7_latest cX7_latest 5 (some .long), Cond.methodLink RX7 115 yX7_window, Cond.instanceMethod yX7_window, Cond.selects RX7 yX7_window yX7_window, Cond.code yX7_window cX7_window 11 (some .long), Cond.constantLong RX7 127 (1000000), Cond.constantLong RX7 129 (-1000000), Cond.methodLink RX7 135 Lib.MathLoose.min_long.x, Cond.static Lib.MathLoose.min_long.x, Cond.code Lib.MathLoose.min_long.x Lib.MathLoose.min_long.code 4 (some .long), Cond.methodLink RX7 141 Lib.MathLoose.max_long.x, Cond.static Lib.MathLoose.max_long.x, Cond.code Lib.MathLoose.max_long.x Lib.MathLoose.max_long.code 4 (some .long), Cond.methodLink RX7 131 yX7_isWithin, Cond.instanceMethod yX7_isWithin, Cond.selects RX7 yX7_isWithin yX7_isWithin, Cond.code yX7_isWithin cX7_isWithin 3 (some .boolean)]
def wsX8_fillMoment_r4 : List Cond := [Cond.methodLink RX7 95 yX7_pop, Cond.instanceMethod yX7_pop, Cond.selects RX7 yX7_pop yX7_pop, Cond.code yX7_pop cX7_pop 1 (some .long), Cond.methodLink RX7 118 yX7_join, Cond.static yX7_join, Cond.code yX7_join cX7_join 5 (some .long), Cond.methodLink RX7 150 yX7_times, Cond.static yX7_times, Cond.code yX7_times cX7_times 4 (some .long), Cond.instanceMethod yX1_put, Cond.initialized RX1, Cond.selects RX1 yX1_put yX1_put, Cond.code yX1_put cX1_put 7 none, Cond.fieldLink RX1 26 "TraitHouse$Places" "size" "I", Cond.fieldLink RX1 9 "TraitHouse$Places" "owners" "[I", Cond.fieldLink RX1 15 "TraitHouse$Places" "moments" "[I", Cond.fieldLink RX1 18 "TraitHouse$Places" "filled" "[Z", Cond.fieldLink RX1 22 "TraitHouse$Places" "values" "[J", Cond.methodLink RX1 30 yX1_owner, Cond.static yX1_owner, Cond.code yX1_owner cX1_owner 2 (some .int)]
def wsX8_fillMoment : List Cond := .code yX8_fillMoment cX8_fillMoment 4 none :: ((wsX8_fillMoment_r1 ++ (wsX8_fillMoment_r2 ++ (wsX8_fillMoment_r3 ++ wsX8_fillMoment_r4))) ++ wsX80 ++ wsX70 ++ wsX60 ++ wsX30 ++ wsX00 ++ wsX40 ++ wsX10)
def wsX8_fill_r1 : List Cond := [Cond.methodLink RX8 224 yX8_placesToFill, Cond.instanceMethod yX8_placesToFill, Cond.selects RX8 yX8_placesToFill yX8_placesToFill, Cond.initialized RX8, Cond.code yX8_placesToFill cX8_placesToFill 7 (some .int), Cond.fieldLink RX8 83 "TraitHouse" "now" "I", Cond.fieldLink RX8 127 "TraitHouse" "erasedPeople" "I", Cond.fieldLink RX8 61 "TraitHouse" "places" "LTraitHouse$Places;", Cond.methodLink RX8 79 yX8_isMoment, Cond.static yX8_isMoment, Cond.code yX8_isMoment cX8_isMoment 1 (some .boolean), Cond.constant RX8 117 (100000), Cond.methodLink RX8 130 yX8_traitAt, Cond.instanceMethod yX8_traitAt, Cond.selects RX8 yX8_traitAt yX8_traitAt, Cond.code yX8_traitAt cX8_traitAt 2 (some (.object "TraitHouse$Trait")), Cond.fieldLink RX8 148 "TraitHouse" "traitsThere" "I", Cond.fieldLink RX8 45 "TraitHouse" "traits" "[LTraitHouse$Trait;", Cond.instanceMethod yX1_free, Cond.initialized RX1, Cond.selects RX1 yX1_free yX1_free, Cond.code yX1_free cX1_free 1 (some .int), Cond.fieldLink RX1 26 "TraitHouse$Places" "size" "I", Cond.methodLink RX8 228 yX8_fillMoment]
def wsX8_fill_r2 : List Cond := [Cond.instanceMethod yX8_fillMoment, Cond.selects RX8 yX8_fillMoment yX8_fillMoment, Cond.code yX8_fillMoment cX8_fillMoment 4 none, Cond.fieldLink RX8 23 "TraitHouse" "erased" "[Z", Cond.fieldLink RX8 54 "TraitHouse" "worker" "LTraitHouse$Worker;", Cond.instanceMethod yX7_make, Cond.initialized RX7, Cond.selects RX7 yX7_make yX7_make, Cond.code yX7_make cX7_make 7 (some .long), Cond.fieldLink RX7 34 "TraitHouse$Worker" "traits" "[LTraitHouse$Trait;", Cond.constantLong RX7 38 (-9000000000000000000), Cond.fieldLink RX7 23 "TraitHouse$Worker" "values" "[J", Cond.methodLink RX7 46 yX7_look, Cond.instanceMethod yX7_look, Cond.selects RX7 yX7_look yX7_look, Cond.code yX7_look cX7_look 6 none, Cond.fieldLink RX7 30 "TraitHouse$Worker" "merges" "LTraitHouse$Merges;", Cond.fieldLink RX7 9 "TraitHouse$Worker" "ones" "[Z", Cond.fieldLink RX7 68 "TraitHouse$Worker" "moment" "I", Cond.fieldLink RX7 71 "TraitHouse$Worker" "seenRows" "I", Cond.fieldLink RX7 26 "TraitHouse$Worker" "rows" "LTraitHouse$Rows;", Cond.fieldLink RX7 15 "TraitHouse$Worker" "seen" "[I", Cond.instanceMethod yX0_lastOf, Cond.initialized RX0]
def wsX8_fill_r3 : List Cond := [Cond.selects RX0 yX0_lastOf yX0_lastOf, Cond.code yX0_lastOf cX0_lastOf 5 (some .int), Cond.fieldLink RX0 15 "TraitHouse$Merges" "knowns" "[I", Cond.fieldLink RX0 9 "TraitHouse$Merges" "targets" "[I", Cond.methodLink RX0 28 yX0_isTold, Cond.instanceMethod yX0_isTold, Cond.selects RX0 yX0_isTold yX0_isTold, Cond.code yX0_isTold cX0_isTold 2 (some .boolean), Cond.static yX8_hasBit, Cond.code yX8_hasBit cX8_hasBit 2 (some .boolean), Cond.methodLink RX7 58 yX7_workOut, Cond.instanceMethod yX7_workOut, Cond.selects RX7 yX7_workOut yX7_workOut, Cond.code yX7_workOut cX7_workOut 3 (some .long), Cond.fieldLink RX7 88 "TraitHouse$Worker" "top" "I", Cond.methodLink RX7 91 yX7_perform, Cond.instanceMethod yX7_perform, Cond.selects RX7 yX7_perform yX7_perform, Cond.code yX7_perform cX7_perform 6 none, Cond.methodLink RX7 107 yX7_push, Cond.instanceMethod yX7_push, Cond.selects RX7 yX7_push yX7_push, Cond.code yX7_push cX7_push 3 none, Cond.fieldLink RX7 19 "TraitHouse$Worker" "stack" "[J"]
def wsX8_fill_r4 : List Cond := [Cond.methodLink RX7 153 Lib.MathLoose.abs_long.x, Cond.static Lib.MathLoose.abs_long.x, Cond.initialized "java/lang/Math", Cond.code Lib.MathLoose.abs_long.x Lib.MathLoose.abs_long.code 2 (some .long), Cond.constantLong RX7 157 (1000000000000), Cond.methodLink RX7 111 yX7_latest, Cond.instanceMethod yX7_latest, Cond.selects RX7 yX7_latest yX7_latest, Cond.code yX7_latest cX7_latest 5 (some .long), Cond.methodLink RX7 115 yX7_window, Cond.instanceMethod yX7_window, Cond.selects RX7 yX7_window yX7_window, Cond.code yX7_window cX7_window 11 (some .long), Cond.constantLong RX7 127 (1000000), Cond.constantLong RX7 129 (-1000000), Cond.methodLink RX7 135 Lib.MathLoose.min_long.x, Cond.static Lib.MathLoose.min_long.x, Cond.code Lib.MathLoose.min_long.x Lib.MathLoose.min_long.code 4 (some .long), Cond.methodLink RX7 141 Lib.MathLoose.max_long.x, Cond.static Lib.MathLoose.max_long.x, Cond.code Lib.MathLoose.max_long.x Lib.MathLoose.max_long.code 4 (some .long), Cond.methodLink RX7 131 yX7_isWithin, Cond.instanceMethod yX7_isWithin, Cond.selects RX7 yX7_isWithin yX7_isWithin]
def wsX8_fill_r5 : List Cond := [Cond.code yX7_isWithin cX7_isWithin 3 (some .boolean), Cond.methodLink RX7 95 yX7_pop, Cond.instanceMethod yX7_pop, Cond.selects RX7 yX7_pop yX7_pop, Cond.code yX7_pop cX7_pop 1 (some .long), Cond.methodLink RX7 118 yX7_join, Cond.static yX7_join, Cond.code yX7_join cX7_join 5 (some .long), Cond.methodLink RX7 150 yX7_times, Cond.static yX7_times, Cond.code yX7_times cX7_times 4 (some .long), Cond.instanceMethod yX1_put, Cond.selects RX1 yX1_put yX1_put, Cond.code yX1_put cX1_put 7 none, Cond.fieldLink RX1 9 "TraitHouse$Places" "owners" "[I", Cond.fieldLink RX1 15 "TraitHouse$Places" "moments" "[I", Cond.fieldLink RX1 18 "TraitHouse$Places" "filled" "[Z", Cond.fieldLink RX1 22 "TraitHouse$Places" "values" "[J", Cond.methodLink RX1 30 yX1_owner, Cond.static yX1_owner, Cond.code yX1_owner cX1_owner 2 (some .int), Cond.methodLink RX8 86 yX8_settle, Cond.instanceMethod yX8_settle, Cond.selects RX8 yX8_settle yX8_settle]
def wsX8_fill_r6 : List Cond := [Cond.code yX8_settle cX8_settle 2 (some .int), Cond.methodLink RX8 292 Lib.Math.min.name, Cond.static Lib.Math.min.name, Cond.code Lib.Math.min.name Lib.Math.min.code 2 (some .int), Cond.fieldLink RX8 289 "TraitHouse" "latestRefusal" "I"]
def wsX8_fill : List Cond := .code yX8_fill cX8_fill 8 (some .int) :: ((wsX8_fill_r1 ++ (wsX8_fill_r2 ++ (wsX8_fill_r3 ++ (wsX8_fill_r4 ++ (wsX8_fill_r5 ++ wsX8_fill_r6))))) ++ wsX80 ++ wsX10 ++ wsX70 ++ wsX60 ++ wsX30 ++ wsX00 ++ wsX40)
def wsX8_placeOf_r1 : List Cond := [Cond.fieldLink RX8 61 "TraitHouse" "places" "LTraitHouse$Places;", Cond.methodLink RX8 130 yX8_traitAt, Cond.instanceMethod yX8_traitAt, Cond.selects RX8 yX8_traitAt yX8_traitAt, Cond.initialized RX8, Cond.code yX8_traitAt cX8_traitAt 2 (some (.object "TraitHouse$Trait")), Cond.fieldLink RX8 148 "TraitHouse" "traitsThere" "I", Cond.fieldLink RX8 45 "TraitHouse" "traits" "[LTraitHouse$Trait;", Cond.methodLink RX8 100 yX8_isPerson, Cond.static yX8_isPerson, Cond.code yX8_isPerson cX8_isPerson 1 (some .boolean), Cond.methodLink RX8 79 yX8_isMoment, Cond.static yX8_isMoment, Cond.code yX8_isMoment cX8_isMoment 1 (some .boolean), Cond.constant RX8 117 (100000), Cond.instanceMethod yX1_find, Cond.initialized RX1, Cond.selects RX1 yX1_find yX1_find, Cond.code yX1_find cX1_find 7 (some .int), Cond.fieldLink RX1 26 "TraitHouse$Places" "size" "I", Cond.fieldLink RX1 9 "TraitHouse$Places" "owners" "[I", Cond.fieldLink RX1 15 "TraitHouse$Places" "moments" "[I", Cond.methodLink RX1 30 yX1_owner, Cond.static yX1_owner]
def wsX8_placeOf_r2 : List Cond := [Cond.code yX1_owner cX1_owner 2 (some .int)]
def wsX8_placeOf : List Cond := .code yX8_placeOf cX8_placeOf 4 (some .int) :: ((wsX8_placeOf_r1 ++ wsX8_placeOf_r2) ++ wsX80 ++ wsX10)
def wsX8_history_r1 : List Cond := [Cond.constantLong RX8 175 (-9000000000000000000), Cond.fieldLink RX8 61 "TraitHouse" "places" "LTraitHouse$Places;", Cond.methodLink RX8 235 yX8_placeOf, Cond.instanceMethod yX8_placeOf, Cond.selects RX8 yX8_placeOf yX8_placeOf, Cond.initialized RX8, Cond.code yX8_placeOf cX8_placeOf 4 (some .int), Cond.methodLink RX8 130 yX8_traitAt, Cond.instanceMethod yX8_traitAt, Cond.selects RX8 yX8_traitAt yX8_traitAt, Cond.code yX8_traitAt cX8_traitAt 2 (some (.object "TraitHouse$Trait")), Cond.fieldLink RX8 148 "TraitHouse" "traitsThere" "I", Cond.fieldLink RX8 45 "TraitHouse" "traits" "[LTraitHouse$Trait;", Cond.methodLink RX8 100 yX8_isPerson, Cond.static yX8_isPerson, Cond.code yX8_isPerson cX8_isPerson 1 (some .boolean), Cond.methodLink RX8 79 yX8_isMoment, Cond.static yX8_isMoment, Cond.code yX8_isMoment cX8_isMoment 1 (some .boolean), Cond.constant RX8 117 (100000), Cond.instanceMethod yX1_find, Cond.initialized RX1, Cond.selects RX1 yX1_find yX1_find, Cond.code yX1_find cX1_find 7 (some .int)]
def wsX8_history_r2 : List Cond := [Cond.fieldLink RX1 26 "TraitHouse$Places" "size" "I", Cond.fieldLink RX1 9 "TraitHouse$Places" "owners" "[I", Cond.fieldLink RX1 15 "TraitHouse$Places" "moments" "[I", Cond.methodLink RX1 30 yX1_owner, Cond.static yX1_owner, Cond.code yX1_owner cX1_owner 2 (some .int)]
def wsX8_history : List Cond := .code yX8_history cX8_history 5 (some .long) :: ((wsX8_history_r1 ++ wsX8_history_r2) ++ wsX80 ++ wsX10)
def wsX8_told_r1 : List Cond := [Cond.fieldLink RX8 61 "TraitHouse" "places" "LTraitHouse$Places;", Cond.methodLink RX8 235 yX8_placeOf, Cond.instanceMethod yX8_placeOf, Cond.selects RX8 yX8_placeOf yX8_placeOf, Cond.initialized RX8, Cond.code yX8_placeOf cX8_placeOf 4 (some .int), Cond.methodLink RX8 130 yX8_traitAt, Cond.instanceMethod yX8_traitAt, Cond.selects RX8 yX8_traitAt yX8_traitAt, Cond.code yX8_traitAt cX8_traitAt 2 (some (.object "TraitHouse$Trait")), Cond.fieldLink RX8 148 "TraitHouse" "traitsThere" "I", Cond.fieldLink RX8 45 "TraitHouse" "traits" "[LTraitHouse$Trait;", Cond.methodLink RX8 100 yX8_isPerson, Cond.static yX8_isPerson, Cond.code yX8_isPerson cX8_isPerson 1 (some .boolean), Cond.methodLink RX8 79 yX8_isMoment, Cond.static yX8_isMoment, Cond.code yX8_isMoment cX8_isMoment 1 (some .boolean), Cond.constant RX8 117 (100000), Cond.instanceMethod yX1_find, Cond.initialized RX1, Cond.selects RX1 yX1_find yX1_find, Cond.code yX1_find cX1_find 7 (some .int), Cond.fieldLink RX1 26 "TraitHouse$Places" "size" "I"]
def wsX8_told_r2 : List Cond := [Cond.fieldLink RX1 9 "TraitHouse$Places" "owners" "[I", Cond.fieldLink RX1 15 "TraitHouse$Places" "moments" "[I", Cond.methodLink RX1 30 yX1_owner, Cond.static yX1_owner, Cond.code yX1_owner cX1_owner 2 (some .int)]
def wsX8_told : List Cond := .code yX8_told cX8_told 6 (some .int) :: ((wsX8_told_r1 ++ wsX8_told_r2) ++ wsX80 ++ wsX10)
def wsX8_model_r1 : List Cond := [Cond.fieldLink RX8 148 "TraitHouse" "traitsThere" "I", Cond.fieldLink RX8 250 "TraitHouse" "modelsThere" "I", Cond.fieldLink RX8 65 "TraitHouse" "models" "[I", Cond.methodLink RX8 86 yX8_settle, Cond.instanceMethod yX8_settle, Cond.selects RX8 yX8_settle yX8_settle, Cond.initialized RX8, Cond.code yX8_settle cX8_settle 2 (some .int), Cond.methodLink RX8 292 Lib.Math.min.name, Cond.static Lib.Math.min.name, Cond.initialized "java/lang/Math", Cond.code Lib.Math.min.name Lib.Math.min.code 2 (some .int), Cond.fieldLink RX8 289 "TraitHouse" "latestRefusal" "I", Cond.methodLink RX8 169 yX8_needsOf, Cond.instanceMethod yX8_needsOf, Cond.selects RX8 yX8_needsOf yX8_needsOf, Cond.code yX8_needsOf cX8_needsOf 5 (some .int), Cond.methodLink RX8 130 yX8_traitAt, Cond.instanceMethod yX8_traitAt, Cond.selects RX8 yX8_traitAt yX8_traitAt, Cond.code yX8_traitAt cX8_traitAt 2 (some (.object "TraitHouse$Trait")), Cond.fieldLink RX8 45 "TraitHouse" "traits" "[LTraitHouse$Trait;", Cond.methodLink RX8 256 yX8_hasBit, Cond.static yX8_hasBit]
def wsX8_model_r2 : List Cond := [Cond.code yX8_hasBit cX8_hasBit 2 (some .boolean)]
def wsX8_model : List Cond := .code yX8_model cX8_model 2 (some .int) :: ((wsX8_model_r1 ++ wsX8_model_r2) ++ wsX80 ++ wsX60)
def wsX8_isModel : List Cond := .code yX8_isModel cX8_isModel 2 (some .boolean) :: ([.fieldLink RX8 250 "TraitHouse" "modelsThere" "I"] ++ wsX80)
def wsX8_needed : List Cond := .code yX8_needed cX8_needed 2 (some .int) :: ([.fieldLink RX8 65 "TraitHouse" "models" "[I", .methodLink RX8 253 yX8_isModel, .instanceMethod yX8_isModel, .selects RX8 yX8_isModel yX8_isModel, .initialized RX8, .code yX8_isModel cX8_isModel 2 (some .boolean), .fieldLink RX8 250 "TraitHouse" "modelsThere" "I"] ++ wsX80)
def wsX8_hung : List Cond := .code yX8_hung cX8_hung 4 (some .int) :: ([.fieldLink RX8 250 "TraitHouse" "modelsThere" "I", .fieldLink RX8 65 "TraitHouse" "models" "[I", .methodLink RX8 130 yX8_traitAt, .instanceMethod yX8_traitAt, .selects RX8 yX8_traitAt yX8_traitAt, .initialized RX8, .code yX8_traitAt cX8_traitAt 2 (some (.object "TraitHouse$Trait")), .fieldLink RX8 148 "TraitHouse" "traitsThere" "I", .fieldLink RX8 45 "TraitHouse" "traits" "[LTraitHouse$Trait;", .methodLink RX8 256 yX8_hasBit, .static yX8_hasBit, .code yX8_hasBit cX8_hasBit 2 (some .boolean)] ++ wsX80)
def wsX8_misses_r1 : List Cond := [Cond.fieldLink RX8 148 "TraitHouse" "traitsThere" "I", Cond.fieldLink RX8 65 "TraitHouse" "models" "[I", Cond.fieldLink RX8 83 "TraitHouse" "now" "I", Cond.methodLink RX8 253 yX8_isModel, Cond.instanceMethod yX8_isModel, Cond.selects RX8 yX8_isModel yX8_isModel, Cond.initialized RX8, Cond.code yX8_isModel cX8_isModel 2 (some .boolean), Cond.fieldLink RX8 250 "TraitHouse" "modelsThere" "I", Cond.methodLink RX8 100 yX8_isPerson, Cond.static yX8_isPerson, Cond.code yX8_isPerson cX8_isPerson 1 (some .boolean), Cond.methodLink RX8 130 yX8_traitAt, Cond.instanceMethod yX8_traitAt, Cond.selects RX8 yX8_traitAt yX8_traitAt, Cond.code yX8_traitAt cX8_traitAt 2 (some (.object "TraitHouse$Trait")), Cond.fieldLink RX8 45 "TraitHouse" "traits" "[LTraitHouse$Trait;", Cond.methodLink RX8 256 yX8_hasBit, Cond.static yX8_hasBit, Cond.code yX8_hasBit cX8_hasBit 2 (some .boolean), Cond.instanceMethod yX6_isMissing, Cond.initialized RX6, Cond.selects RX6 yX6_isMissing yX6_isMissing, Cond.code yX6_isMissing cX6_isMissing 3 (some .boolean)]
def wsX8_misses_r2 : List Cond := [Cond.fieldLink RX6 9 "TraitHouse$Trait" "keptValues" "[J", Cond.constantLong RX6 42 (-9000000000000000000), Cond.methodLink RX6 57 yX6_isKept, Cond.instanceMethod yX6_isKept, Cond.selects RX6 yX6_isKept yX6_isKept, Cond.code yX6_isKept cX6_isKept 2 (some .boolean), Cond.fieldLink RX6 15 "TraitHouse$Trait" "keptMoments" "[I", Cond.methodLink RX6 61 yX6_isStale, Cond.instanceMethod yX6_isStale, Cond.selects RX6 yX6_isStale yX6_isStale, Cond.code yX6_isStale cX6_isStale 3 (some .boolean), Cond.fieldLink RX6 31 "TraitHouse$Trait" "staleAbove" "I"]
def wsX8_misses : List Cond := .code yX8_misses cX8_misses 6 (some .int) :: ((wsX8_misses_r1 ++ wsX8_misses_r2) ++ wsX80 ++ wsX60)
def wsX8_heapUp_r1 : List Cond := [Cond.fieldLink RX8 23 "TraitHouse" "erased" "[Z", Cond.constantLong RX8 175 (-9000000000000000000), Cond.fieldLink RX8 54 "TraitHouse" "worker" "LTraitHouse$Worker;", Cond.methodLink RX8 280 yJ7_fill_53178, Cond.static yJ7_fill_53178, Cond.initialized RJ7, Cond.code yJ7_fill_53178 cJ7_fill_53178 4 none, Cond.instanceMethod yX7_make, Cond.initialized RX7, Cond.selects RX7 yX7_make yX7_make, Cond.code yX7_make cX7_make 7 (some .long), Cond.fieldLink RX7 34 "TraitHouse$Worker" "traits" "[LTraitHouse$Trait;", Cond.constantLong RX7 38 (-9000000000000000000), Cond.fieldLink RX7 23 "TraitHouse$Worker" "values" "[J", Cond.methodLink RX7 46 yX7_look, Cond.instanceMethod yX7_look, Cond.selects RX7 yX7_look yX7_look, Cond.code yX7_look cX7_look 6 none, Cond.fieldLink RX7 30 "TraitHouse$Worker" "merges" "LTraitHouse$Merges;", Cond.fieldLink RX7 9 "TraitHouse$Worker" "ones" "[Z", Cond.fieldLink RX7 68 "TraitHouse$Worker" "moment" "I", Cond.fieldLink RX7 71 "TraitHouse$Worker" "seenRows" "I", Cond.fieldLink RX7 26 "TraitHouse$Worker" "rows" "LTraitHouse$Rows;", Cond.fieldLink RX7 15 "TraitHouse$Worker" "seen" "[I"]
def wsX8_heapUp_r2 : List Cond := [Cond.instanceMethod yX0_lastOf, Cond.initialized RX0, Cond.selects RX0 yX0_lastOf yX0_lastOf, Cond.code yX0_lastOf cX0_lastOf 5 (some .int), Cond.fieldLink RX0 15 "TraitHouse$Merges" "knowns" "[I", Cond.fieldLink RX0 9 "TraitHouse$Merges" "targets" "[I", Cond.methodLink RX0 28 yX0_isTold, Cond.instanceMethod yX0_isTold, Cond.selects RX0 yX0_isTold yX0_isTold, Cond.code yX0_isTold cX0_isTold 2 (some .boolean), Cond.static yX8_hasBit, Cond.initialized RX8, Cond.code yX8_hasBit cX8_hasBit 2 (some .boolean), Cond.methodLink RX7 58 yX7_workOut, Cond.instanceMethod yX7_workOut, Cond.selects RX7 yX7_workOut yX7_workOut, Cond.code yX7_workOut cX7_workOut 3 (some .long), Cond.fieldLink RX7 88 "TraitHouse$Worker" "top" "I", Cond.methodLink RX7 91 yX7_perform, Cond.instanceMethod yX7_perform, Cond.selects RX7 yX7_perform yX7_perform, Cond.code yX7_perform cX7_perform 6 none, Cond.methodLink RX7 107 yX7_push, Cond.instanceMethod yX7_push]
def wsX8_heapUp_r3 : List Cond := [Cond.selects RX7 yX7_push yX7_push, Cond.code yX7_push cX7_push 3 none, Cond.fieldLink RX7 19 "TraitHouse$Worker" "stack" "[J", Cond.methodLink RX7 153 Lib.MathLoose.abs_long.x, Cond.static Lib.MathLoose.abs_long.x, Cond.initialized "java/lang/Math", Cond.code Lib.MathLoose.abs_long.x Lib.MathLoose.abs_long.code 2 (some .long), Cond.constantLong RX7 157 (1000000000000), Cond.methodLink RX7 111 yX7_latest, Cond.instanceMethod yX7_latest, Cond.selects RX7 yX7_latest yX7_latest, Cond.code yX7_latest cX7_latest 5 (some .long), Cond.methodLink RX7 115 yX7_window, Cond.instanceMethod yX7_window, Cond.selects RX7 yX7_window yX7_window, Cond.code yX7_window cX7_window 11 (some .long), Cond.constantLong RX7 127 (1000000), Cond.constantLong RX7 129 (-1000000), Cond.methodLink RX7 135 Lib.MathLoose.min_long.x, Cond.static Lib.MathLoose.min_long.x, Cond.code Lib.MathLoose.min_long.x Lib.MathLoose.min_long.code 4 (some .long), Cond.methodLink RX7 141 Lib.MathLoose.max_long.x, Cond.static Lib.MathLoose.max_long.x, Cond.code Lib.MathLoose.max_long.x Lib.MathLoose.max_long.code 4 (some .long)]
def wsX8_heapUp_r4 : List Cond := [Cond.methodLink RX7 131 yX7_isWithin, Cond.instanceMethod yX7_isWithin, Cond.selects RX7 yX7_isWithin yX7_isWithin, Cond.code yX7_isWithin cX7_isWithin 3 (some .boolean), Cond.methodLink RX7 95 yX7_pop, Cond.instanceMethod yX7_pop, Cond.selects RX7 yX7_pop yX7_pop, Cond.code yX7_pop cX7_pop 1 (some .long), Cond.methodLink RX7 118 yX7_join, Cond.static yX7_join, Cond.code yX7_join cX7_join 5 (some .long), Cond.methodLink RX7 150 yX7_times, Cond.static yX7_times, Cond.code yX7_times cX7_times 4 (some .long)]
def wsX8_heapUp : List Cond := .code yX8_heapUp cX8_heapUp 15 (some .int) :: ((wsX8_heapUp_r1 ++ (wsX8_heapUp_r2 ++ (wsX8_heapUp_r3 ++ wsX8_heapUp_r4))) ++ wsX80 ++ wsX70 ++ wsX60 ++ wsX30 ++ wsX00 ++ wsX40)
def wsX8_commonDivisor : List Cond := .code yX8_commonDivisor cX8_commonDivisor 6 (some .int) :: ([.methodLink RX8 272 Lib.Math.max.name, .static Lib.Math.max.name, .initialized "java/lang/Math", .code Lib.Math.max.name Lib.Math.max.code 2 (some .int)])
def wsX8_shift_r1 : List Cond := [Cond.constantLong RX8 262 (-1), Cond.constantLong RX8 264 (-2), Cond.fieldLink RX8 69 "TraitHouse" "heapsAtOne" "[I", Cond.fieldLink RX8 72 "TraitHouse" "heapsAtOther" "[I", Cond.constantLong RX8 270 (-6), Cond.methodLink RX8 272 Lib.Math.max.name, Cond.static Lib.Math.max.name, Cond.initialized "java/lang/Math", Cond.code Lib.Math.max.name Lib.Math.max.code 2 (some .int), Cond.methodLink RX8 79 yX8_isMoment, Cond.static yX8_isMoment, Cond.initialized RX8, Cond.code yX8_isMoment cX8_isMoment 1 (some .boolean), Cond.constant RX8 117 (100000), Cond.methodLink RX8 130 yX8_traitAt, Cond.instanceMethod yX8_traitAt, Cond.selects RX8 yX8_traitAt yX8_traitAt, Cond.code yX8_traitAt cX8_traitAt 2 (some (.object "TraitHouse$Trait")), Cond.fieldLink RX8 148 "TraitHouse" "traitsThere" "I", Cond.fieldLink RX8 45 "TraitHouse" "traits" "[LTraitHouse$Trait;", Cond.methodLink RX8 266 yX8_heapUp, Cond.instanceMethod yX8_heapUp, Cond.selects RX8 yX8_heapUp yX8_heapUp, Cond.code yX8_heapUp cX8_heapUp 15 (some .int)]
def wsX8_shift_r2 : List Cond := [Cond.fieldLink RX8 23 "TraitHouse" "erased" "[Z", Cond.constantLong RX8 175 (-9000000000000000000), Cond.fieldLink RX8 54 "TraitHouse" "worker" "LTraitHouse$Worker;", Cond.methodLink RX8 280 yJ7_fill_53178, Cond.static yJ7_fill_53178, Cond.initialized RJ7, Cond.code yJ7_fill_53178 cJ7_fill_53178 4 none, Cond.instanceMethod yX7_make, Cond.initialized RX7, Cond.selects RX7 yX7_make yX7_make, Cond.code yX7_make cX7_make 7 (some .long), Cond.fieldLink RX7 34 "TraitHouse$Worker" "traits" "[LTraitHouse$Trait;", Cond.constantLong RX7 38 (-9000000000000000000), Cond.fieldLink RX7 23 "TraitHouse$Worker" "values" "[J", Cond.methodLink RX7 46 yX7_look, Cond.instanceMethod yX7_look, Cond.selects RX7 yX7_look yX7_look, Cond.code yX7_look cX7_look 6 none, Cond.fieldLink RX7 30 "TraitHouse$Worker" "merges" "LTraitHouse$Merges;", Cond.fieldLink RX7 9 "TraitHouse$Worker" "ones" "[Z", Cond.fieldLink RX7 68 "TraitHouse$Worker" "moment" "I", Cond.fieldLink RX7 71 "TraitHouse$Worker" "seenRows" "I", Cond.fieldLink RX7 26 "TraitHouse$Worker" "rows" "LTraitHouse$Rows;", Cond.fieldLink RX7 15 "TraitHouse$Worker" "seen" "[I"]
def wsX8_shift_r3 : List Cond := [Cond.instanceMethod yX0_lastOf, Cond.initialized RX0, Cond.selects RX0 yX0_lastOf yX0_lastOf, Cond.code yX0_lastOf cX0_lastOf 5 (some .int), Cond.fieldLink RX0 15 "TraitHouse$Merges" "knowns" "[I", Cond.fieldLink RX0 9 "TraitHouse$Merges" "targets" "[I", Cond.methodLink RX0 28 yX0_isTold, Cond.instanceMethod yX0_isTold, Cond.selects RX0 yX0_isTold yX0_isTold, Cond.code yX0_isTold cX0_isTold 2 (some .boolean), Cond.static yX8_hasBit, Cond.code yX8_hasBit cX8_hasBit 2 (some .boolean), Cond.methodLink RX7 58 yX7_workOut, Cond.instanceMethod yX7_workOut, Cond.selects RX7 yX7_workOut yX7_workOut, Cond.code yX7_workOut cX7_workOut 3 (some .long), Cond.fieldLink RX7 88 "TraitHouse$Worker" "top" "I", Cond.methodLink RX7 91 yX7_perform, Cond.instanceMethod yX7_perform, Cond.selects RX7 yX7_perform yX7_perform, Cond.code yX7_perform cX7_perform 6 none, Cond.methodLink RX7 107 yX7_push, Cond.instanceMethod yX7_push, Cond.selects RX7 yX7_push yX7_push]
def wsX8_shift_r4 : List Cond := [Cond.code yX7_push cX7_push 3 none, Cond.fieldLink RX7 19 "TraitHouse$Worker" "stack" "[J", Cond.methodLink RX7 153 Lib.MathLoose.abs_long.x, Cond.static Lib.MathLoose.abs_long.x, Cond.code Lib.MathLoose.abs_long.x Lib.MathLoose.abs_long.code 2 (some .long), Cond.constantLong RX7 157 (1000000000000), Cond.methodLink RX7 111 yX7_latest, Cond.instanceMethod yX7_latest, Cond.selects RX7 yX7_latest yX7_latest, Cond.code yX7_latest cX7_latest 5 (some .long), Cond.methodLink RX7 115 yX7_window, Cond.instanceMethod yX7_window, Cond.selects RX7 yX7_window yX7_window, Cond.code yX7_window cX7_window 11 (some .long), Cond.constantLong RX7 127 (1000000), Cond.constantLong RX7 129 (-1000000), Cond.methodLink RX7 135 Lib.MathLoose.min_long.x, Cond.static Lib.MathLoose.min_long.x, Cond.code Lib.MathLoose.min_long.x Lib.MathLoose.min_long.code 4 (some .long), Cond.methodLink RX7 141 Lib.MathLoose.max_long.x, Cond.static Lib.MathLoose.max_long.x, Cond.code Lib.MathLoose.max_long.x Lib.MathLoose.max_long.code 4 (some .long), Cond.methodLink RX7 131 yX7_isWithin, Cond.instanceMethod yX7_isWithin]
def wsX8_shift_r5 : List Cond := [Cond.selects RX7 yX7_isWithin yX7_isWithin, Cond.code yX7_isWithin cX7_isWithin 3 (some .boolean), Cond.methodLink RX7 95 yX7_pop, Cond.instanceMethod yX7_pop, Cond.selects RX7 yX7_pop yX7_pop, Cond.code yX7_pop cX7_pop 1 (some .long), Cond.methodLink RX7 118 yX7_join, Cond.static yX7_join, Cond.code yX7_join cX7_join 5 (some .long), Cond.methodLink RX7 150 yX7_times, Cond.static yX7_times, Cond.code yX7_times cX7_times 4 (some .long), Cond.methodLink RX8 277 yX8_commonDivisor, Cond.static yX8_commonDivisor, Cond.code yX8_commonDivisor cX8_commonDivisor 6 (some .int)]
def wsX8_shift : List Cond := .code yX8_shift cX8_shift 16 (some .long) :: ((wsX8_shift_r1 ++ (wsX8_shift_r2 ++ (wsX8_shift_r3 ++ (wsX8_shift_r4 ++ wsX8_shift_r5)))) ++ wsX80 ++ wsX70 ++ wsX60 ++ wsX30 ++ wsX00 ++ wsX40)
def wsX8_count : List Cond := .code yX8_count cX8_count 2 (some .int) :: ([.fieldLink RX8 83 "TraitHouse" "now" "I", .fieldLink RX8 10 "TraitHouse" "rows" "LTraitHouse$Rows;", .fieldLink RX8 19 "TraitHouse" "merges" "LTraitHouse$Merges;", .fieldLink RX8 127 "TraitHouse" "erasedPeople" "I", .fieldLink RX8 148 "TraitHouse" "traitsThere" "I", .fieldLink RX8 250 "TraitHouse" "modelsThere" "I", .fieldLink RX8 61 "TraitHouse" "places" "LTraitHouse$Places;", .fieldLink RX8 30 "TraitHouse" "tape" "LTraitHouse$Tape;"] ++ wsX80 ++ wsX30 ++ wsX00 ++ wsX10 ++ wsX50)
def wsX8_status : List Cond := .code yX8_status cX8_status 1 (some .int) :: ([.fieldLink RX8 289 "TraitHouse" "latestRefusal" "I"] ++ wsX80)
def wsX9_init_r1 : List Cond := [Cond.methodLink RX9 1 objectInit, Cond.instanceMethod objectInit, Cond.code objectInit ⟨#[0xb1]⟩ 1 none, Cond.arrayClass .int, Cond.fieldLink RX9 7 "TraitHouseModel" "rowPerson" "[I", Cond.fieldLink RX9 13 "TraitHouseModel" "rowStream" "[I", Cond.fieldLink RX9 16 "TraitHouseModel" "rowMoment" "[I", Cond.fieldLink RX9 19 "TraitHouseModel" "rowKnown" "[I", Cond.fieldLink RX9 22 "TraitHouseModel" "rowValue" "[I", Cond.arrayClass .boolean, Cond.fieldLink RX9 25 "TraitHouseModel" "isGone" "[Z", Cond.fieldLink RX9 29 "TraitHouseModel" "mergeTo" "[I", Cond.fieldLink RX9 32 "TraitHouseModel" "mergeKnown" "[I", Cond.fieldLink RX9 35 "TraitHouseModel" "isErased" "[Z", Cond.arrayClass .byte, Cond.fieldLink RX9 38 "TraitHouseModel" "tape" "[B", Cond.fieldLink RX9 42 "TraitHouseModel" "fault" "I", Cond.fieldLink RX9 46 "TraitHouseModel" "five" "[I", Cond.fieldLink RX9 49 "TraitHouseModel" "size0" "[I", Cond.fieldLink RX9 52 "TraitHouseModel" "step" "[I", Cond.fieldLink RX9 55 "TraitHouseModel" "stepA" "[I", Cond.fieldLink RX9 58 "TraitHouseModel" "stepB" "[I", Cond.fieldLink RX9 61 "TraitHouseModel" "stepC" "[I", Cond.arrayClass .long]
def wsX9_init_r2 : List Cond := [Cond.fieldLink RX9 64 "TraitHouseModel" "values" "[J", Cond.fieldLink RX9 68 "TraitHouseModel" "heap" "[J", Cond.fieldLink RX9 71 "TraitHouseModel" "isOne" "[Z", Cond.fieldLink RX9 74 "TraitHouseModel" "lawFrom" "[J", Cond.fieldLink RX9 77 "TraitHouseModel" "lawTo" "[J", Cond.fieldLink RX9 80 "TraitHouseModel" "hasLaw" "[Z", Cond.fieldLink RX9 83 "TraitHouseModel" "limits" "[I", Cond.fieldLink RX9 86 "TraitHouseModel" "held" "[I", Cond.fieldLink RX9 89 "TraitHouseModel" "hasKept" "[Z", Cond.fieldLink RX9 92 "TraitHouseModel" "kept" "[J", Cond.fieldLink RX9 95 "TraitHouseModel" "keptAt" "[I", Cond.fieldLink RX9 98 "TraitHouseModel" "placeTrait" "[I", Cond.fieldLink RX9 101 "TraitHouseModel" "placePerson" "[I", Cond.fieldLink RX9 104 "TraitHouseModel" "placeMoment" "[I", Cond.fieldLink RX9 107 "TraitHouseModel" "placeValue" "[J", Cond.fieldLink RX9 110 "TraitHouseModel" "isFilled" "[Z", Cond.fieldLink RX9 113 "TraitHouseModel" "uses" "[I", Cond.fieldLink RX9 116 "TraitHouseModel" "heapsOne" "[I", Cond.fieldLink RX9 119 "TraitHouseModel" "heapsOther" "[I"]
def wsX9_init : List Cond := .code yX9_init cX9_init 1 none :: ((wsX9_init_r1 ++ wsX9_init_r2) ++ wsX90)
def wsX9_in : List Cond := .code yX9_in cX9_in 6 (some .boolean) :: ([])
def wsX9_ends : List Cond := .code yX9_ends cX9_ends 2 (some .int) :: ([.fieldLink RX9 122 "TraitHouseModel" "status" "I"] ++ wsX90)
def wsX9_isMoment : List Cond := .code yX9_isMoment cX9_isMoment 1 (some .boolean) :: ([.constantLong RX9 125 (100000), .methodLink RX9 127 yX9_in, .static yX9_in, .initialized RX9, .code yX9_in cX9_in 6 (some .boolean)])
def wsX9_isPerson : List Cond := .code yX9_isPerson cX9_isPerson 1 (some .boolean) :: ([.constantLong RX9 131 (19), .methodLink RX9 127 yX9_in, .static yX9_in, .initialized RX9, .code yX9_in cX9_in 6 (some .boolean)])
def wsX9_now : List Cond := .code yX9_now cX9_now 2 (some .int) :: ([.fieldLink RX9 133 "TraitHouseModel" "now" "I", .constantLong RX9 125 (100000), .methodLink RX9 127 yX9_in, .static yX9_in, .initialized RX9, .code yX9_in cX9_in 6 (some .boolean), .methodLink RX9 136 yX9_ends, .instanceMethod yX9_ends, .selects RX9 yX9_ends yX9_ends, .code yX9_ends cX9_ends 2 (some .int), .fieldLink RX9 122 "TraitHouseModel" "status" "I"] ++ wsX90)
def wsX9_row_r1 : List Cond := [Cond.constantLong RX9 140 (5), Cond.constantLong RX9 125 (100000), Cond.constantLong RX9 146 (-1000000), Cond.constantLong RX9 148 (1000000), Cond.fieldLink RX9 153 "TraitHouseModel" "told" "I", Cond.fieldLink RX9 35 "TraitHouseModel" "isErased" "[Z", Cond.fieldLink RX9 7 "TraitHouseModel" "rowPerson" "[I", Cond.fieldLink RX9 13 "TraitHouseModel" "rowStream" "[I", Cond.fieldLink RX9 16 "TraitHouseModel" "rowMoment" "[I", Cond.fieldLink RX9 19 "TraitHouseModel" "rowKnown" "[I", Cond.fieldLink RX9 22 "TraitHouseModel" "rowValue" "[I", Cond.methodLink RX9 127 yX9_in, Cond.static yX9_in, Cond.initialized RX9, Cond.code yX9_in cX9_in 6 (some .boolean), Cond.methodLink RX9 142 yX9_isMoment, Cond.static yX9_isMoment, Cond.code yX9_isMoment cX9_isMoment 1 (some .boolean), Cond.methodLink RX9 136 yX9_ends, Cond.instanceMethod yX9_ends, Cond.selects RX9 yX9_ends yX9_ends, Cond.code yX9_ends cX9_ends 2 (some .int), Cond.fieldLink RX9 122 "TraitHouseModel" "status" "I", Cond.methodLink RX9 150 yX9_isPerson]
def wsX9_row_r2 : List Cond := [Cond.static yX9_isPerson, Cond.code yX9_isPerson cX9_isPerson 1 (some .boolean), Cond.constantLong RX9 131 (19)]
def wsX9_row : List Cond := .code yX9_row cX9_row 6 (some .int) :: ((wsX9_row_r1 ++ wsX9_row_r2) ++ wsX90)
def wsX9_last : List Cond := .code yX9_last cX9_last 4 (some .int) :: ([.fieldLink RX9 29 "TraitHouseModel" "mergeTo" "[I", .fieldLink RX9 32 "TraitHouseModel" "mergeKnown" "[I"] ++ wsX90)
def wsX9_merge_r1 : List Cond := [Cond.fieldLink RX9 29 "TraitHouseModel" "mergeTo" "[I", Cond.constant RX9 156 (100000), Cond.fieldLink RX9 32 "TraitHouseModel" "mergeKnown" "[I", Cond.fieldLink RX9 161 "TraitHouseModel" "merges" "I", Cond.methodLink RX9 142 yX9_isMoment, Cond.static yX9_isMoment, Cond.initialized RX9, Cond.code yX9_isMoment cX9_isMoment 1 (some .boolean), Cond.constantLong RX9 125 (100000), Cond.methodLink RX9 127 yX9_in, Cond.static yX9_in, Cond.code yX9_in cX9_in 6 (some .boolean), Cond.methodLink RX9 136 yX9_ends, Cond.instanceMethod yX9_ends, Cond.selects RX9 yX9_ends yX9_ends, Cond.code yX9_ends cX9_ends 2 (some .int), Cond.fieldLink RX9 122 "TraitHouseModel" "status" "I", Cond.methodLink RX9 150 yX9_isPerson, Cond.static yX9_isPerson, Cond.code yX9_isPerson cX9_isPerson 1 (some .boolean), Cond.constantLong RX9 131 (19), Cond.methodLink RX9 157 yX9_last, Cond.instanceMethod yX9_last, Cond.selects RX9 yX9_last yX9_last]
def wsX9_merge_r2 : List Cond := [Cond.code yX9_last cX9_last 4 (some .int)]
def wsX9_merge : List Cond := .code yX9_merge cX9_merge 4 (some .int) :: ((wsX9_merge_r1 ++ wsX9_merge_r2) ++ wsX90)
def wsX9_leads : List Cond := .code yX9_leads cX9_leads 3 (some .int) :: ([.methodLink RX9 150 yX9_isPerson, .static yX9_isPerson, .initialized RX9, .code yX9_isPerson cX9_isPerson 1 (some .boolean), .constantLong RX9 131 (19), .methodLink RX9 127 yX9_in, .static yX9_in, .code yX9_in cX9_in 6 (some .boolean), .methodLink RX9 142 yX9_isMoment, .static yX9_isMoment, .code yX9_isMoment cX9_isMoment 1 (some .boolean), .constantLong RX9 125 (100000), .methodLink RX9 157 yX9_last, .instanceMethod yX9_last, .selects RX9 yX9_last yX9_last, .code yX9_last cX9_last 4 (some .int), .fieldLink RX9 29 "TraitHouseModel" "mergeTo" "[I", .fieldLink RX9 32 "TraitHouseModel" "mergeKnown" "[I"] ++ wsX90)
def wsX9_erase : List Cond := .code yX9_erase cX9_erase 4 (some .int) :: ([.fieldLink RX9 35 "TraitHouseModel" "isErased" "[Z", .fieldLink RX9 153 "TraitHouseModel" "told" "I", .fieldLink RX9 7 "TraitHouseModel" "rowPerson" "[I", .fieldLink RX9 25 "TraitHouseModel" "isGone" "[Z", .fieldLink RX9 89 "TraitHouseModel" "hasKept" "[Z", .methodLink RX9 150 yX9_isPerson, .static yX9_isPerson, .initialized RX9, .code yX9_isPerson cX9_isPerson 1 (some .boolean), .constantLong RX9 131 (19), .methodLink RX9 127 yX9_in, .static yX9_in, .code yX9_in cX9_in 6 (some .boolean), .methodLink RX9 136 yX9_ends, .instanceMethod yX9_ends, .selects RX9 yX9_ends yX9_ends, .code yX9_ends cX9_ends 2 (some .int), .fieldLink RX9 122 "TraitHouseModel" "status" "I"] ++ wsX90)
def wsX9_feed : List Cond := .code yX9_feed cX9_feed 8 (some .int) :: ([.fieldLink RX9 164 "TraitHouseModel" "taped" "I", .fieldLink RX9 46 "TraitHouseModel" "five" "[I", .fieldLink RX9 38 "TraitHouseModel" "tape" "[B"] ++ wsX90)
def wsX9_end : List Cond := .code yX9_end cX9_end 2 (some .int) :: ([.fieldLink RX9 164 "TraitHouseModel" "taped" "I"] ++ wsX90)
def wsX9_isIn : List Cond := .code yX9_isIn cX9_isIn 4 (some .boolean) :: ([.fieldLink RX9 167 "TraitHouseModel" "size" "I", .fieldLink RX9 38 "TraitHouseModel" "tape" "[B"] ++ wsX90)
def wsX9_next : List Cond := .code yX9_next cX9_next 1 none :: ([.fieldLink RX9 170 "TraitHouseModel" "to" "I", .fieldLink RX9 173 "TraitHouseModel" "from" "I", .fieldLink RX9 167 "TraitHouseModel" "size" "I", .fieldLink RX9 38 "TraitHouseModel" "tape" "[B", .methodLink RX9 176 yX9_isIn, .instanceMethod yX9_isIn, .selects RX9 yX9_isIn yX9_isIn, .initialized RX9, .code yX9_isIn cX9_isIn 4 (some .boolean)] ++ wsX90)
def wsX9_isWord : List Cond := .code yX9_isWord cX9_isWord 6 (some .boolean) :: ([.fieldLink RX9 173 "TraitHouseModel" "from" "I", .fieldLink RX9 170 "TraitHouseModel" "to" "I", .fieldLink RX9 38 "TraitHouseModel" "tape" "[B", .constantLong RX9 180 (96), .constantLong RX9 182 (31)] ++ wsX90)
def wsX9_isSign : List Cond := .code yX9_isSign cX9_isSign 2 (some .boolean) :: ([.fieldLink RX9 173 "TraitHouseModel" "from" "I", .fieldLink RX9 167 "TraitHouseModel" "size" "I", .fieldLink RX9 38 "TraitHouseModel" "tape" "[B", .fieldLink RX9 170 "TraitHouseModel" "to" "I"] ++ wsX90)
def wsX9_faults : List Cond := .code yX9_faults cX9_faults 1 none :: ([.fieldLink RX9 184 "TraitHouseModel" "readFault" "I", .fieldLink RX9 173 "TraitHouseModel" "from" "I"] ++ wsX90)
def wsX9_good : List Cond := .code yX9_good cX9_good 1 (some .boolean) :: ([.fieldLink RX9 184 "TraitHouseModel" "readFault" "I"] ++ wsX90)
def wsX9_number : List Cond := .code yX9_number cX9_number 5 (some .int) :: ([.fieldLink RX9 173 "TraitHouseModel" "from" "I", .fieldLink RX9 170 "TraitHouseModel" "to" "I", .constantLong RX9 190 (10), .fieldLink RX9 38 "TraitHouseModel" "tape" "[B", .constantLong RX9 192 (48), .methodLink RX9 176 yX9_isIn, .instanceMethod yX9_isIn, .selects RX9 yX9_isIn yX9_isIn, .initialized RX9, .code yX9_isIn cX9_isIn 4 (some .boolean), .fieldLink RX9 167 "TraitHouseModel" "size" "I", .methodLink RX9 187 yX9_faults, .instanceMethod yX9_faults, .selects RX9 yX9_faults yX9_faults, .code yX9_faults cX9_faults 1 none, .fieldLink RX9 184 "TraitHouseModel" "readFault" "I", .methodLink RX9 194 yX9_next, .instanceMethod yX9_next, .selects RX9 yX9_next yX9_next, .code yX9_next cX9_next 1 none] ++ wsX90)
def wsX9_puts : List Cond := .code yX9_puts cX9_puts 6 none :: ([.fieldLink RX9 197 "TraitHouseModel" "traits" "I", .fieldLink RX9 200 "TraitHouseModel" "length" "I", .fieldLink RX9 52 "TraitHouseModel" "step" "[I", .fieldLink RX9 55 "TraitHouseModel" "stepA" "[I", .fieldLink RX9 58 "TraitHouseModel" "stepB" "[I", .fieldLink RX9 61 "TraitHouseModel" "stepC" "[I"] ++ wsX90)
def wsX9_window_r1 : List Cond := [Cond.constantLong RX9 260 (441926), Cond.constant RX9 229 (1000000), Cond.constantLong RX9 262 (500), Cond.fieldLink RX9 173 "TraitHouseModel" "from" "I", Cond.fieldLink RX9 184 "TraitHouseModel" "readFault" "I", Cond.constantLong RX9 264 (4232449), Cond.fieldLink RX9 266 "TraitHouseModel" "leaks" "Z", Cond.methodLink RX9 194 yX9_next, Cond.instanceMethod yX9_next, Cond.selects RX9 yX9_next yX9_next, Cond.initialized RX9, Cond.code yX9_next cX9_next 1 none, Cond.fieldLink RX9 170 "TraitHouseModel" "to" "I", Cond.fieldLink RX9 167 "TraitHouseModel" "size" "I", Cond.fieldLink RX9 38 "TraitHouseModel" "tape" "[B", Cond.methodLink RX9 176 yX9_isIn, Cond.instanceMethod yX9_isIn, Cond.selects RX9 yX9_isIn yX9_isIn, Cond.code yX9_isIn cX9_isIn 4 (some .boolean), Cond.methodLink RX9 230 yX9_number, Cond.instanceMethod yX9_number, Cond.selects RX9 yX9_number yX9_number, Cond.code yX9_number cX9_number 5 (some .int), Cond.constantLong RX9 190 (10)]
def wsX9_window_r2 : List Cond := [Cond.constantLong RX9 192 (48), Cond.methodLink RX9 187 yX9_faults, Cond.instanceMethod yX9_faults, Cond.selects RX9 yX9_faults yX9_faults, Cond.code yX9_faults cX9_faults 1 none, Cond.methodLink RX9 206 yX9_good, Cond.instanceMethod yX9_good, Cond.selects RX9 yX9_good yX9_good, Cond.code yX9_good cX9_good 1 (some .boolean), Cond.methodLink RX9 225 yX9_isWord, Cond.instanceMethod yX9_isWord, Cond.selects RX9 yX9_isWord yX9_isWord, Cond.code yX9_isWord cX9_isWord 6 (some .boolean), Cond.constantLong RX9 180 (96), Cond.constantLong RX9 182 (31), Cond.methodLink RX9 213 yX9_puts, Cond.instanceMethod yX9_puts, Cond.selects RX9 yX9_puts yX9_puts, Cond.code yX9_puts cX9_puts 6 none, Cond.fieldLink RX9 197 "TraitHouseModel" "traits" "I", Cond.fieldLink RX9 200 "TraitHouseModel" "length" "I", Cond.fieldLink RX9 52 "TraitHouseModel" "step" "[I", Cond.fieldLink RX9 55 "TraitHouseModel" "stepA" "[I", Cond.fieldLink RX9 58 "TraitHouseModel" "stepB" "[I"]
def wsX9_window_r3 : List Cond := [Cond.fieldLink RX9 61 "TraitHouseModel" "stepC" "[I"]
def wsX9_window : List Cond := .code yX9_window cX9_window 6 none :: ((wsX9_window_r1 ++ (wsX9_window_r2 ++ wsX9_window_r3)) ++ wsX90)
def wsX9_atom_r1 : List Cond := [Cond.fieldLink RX9 173 "TraitHouseModel" "from" "I", Cond.constant RX9 229 (1000000), Cond.constantLong RX9 236 (21268052), Cond.fieldLink RX9 197 "TraitHouseModel" "traits" "I", Cond.constantLong RX9 238 (674860), Cond.constantLong RX9 240 (5345), Cond.constantLong RX9 242 (21452259), Cond.constantLong RX9 244 (14003), Cond.constantLong RX9 246 (21595308), Cond.constantLong RX9 248 (675309), Cond.methodLink RX9 176 yX9_isIn, Cond.instanceMethod yX9_isIn, Cond.selects RX9 yX9_isIn yX9_isIn, Cond.initialized RX9, Cond.code yX9_isIn cX9_isIn 4 (some .boolean), Cond.fieldLink RX9 167 "TraitHouseModel" "size" "I", Cond.fieldLink RX9 38 "TraitHouseModel" "tape" "[B", Cond.methodLink RX9 230 yX9_number, Cond.instanceMethod yX9_number, Cond.selects RX9 yX9_number yX9_number, Cond.code yX9_number cX9_number 5 (some .int), Cond.fieldLink RX9 170 "TraitHouseModel" "to" "I", Cond.constantLong RX9 190 (10), Cond.constantLong RX9 192 (48)]
def wsX9_atom_r2 : List Cond := [Cond.methodLink RX9 187 yX9_faults, Cond.instanceMethod yX9_faults, Cond.selects RX9 yX9_faults yX9_faults, Cond.code yX9_faults cX9_faults 1 none, Cond.fieldLink RX9 184 "TraitHouseModel" "readFault" "I", Cond.methodLink RX9 194 yX9_next, Cond.instanceMethod yX9_next, Cond.selects RX9 yX9_next yX9_next, Cond.code yX9_next cX9_next 1 none, Cond.methodLink RX9 206 yX9_good, Cond.instanceMethod yX9_good, Cond.selects RX9 yX9_good yX9_good, Cond.code yX9_good cX9_good 1 (some .boolean), Cond.methodLink RX9 213 yX9_puts, Cond.instanceMethod yX9_puts, Cond.selects RX9 yX9_puts yX9_puts, Cond.code yX9_puts cX9_puts 6 none, Cond.fieldLink RX9 200 "TraitHouseModel" "length" "I", Cond.fieldLink RX9 52 "TraitHouseModel" "step" "[I", Cond.fieldLink RX9 55 "TraitHouseModel" "stepA" "[I", Cond.fieldLink RX9 58 "TraitHouseModel" "stepB" "[I", Cond.fieldLink RX9 61 "TraitHouseModel" "stepC" "[I", Cond.methodLink RX9 210 yX9_isSign, Cond.instanceMethod yX9_isSign]
def wsX9_atom_r3 : List Cond := [Cond.selects RX9 yX9_isSign yX9_isSign, Cond.code yX9_isSign cX9_isSign 2 (some .boolean), Cond.methodLink RX9 233 yX9_bracket, Cond.instanceMethod yX9_bracket, Cond.selects RX9 yX9_bracket yX9_bracket, Cond.methodLink RX9 225 yX9_isWord, Cond.instanceMethod yX9_isWord, Cond.selects RX9 yX9_isWord yX9_isWord, Cond.code yX9_isWord cX9_isWord 6 (some .boolean), Cond.constantLong RX9 180 (96), Cond.constantLong RX9 182 (31), Cond.methodLink RX9 250 yX9_window, Cond.instanceMethod yX9_window, Cond.selects RX9 yX9_window yX9_window, Cond.code yX9_window cX9_window 6 none, Cond.constantLong RX9 260 (441926), Cond.constantLong RX9 262 (500), Cond.constantLong RX9 264 (4232449), Cond.fieldLink RX9 266 "TraitHouseModel" "leaks" "Z", Cond.code yX9_bracket cX9_bracket 1 none, Cond.fieldLink RX9 254 "TraitHouseModel" "open" "I", Cond.methodLink RX9 257 yX9_sum, Cond.instanceMethod yX9_sum, Cond.selects RX9 yX9_sum yX9_sum]
def wsX9_atom_r4 : List Cond := [Cond.code yX9_part cX9_part 2 none, Cond.constantLong RX9 223 (183685), Cond.methodLink RX9 220 yX9_atom, Cond.instanceMethod yX9_atom, Cond.selects RX9 yX9_atom yX9_atom, Cond.code yX9_sum cX9_sum 2 none, Cond.methodLink RX9 203 yX9_term, Cond.instanceMethod yX9_term, Cond.selects RX9 yX9_term yX9_term, Cond.code yX9_term cX9_term 2 none, Cond.methodLink RX9 217 yX9_part, Cond.instanceMethod yX9_part, Cond.selects RX9 yX9_part yX9_part]
def wsX9_atom : List Cond := .code yX9_atom cX9_atom 3 none :: ((wsX9_atom_r1 ++ (wsX9_atom_r2 ++ (wsX9_atom_r3 ++ wsX9_atom_r4))) ++ wsX90)
def wsX9_bracket_r1 : List Cond := [Cond.fieldLink RX9 254 "TraitHouseModel" "open" "I", Cond.methodLink RX9 187 yX9_faults, Cond.instanceMethod yX9_faults, Cond.selects RX9 yX9_faults yX9_faults, Cond.initialized RX9, Cond.code yX9_faults cX9_faults 1 none, Cond.fieldLink RX9 184 "TraitHouseModel" "readFault" "I", Cond.fieldLink RX9 173 "TraitHouseModel" "from" "I", Cond.methodLink RX9 194 yX9_next, Cond.instanceMethod yX9_next, Cond.selects RX9 yX9_next yX9_next, Cond.code yX9_next cX9_next 1 none, Cond.fieldLink RX9 170 "TraitHouseModel" "to" "I", Cond.fieldLink RX9 167 "TraitHouseModel" "size" "I", Cond.fieldLink RX9 38 "TraitHouseModel" "tape" "[B", Cond.methodLink RX9 176 yX9_isIn, Cond.instanceMethod yX9_isIn, Cond.selects RX9 yX9_isIn yX9_isIn, Cond.code yX9_isIn cX9_isIn 4 (some .boolean), Cond.methodLink RX9 257 yX9_sum, Cond.instanceMethod yX9_sum, Cond.selects RX9 yX9_sum yX9_sum, Cond.methodLink RX9 206 yX9_good, Cond.instanceMethod yX9_good]
def wsX9_bracket_r2 : List Cond := [Cond.selects RX9 yX9_good yX9_good, Cond.code yX9_good cX9_good 1 (some .boolean), Cond.methodLink RX9 210 yX9_isSign, Cond.instanceMethod yX9_isSign, Cond.selects RX9 yX9_isSign yX9_isSign, Cond.code yX9_isSign cX9_isSign 2 (some .boolean), Cond.code yX9_atom cX9_atom 3 none, Cond.constant RX9 229 (1000000), Cond.constantLong RX9 236 (21268052), Cond.fieldLink RX9 197 "TraitHouseModel" "traits" "I", Cond.constantLong RX9 238 (674860), Cond.constantLong RX9 240 (5345), Cond.constantLong RX9 242 (21452259), Cond.constantLong RX9 244 (14003), Cond.constantLong RX9 246 (21595308), Cond.constantLong RX9 248 (675309), Cond.methodLink RX9 230 yX9_number, Cond.instanceMethod yX9_number, Cond.selects RX9 yX9_number yX9_number, Cond.code yX9_number cX9_number 5 (some .int), Cond.constantLong RX9 190 (10), Cond.constantLong RX9 192 (48), Cond.methodLink RX9 213 yX9_puts, Cond.instanceMethod yX9_puts]
def wsX9_bracket_r3 : List Cond := [Cond.selects RX9 yX9_puts yX9_puts, Cond.code yX9_puts cX9_puts 6 none, Cond.fieldLink RX9 200 "TraitHouseModel" "length" "I", Cond.fieldLink RX9 52 "TraitHouseModel" "step" "[I", Cond.fieldLink RX9 55 "TraitHouseModel" "stepA" "[I", Cond.fieldLink RX9 58 "TraitHouseModel" "stepB" "[I", Cond.fieldLink RX9 61 "TraitHouseModel" "stepC" "[I", Cond.methodLink RX9 233 yX9_bracket, Cond.instanceMethod yX9_bracket, Cond.selects RX9 yX9_bracket yX9_bracket, Cond.methodLink RX9 225 yX9_isWord, Cond.instanceMethod yX9_isWord, Cond.selects RX9 yX9_isWord yX9_isWord, Cond.code yX9_isWord cX9_isWord 6 (some .boolean), Cond.constantLong RX9 180 (96), Cond.constantLong RX9 182 (31), Cond.methodLink RX9 250 yX9_window, Cond.instanceMethod yX9_window, Cond.selects RX9 yX9_window yX9_window, Cond.code yX9_window cX9_window 6 none, Cond.constantLong RX9 260 (441926), Cond.constantLong RX9 262 (500), Cond.constantLong RX9 264 (4232449), Cond.fieldLink RX9 266 "TraitHouseModel" "leaks" "Z"]
def wsX9_bracket_r4 : List Cond := [Cond.code yX9_part cX9_part 2 none, Cond.constantLong RX9 223 (183685), Cond.methodLink RX9 220 yX9_atom, Cond.instanceMethod yX9_atom, Cond.selects RX9 yX9_atom yX9_atom, Cond.code yX9_sum cX9_sum 2 none, Cond.methodLink RX9 203 yX9_term, Cond.instanceMethod yX9_term, Cond.selects RX9 yX9_term yX9_term, Cond.code yX9_term cX9_term 2 none, Cond.methodLink RX9 217 yX9_part, Cond.instanceMethod yX9_part, Cond.selects RX9 yX9_part yX9_part]
def wsX9_bracket : List Cond := .code yX9_bracket cX9_bracket 1 none :: ((wsX9_bracket_r1 ++ (wsX9_bracket_r2 ++ (wsX9_bracket_r3 ++ wsX9_bracket_r4))) ++ wsX90)
def wsX9_part_r1 : List Cond := [Cond.constantLong RX9 223 (183685), Cond.constant RX9 229 (1000000), Cond.methodLink RX9 220 yX9_atom, Cond.instanceMethod yX9_atom, Cond.selects RX9 yX9_atom yX9_atom, Cond.initialized RX9, Cond.methodLink RX9 206 yX9_good, Cond.instanceMethod yX9_good, Cond.selects RX9 yX9_good yX9_good, Cond.code yX9_good cX9_good 1 (some .boolean), Cond.fieldLink RX9 184 "TraitHouseModel" "readFault" "I", Cond.methodLink RX9 225 yX9_isWord, Cond.instanceMethod yX9_isWord, Cond.selects RX9 yX9_isWord yX9_isWord, Cond.code yX9_isWord cX9_isWord 6 (some .boolean), Cond.fieldLink RX9 173 "TraitHouseModel" "from" "I", Cond.fieldLink RX9 170 "TraitHouseModel" "to" "I", Cond.fieldLink RX9 38 "TraitHouseModel" "tape" "[B", Cond.constantLong RX9 180 (96), Cond.constantLong RX9 182 (31), Cond.methodLink RX9 194 yX9_next, Cond.instanceMethod yX9_next, Cond.selects RX9 yX9_next yX9_next, Cond.code yX9_next cX9_next 1 none]
def wsX9_part_r2 : List Cond := [Cond.fieldLink RX9 167 "TraitHouseModel" "size" "I", Cond.methodLink RX9 176 yX9_isIn, Cond.instanceMethod yX9_isIn, Cond.selects RX9 yX9_isIn yX9_isIn, Cond.code yX9_isIn cX9_isIn 4 (some .boolean), Cond.methodLink RX9 230 yX9_number, Cond.instanceMethod yX9_number, Cond.selects RX9 yX9_number yX9_number, Cond.code yX9_number cX9_number 5 (some .int), Cond.constantLong RX9 190 (10), Cond.constantLong RX9 192 (48), Cond.methodLink RX9 187 yX9_faults, Cond.instanceMethod yX9_faults, Cond.selects RX9 yX9_faults yX9_faults, Cond.code yX9_faults cX9_faults 1 none, Cond.methodLink RX9 213 yX9_puts, Cond.instanceMethod yX9_puts, Cond.selects RX9 yX9_puts yX9_puts, Cond.code yX9_puts cX9_puts 6 none, Cond.fieldLink RX9 197 "TraitHouseModel" "traits" "I", Cond.fieldLink RX9 200 "TraitHouseModel" "length" "I", Cond.fieldLink RX9 52 "TraitHouseModel" "step" "[I", Cond.fieldLink RX9 55 "TraitHouseModel" "stepA" "[I", Cond.fieldLink RX9 58 "TraitHouseModel" "stepB" "[I"]
def wsX9_part_r3 : List Cond := [Cond.fieldLink RX9 61 "TraitHouseModel" "stepC" "[I", Cond.code yX9_atom cX9_atom 3 none, Cond.constantLong RX9 236 (21268052), Cond.constantLong RX9 238 (674860), Cond.constantLong RX9 240 (5345), Cond.constantLong RX9 242 (21452259), Cond.constantLong RX9 244 (14003), Cond.constantLong RX9 246 (21595308), Cond.constantLong RX9 248 (675309), Cond.methodLink RX9 210 yX9_isSign, Cond.instanceMethod yX9_isSign, Cond.selects RX9 yX9_isSign yX9_isSign, Cond.code yX9_isSign cX9_isSign 2 (some .boolean), Cond.methodLink RX9 233 yX9_bracket, Cond.instanceMethod yX9_bracket, Cond.selects RX9 yX9_bracket yX9_bracket, Cond.methodLink RX9 250 yX9_window, Cond.instanceMethod yX9_window, Cond.selects RX9 yX9_window yX9_window, Cond.code yX9_window cX9_window 6 none, Cond.constantLong RX9 260 (441926), Cond.constantLong RX9 262 (500), Cond.constantLong RX9 264 (4232449), Cond.fieldLink RX9 266 "TraitHouseModel" "leaks" "Z"]
def wsX9_part_r4 : List Cond := [Cond.code yX9_bracket cX9_bracket 1 none, Cond.fieldLink RX9 254 "TraitHouseModel" "open" "I", Cond.methodLink RX9 257 yX9_sum, Cond.instanceMethod yX9_sum, Cond.selects RX9 yX9_sum yX9_sum, Cond.code yX9_sum cX9_sum 2 none, Cond.methodLink RX9 203 yX9_term, Cond.instanceMethod yX9_term, Cond.selects RX9 yX9_term yX9_term, Cond.code yX9_term cX9_term 2 none, Cond.methodLink RX9 217 yX9_part, Cond.instanceMethod yX9_part, Cond.selects RX9 yX9_part yX9_part]
def wsX9_part : List Cond := .code yX9_part cX9_part 2 none :: ((wsX9_part_r1 ++ (wsX9_part_r2 ++ (wsX9_part_r3 ++ wsX9_part_r4))) ++ wsX90)
def wsX9_sum_r1 : List Cond := [Cond.methodLink RX9 203 yX9_term, Cond.instanceMethod yX9_term, Cond.selects RX9 yX9_term yX9_term, Cond.initialized RX9, Cond.methodLink RX9 206 yX9_good, Cond.instanceMethod yX9_good, Cond.selects RX9 yX9_good yX9_good, Cond.code yX9_good cX9_good 1 (some .boolean), Cond.fieldLink RX9 184 "TraitHouseModel" "readFault" "I", Cond.methodLink RX9 210 yX9_isSign, Cond.instanceMethod yX9_isSign, Cond.selects RX9 yX9_isSign yX9_isSign, Cond.code yX9_isSign cX9_isSign 2 (some .boolean), Cond.fieldLink RX9 173 "TraitHouseModel" "from" "I", Cond.fieldLink RX9 167 "TraitHouseModel" "size" "I", Cond.fieldLink RX9 38 "TraitHouseModel" "tape" "[B", Cond.fieldLink RX9 170 "TraitHouseModel" "to" "I", Cond.methodLink RX9 194 yX9_next, Cond.instanceMethod yX9_next, Cond.selects RX9 yX9_next yX9_next, Cond.code yX9_next cX9_next 1 none, Cond.methodLink RX9 176 yX9_isIn, Cond.instanceMethod yX9_isIn, Cond.selects RX9 yX9_isIn yX9_isIn]
def wsX9_sum_r2 : List Cond := [Cond.code yX9_isIn cX9_isIn 4 (some .boolean), Cond.methodLink RX9 213 yX9_puts, Cond.instanceMethod yX9_puts, Cond.selects RX9 yX9_puts yX9_puts, Cond.code yX9_puts cX9_puts 6 none, Cond.fieldLink RX9 197 "TraitHouseModel" "traits" "I", Cond.fieldLink RX9 200 "TraitHouseModel" "length" "I", Cond.fieldLink RX9 52 "TraitHouseModel" "step" "[I", Cond.fieldLink RX9 55 "TraitHouseModel" "stepA" "[I", Cond.fieldLink RX9 58 "TraitHouseModel" "stepB" "[I", Cond.fieldLink RX9 61 "TraitHouseModel" "stepC" "[I", Cond.code yX9_atom cX9_atom 3 none, Cond.constant RX9 229 (1000000), Cond.constantLong RX9 236 (21268052), Cond.constantLong RX9 238 (674860), Cond.constantLong RX9 240 (5345), Cond.constantLong RX9 242 (21452259), Cond.constantLong RX9 244 (14003), Cond.constantLong RX9 246 (21595308), Cond.constantLong RX9 248 (675309), Cond.methodLink RX9 230 yX9_number, Cond.instanceMethod yX9_number, Cond.selects RX9 yX9_number yX9_number, Cond.code yX9_number cX9_number 5 (some .int)]
def wsX9_sum_r3 : List Cond := [Cond.constantLong RX9 190 (10), Cond.constantLong RX9 192 (48), Cond.methodLink RX9 187 yX9_faults, Cond.instanceMethod yX9_faults, Cond.selects RX9 yX9_faults yX9_faults, Cond.code yX9_faults cX9_faults 1 none, Cond.methodLink RX9 233 yX9_bracket, Cond.instanceMethod yX9_bracket, Cond.selects RX9 yX9_bracket yX9_bracket, Cond.methodLink RX9 225 yX9_isWord, Cond.instanceMethod yX9_isWord, Cond.selects RX9 yX9_isWord yX9_isWord, Cond.code yX9_isWord cX9_isWord 6 (some .boolean), Cond.constantLong RX9 180 (96), Cond.constantLong RX9 182 (31), Cond.methodLink RX9 250 yX9_window, Cond.instanceMethod yX9_window, Cond.selects RX9 yX9_window yX9_window, Cond.code yX9_window cX9_window 6 none, Cond.constantLong RX9 260 (441926), Cond.constantLong RX9 262 (500), Cond.constantLong RX9 264 (4232449), Cond.fieldLink RX9 266 "TraitHouseModel" "leaks" "Z", Cond.code yX9_bracket cX9_bracket 1 none]
def wsX9_sum_r4 : List Cond := [Cond.fieldLink RX9 254 "TraitHouseModel" "open" "I", Cond.methodLink RX9 257 yX9_sum, Cond.instanceMethod yX9_sum, Cond.selects RX9 yX9_sum yX9_sum, Cond.code yX9_part cX9_part 2 none, Cond.constantLong RX9 223 (183685), Cond.methodLink RX9 220 yX9_atom, Cond.instanceMethod yX9_atom, Cond.selects RX9 yX9_atom yX9_atom, Cond.code yX9_term cX9_term 2 none, Cond.methodLink RX9 217 yX9_part, Cond.instanceMethod yX9_part, Cond.selects RX9 yX9_part yX9_part]
def wsX9_sum : List Cond := .code yX9_sum cX9_sum 2 none :: ((wsX9_sum_r1 ++ (wsX9_sum_r2 ++ (wsX9_sum_r3 ++ wsX9_sum_r4))) ++ wsX90)
def wsX9_term_r1 : List Cond := [Cond.methodLink RX9 217 yX9_part, Cond.instanceMethod yX9_part, Cond.selects RX9 yX9_part yX9_part, Cond.initialized RX9, Cond.methodLink RX9 206 yX9_good, Cond.instanceMethod yX9_good, Cond.selects RX9 yX9_good yX9_good, Cond.code yX9_good cX9_good 1 (some .boolean), Cond.fieldLink RX9 184 "TraitHouseModel" "readFault" "I", Cond.methodLink RX9 210 yX9_isSign, Cond.instanceMethod yX9_isSign, Cond.selects RX9 yX9_isSign yX9_isSign, Cond.code yX9_isSign cX9_isSign 2 (some .boolean), Cond.fieldLink RX9 173 "TraitHouseModel" "from" "I", Cond.fieldLink RX9 167 "TraitHouseModel" "size" "I", Cond.fieldLink RX9 38 "TraitHouseModel" "tape" "[B", Cond.fieldLink RX9 170 "TraitHouseModel" "to" "I", Cond.methodLink RX9 194 yX9_next, Cond.instanceMethod yX9_next, Cond.selects RX9 yX9_next yX9_next, Cond.code yX9_next cX9_next 1 none, Cond.methodLink RX9 176 yX9_isIn, Cond.instanceMethod yX9_isIn, Cond.selects RX9 yX9_isIn yX9_isIn]
def wsX9_term_r2 : List Cond := [Cond.code yX9_isIn cX9_isIn 4 (some .boolean), Cond.methodLink RX9 213 yX9_puts, Cond.instanceMethod yX9_puts, Cond.selects RX9 yX9_puts yX9_puts, Cond.code yX9_puts cX9_puts 6 none, Cond.fieldLink RX9 197 "TraitHouseModel" "traits" "I", Cond.fieldLink RX9 200 "TraitHouseModel" "length" "I", Cond.fieldLink RX9 52 "TraitHouseModel" "step" "[I", Cond.fieldLink RX9 55 "TraitHouseModel" "stepA" "[I", Cond.fieldLink RX9 58 "TraitHouseModel" "stepB" "[I", Cond.fieldLink RX9 61 "TraitHouseModel" "stepC" "[I", Cond.code yX9_atom cX9_atom 3 none, Cond.constant RX9 229 (1000000), Cond.constantLong RX9 236 (21268052), Cond.constantLong RX9 238 (674860), Cond.constantLong RX9 240 (5345), Cond.constantLong RX9 242 (21452259), Cond.constantLong RX9 244 (14003), Cond.constantLong RX9 246 (21595308), Cond.constantLong RX9 248 (675309), Cond.methodLink RX9 230 yX9_number, Cond.instanceMethod yX9_number, Cond.selects RX9 yX9_number yX9_number, Cond.code yX9_number cX9_number 5 (some .int)]
def wsX9_term_r3 : List Cond := [Cond.constantLong RX9 190 (10), Cond.constantLong RX9 192 (48), Cond.methodLink RX9 187 yX9_faults, Cond.instanceMethod yX9_faults, Cond.selects RX9 yX9_faults yX9_faults, Cond.code yX9_faults cX9_faults 1 none, Cond.methodLink RX9 233 yX9_bracket, Cond.instanceMethod yX9_bracket, Cond.selects RX9 yX9_bracket yX9_bracket, Cond.methodLink RX9 225 yX9_isWord, Cond.instanceMethod yX9_isWord, Cond.selects RX9 yX9_isWord yX9_isWord, Cond.code yX9_isWord cX9_isWord 6 (some .boolean), Cond.constantLong RX9 180 (96), Cond.constantLong RX9 182 (31), Cond.methodLink RX9 250 yX9_window, Cond.instanceMethod yX9_window, Cond.selects RX9 yX9_window yX9_window, Cond.code yX9_window cX9_window 6 none, Cond.constantLong RX9 260 (441926), Cond.constantLong RX9 262 (500), Cond.constantLong RX9 264 (4232449), Cond.fieldLink RX9 266 "TraitHouseModel" "leaks" "Z", Cond.code yX9_bracket cX9_bracket 1 none]
def wsX9_term_r4 : List Cond := [Cond.fieldLink RX9 254 "TraitHouseModel" "open" "I", Cond.methodLink RX9 257 yX9_sum, Cond.instanceMethod yX9_sum, Cond.selects RX9 yX9_sum yX9_sum, Cond.code yX9_part cX9_part 2 none, Cond.constantLong RX9 223 (183685), Cond.methodLink RX9 220 yX9_atom, Cond.instanceMethod yX9_atom, Cond.selects RX9 yX9_atom yX9_atom, Cond.code yX9_sum cX9_sum 2 none, Cond.methodLink RX9 203 yX9_term, Cond.instanceMethod yX9_term, Cond.selects RX9 yX9_term yX9_term]
def wsX9_term : List Cond := .code yX9_term cX9_term 2 none :: ((wsX9_term_r1 ++ (wsX9_term_r2 ++ (wsX9_term_r3 ++ wsX9_term_r4))) ++ wsX90)
def wsX9_trait_r1 : List Cond := [Cond.fieldLink RX9 164 "TraitHouseModel" "taped" "I", Cond.fieldLink RX9 167 "TraitHouseModel" "size" "I", Cond.fieldLink RX9 197 "TraitHouseModel" "traits" "I", Cond.fieldLink RX9 170 "TraitHouseModel" "to" "I", Cond.fieldLink RX9 184 "TraitHouseModel" "readFault" "I", Cond.fieldLink RX9 200 "TraitHouseModel" "length" "I", Cond.fieldLink RX9 254 "TraitHouseModel" "open" "I", Cond.fieldLink RX9 266 "TraitHouseModel" "leaks" "Z", Cond.fieldLink RX9 173 "TraitHouseModel" "from" "I", Cond.fieldLink RX9 42 "TraitHouseModel" "fault" "I", Cond.fieldLink RX9 49 "TraitHouseModel" "size0" "[I", Cond.fieldLink RX9 83 "TraitHouseModel" "limits" "[I", Cond.constant RX9 156 (100000), Cond.fieldLink RX9 80 "TraitHouseModel" "hasLaw" "[Z", Cond.methodLink RX9 136 yX9_ends, Cond.instanceMethod yX9_ends, Cond.selects RX9 yX9_ends yX9_ends, Cond.initialized RX9, Cond.code yX9_ends cX9_ends 2 (some .int), Cond.fieldLink RX9 122 "TraitHouseModel" "status" "I", Cond.methodLink RX9 194 yX9_next, Cond.instanceMethod yX9_next, Cond.selects RX9 yX9_next yX9_next, Cond.code yX9_next cX9_next 1 none]
def wsX9_trait_r2 : List Cond := [Cond.fieldLink RX9 38 "TraitHouseModel" "tape" "[B", Cond.methodLink RX9 176 yX9_isIn, Cond.instanceMethod yX9_isIn, Cond.selects RX9 yX9_isIn yX9_isIn, Cond.code yX9_isIn cX9_isIn 4 (some .boolean), Cond.methodLink RX9 257 yX9_sum, Cond.instanceMethod yX9_sum, Cond.selects RX9 yX9_sum yX9_sum, Cond.code yX9_sum cX9_sum 2 none, Cond.methodLink RX9 203 yX9_term, Cond.instanceMethod yX9_term, Cond.selects RX9 yX9_term yX9_term, Cond.methodLink RX9 206 yX9_good, Cond.instanceMethod yX9_good, Cond.selects RX9 yX9_good yX9_good, Cond.code yX9_good cX9_good 1 (some .boolean), Cond.methodLink RX9 210 yX9_isSign, Cond.instanceMethod yX9_isSign, Cond.selects RX9 yX9_isSign yX9_isSign, Cond.code yX9_isSign cX9_isSign 2 (some .boolean), Cond.methodLink RX9 213 yX9_puts, Cond.instanceMethod yX9_puts, Cond.selects RX9 yX9_puts yX9_puts, Cond.code yX9_puts cX9_puts 6 none]
def wsX9_trait_r3 : List Cond := [Cond.fieldLink RX9 52 "TraitHouseModel" "step" "[I", Cond.fieldLink RX9 55 "TraitHouseModel" "stepA" "[I", Cond.fieldLink RX9 58 "TraitHouseModel" "stepB" "[I", Cond.fieldLink RX9 61 "TraitHouseModel" "stepC" "[I", Cond.code yX9_atom cX9_atom 3 none, Cond.constant RX9 229 (1000000), Cond.constantLong RX9 236 (21268052), Cond.constantLong RX9 238 (674860), Cond.constantLong RX9 240 (5345), Cond.constantLong RX9 242 (21452259), Cond.constantLong RX9 244 (14003), Cond.constantLong RX9 246 (21595308), Cond.constantLong RX9 248 (675309), Cond.methodLink RX9 230 yX9_number, Cond.instanceMethod yX9_number, Cond.selects RX9 yX9_number yX9_number, Cond.code yX9_number cX9_number 5 (some .int), Cond.constantLong RX9 190 (10), Cond.constantLong RX9 192 (48), Cond.methodLink RX9 187 yX9_faults, Cond.instanceMethod yX9_faults, Cond.selects RX9 yX9_faults yX9_faults, Cond.code yX9_faults cX9_faults 1 none, Cond.methodLink RX9 233 yX9_bracket]
def wsX9_trait_r4 : List Cond := [Cond.instanceMethod yX9_bracket, Cond.selects RX9 yX9_bracket yX9_bracket, Cond.methodLink RX9 225 yX9_isWord, Cond.instanceMethod yX9_isWord, Cond.selects RX9 yX9_isWord yX9_isWord, Cond.code yX9_isWord cX9_isWord 6 (some .boolean), Cond.constantLong RX9 180 (96), Cond.constantLong RX9 182 (31), Cond.methodLink RX9 250 yX9_window, Cond.instanceMethod yX9_window, Cond.selects RX9 yX9_window yX9_window, Cond.code yX9_window cX9_window 6 none, Cond.constantLong RX9 260 (441926), Cond.constantLong RX9 262 (500), Cond.constantLong RX9 264 (4232449), Cond.code yX9_bracket cX9_bracket 1 none, Cond.code yX9_part cX9_part 2 none, Cond.constantLong RX9 223 (183685), Cond.methodLink RX9 220 yX9_atom, Cond.instanceMethod yX9_atom, Cond.selects RX9 yX9_atom yX9_atom, Cond.code yX9_term cX9_term 2 none, Cond.methodLink RX9 217 yX9_part, Cond.instanceMethod yX9_part]
def wsX9_trait_r5 : List Cond := [Cond.selects RX9 yX9_part yX9_part]
def wsX9_trait : List Cond := .code yX9_trait cX9_trait 1 (some .int) :: ((wsX9_trait_r1 ++ (wsX9_trait_r2 ++ (wsX9_trait_r3 ++ (wsX9_trait_r4 ++ wsX9_trait_r5)))) ++ wsX90)
def wsX9_fault : List Cond := .code yX9_fault cX9_fault 1 (some .int) :: ([.fieldLink RX9 42 "TraitHouseModel" "fault" "I"] ++ wsX90)
def wsX9_counts : List Cond := .code yX9_counts cX9_counts 5 (some .boolean) :: ([.fieldLink RX9 25 "TraitHouseModel" "isGone" "[Z", .fieldLink RX9 13 "TraitHouseModel" "rowStream" "[I", .fieldLink RX9 71 "TraitHouseModel" "isOne" "[Z", .fieldLink RX9 7 "TraitHouseModel" "rowPerson" "[I", .fieldLink RX9 16 "TraitHouseModel" "rowMoment" "[I", .fieldLink RX9 19 "TraitHouseModel" "rowKnown" "[I"] ++ wsX90)
def wsX9_latest : List Cond := .code yX9_latest cX9_latest 7 (some .long) :: ([.fieldLink RX9 153 "TraitHouseModel" "told" "I", .fieldLink RX9 16 "TraitHouseModel" "rowMoment" "[I", .constantLong RX9 274 (-9000000000000000000), .fieldLink RX9 22 "TraitHouseModel" "rowValue" "[I", .methodLink RX9 270 yX9_counts, .instanceMethod yX9_counts, .selects RX9 yX9_counts yX9_counts, .initialized RX9, .code yX9_counts cX9_counts 5 (some .boolean), .fieldLink RX9 25 "TraitHouseModel" "isGone" "[Z", .fieldLink RX9 13 "TraitHouseModel" "rowStream" "[I", .fieldLink RX9 71 "TraitHouseModel" "isOne" "[Z", .fieldLink RX9 7 "TraitHouseModel" "rowPerson" "[I", .fieldLink RX9 19 "TraitHouseModel" "rowKnown" "[I"] ++ wsX90)
def wsX9_windowed : List Cond := .code yX9_windowed cX9_windowed 12 (some .long) :: ([.fieldLink RX9 153 "TraitHouseModel" "told" "I", .fieldLink RX9 16 "TraitHouseModel" "rowMoment" "[I", .fieldLink RX9 22 "TraitHouseModel" "rowValue" "[I", .constantLong RX9 274 (-9000000000000000000), .methodLink RX9 270 yX9_counts, .instanceMethod yX9_counts, .selects RX9 yX9_counts yX9_counts, .initialized RX9, .code yX9_counts cX9_counts 5 (some .boolean), .fieldLink RX9 25 "TraitHouseModel" "isGone" "[Z", .fieldLink RX9 13 "TraitHouseModel" "rowStream" "[I", .fieldLink RX9 71 "TraitHouseModel" "isOne" "[Z", .fieldLink RX9 7 "TraitHouseModel" "rowPerson" "[I", .fieldLink RX9 19 "TraitHouseModel" "rowKnown" "[I"] ++ wsX90)
def wsX9_size : List Cond := .code yX9_size cX9_size 2 (some .long) :: ([])
def wsX9_two : List Cond := .code yX9_two cX9_two 7 (some .long) :: ([.constantLong RX9 274 (-9000000000000000000), .constantLong RX9 279 (1000000000000), .methodLink RX9 276 yX9_size, .static yX9_size, .initialized RX9, .code yX9_size cX9_size 2 (some .long)])
def wsX9_works_r1 : List Cond := [Cond.fieldLink RX9 49 "TraitHouseModel" "size0" "[I", Cond.fieldLink RX9 52 "TraitHouseModel" "step" "[I", Cond.fieldLink RX9 68 "TraitHouseModel" "heap" "[J", Cond.constantLong RX9 274 (-9000000000000000000), Cond.fieldLink RX9 55 "TraitHouseModel" "stepA" "[I", Cond.fieldLink RX9 64 "TraitHouseModel" "values" "[J", Cond.fieldLink RX9 58 "TraitHouseModel" "stepB" "[I", Cond.fieldLink RX9 61 "TraitHouseModel" "stepC" "[I", Cond.methodLink RX9 281 yX9_two, Cond.static yX9_two, Cond.initialized RX9, Cond.code yX9_two cX9_two 7 (some .long), Cond.constantLong RX9 279 (1000000000000), Cond.methodLink RX9 276 yX9_size, Cond.static yX9_size, Cond.code yX9_size cX9_size 2 (some .long), Cond.methodLink RX9 285 yX9_latest, Cond.instanceMethod yX9_latest, Cond.selects RX9 yX9_latest yX9_latest, Cond.code yX9_latest cX9_latest 7 (some .long), Cond.fieldLink RX9 153 "TraitHouseModel" "told" "I", Cond.fieldLink RX9 16 "TraitHouseModel" "rowMoment" "[I", Cond.fieldLink RX9 22 "TraitHouseModel" "rowValue" "[I", Cond.methodLink RX9 270 yX9_counts]
def wsX9_works_r2 : List Cond := [Cond.instanceMethod yX9_counts, Cond.selects RX9 yX9_counts yX9_counts, Cond.code yX9_counts cX9_counts 5 (some .boolean), Cond.fieldLink RX9 25 "TraitHouseModel" "isGone" "[Z", Cond.fieldLink RX9 13 "TraitHouseModel" "rowStream" "[I", Cond.fieldLink RX9 71 "TraitHouseModel" "isOne" "[Z", Cond.fieldLink RX9 7 "TraitHouseModel" "rowPerson" "[I", Cond.fieldLink RX9 19 "TraitHouseModel" "rowKnown" "[I", Cond.methodLink RX9 289 yX9_windowed, Cond.instanceMethod yX9_windowed, Cond.selects RX9 yX9_windowed yX9_windowed, Cond.code yX9_windowed cX9_windowed 12 (some .long)]
def wsX9_works : List Cond := .code yX9_works cX9_works 8 (some .long) :: ((wsX9_works_r1 ++ wsX9_works_r2) ++ wsX90)
def wsX9_valueOf_r1 : List Cond := [Cond.fieldLink RX9 71 "TraitHouseModel" "isOne" "[Z", Cond.fieldLink RX9 64 "TraitHouseModel" "values" "[J", Cond.methodLink RX9 157 yX9_last, Cond.instanceMethod yX9_last, Cond.selects RX9 yX9_last yX9_last, Cond.initialized RX9, Cond.code yX9_last cX9_last 4 (some .int), Cond.fieldLink RX9 29 "TraitHouseModel" "mergeTo" "[I", Cond.fieldLink RX9 32 "TraitHouseModel" "mergeKnown" "[I", Cond.methodLink RX9 293 yX9_works, Cond.instanceMethod yX9_works, Cond.selects RX9 yX9_works yX9_works, Cond.code yX9_works cX9_works 8 (some .long), Cond.fieldLink RX9 49 "TraitHouseModel" "size0" "[I", Cond.fieldLink RX9 52 "TraitHouseModel" "step" "[I", Cond.fieldLink RX9 68 "TraitHouseModel" "heap" "[J", Cond.constantLong RX9 274 (-9000000000000000000), Cond.fieldLink RX9 55 "TraitHouseModel" "stepA" "[I", Cond.fieldLink RX9 58 "TraitHouseModel" "stepB" "[I", Cond.fieldLink RX9 61 "TraitHouseModel" "stepC" "[I", Cond.methodLink RX9 281 yX9_two, Cond.static yX9_two, Cond.code yX9_two cX9_two 7 (some .long), Cond.constantLong RX9 279 (1000000000000)]
def wsX9_valueOf_r2 : List Cond := [Cond.methodLink RX9 276 yX9_size, Cond.static yX9_size, Cond.code yX9_size cX9_size 2 (some .long), Cond.methodLink RX9 285 yX9_latest, Cond.instanceMethod yX9_latest, Cond.selects RX9 yX9_latest yX9_latest, Cond.code yX9_latest cX9_latest 7 (some .long), Cond.fieldLink RX9 153 "TraitHouseModel" "told" "I", Cond.fieldLink RX9 16 "TraitHouseModel" "rowMoment" "[I", Cond.fieldLink RX9 22 "TraitHouseModel" "rowValue" "[I", Cond.methodLink RX9 270 yX9_counts, Cond.instanceMethod yX9_counts, Cond.selects RX9 yX9_counts yX9_counts, Cond.code yX9_counts cX9_counts 5 (some .boolean), Cond.fieldLink RX9 25 "TraitHouseModel" "isGone" "[Z", Cond.fieldLink RX9 13 "TraitHouseModel" "rowStream" "[I", Cond.fieldLink RX9 7 "TraitHouseModel" "rowPerson" "[I", Cond.fieldLink RX9 19 "TraitHouseModel" "rowKnown" "[I", Cond.methodLink RX9 289 yX9_windowed, Cond.instanceMethod yX9_windowed, Cond.selects RX9 yX9_windowed yX9_windowed, Cond.code yX9_windowed cX9_windowed 12 (some .long)]
def wsX9_valueOf : List Cond := .code yX9_valueOf cX9_valueOf 6 (some .long) :: ((wsX9_valueOf_r1 ++ wsX9_valueOf_r2) ++ wsX90)
def wsX9_isTrait : List Cond := .code yX9_isTrait cX9_isTrait 2 (some .boolean) :: ([.fieldLink RX9 197 "TraitHouseModel" "traits" "I", .methodLink RX9 127 yX9_in, .static yX9_in, .initialized RX9, .code yX9_in cX9_in 6 (some .boolean)] ++ wsX90)
def wsX9_value_r1 : List Cond := [Cond.constantLong RX9 274 (-9000000000000000000), Cond.methodLink RX9 297 yX9_isTrait, Cond.instanceMethod yX9_isTrait, Cond.selects RX9 yX9_isTrait yX9_isTrait, Cond.initialized RX9, Cond.code yX9_isTrait cX9_isTrait 2 (some .boolean), Cond.fieldLink RX9 197 "TraitHouseModel" "traits" "I", Cond.methodLink RX9 127 yX9_in, Cond.static yX9_in, Cond.code yX9_in cX9_in 6 (some .boolean), Cond.methodLink RX9 150 yX9_isPerson, Cond.static yX9_isPerson, Cond.code yX9_isPerson cX9_isPerson 1 (some .boolean), Cond.constantLong RX9 131 (19), Cond.methodLink RX9 142 yX9_isMoment, Cond.static yX9_isMoment, Cond.code yX9_isMoment cX9_isMoment 1 (some .boolean), Cond.constantLong RX9 125 (100000), Cond.methodLink RX9 300 yX9_valueOf, Cond.instanceMethod yX9_valueOf, Cond.selects RX9 yX9_valueOf yX9_valueOf, Cond.code yX9_valueOf cX9_valueOf 6 (some .long), Cond.fieldLink RX9 71 "TraitHouseModel" "isOne" "[Z", Cond.fieldLink RX9 64 "TraitHouseModel" "values" "[J"]
def wsX9_value_r2 : List Cond := [Cond.methodLink RX9 157 yX9_last, Cond.instanceMethod yX9_last, Cond.selects RX9 yX9_last yX9_last, Cond.code yX9_last cX9_last 4 (some .int), Cond.fieldLink RX9 29 "TraitHouseModel" "mergeTo" "[I", Cond.fieldLink RX9 32 "TraitHouseModel" "mergeKnown" "[I", Cond.methodLink RX9 293 yX9_works, Cond.instanceMethod yX9_works, Cond.selects RX9 yX9_works yX9_works, Cond.code yX9_works cX9_works 8 (some .long), Cond.fieldLink RX9 49 "TraitHouseModel" "size0" "[I", Cond.fieldLink RX9 52 "TraitHouseModel" "step" "[I", Cond.fieldLink RX9 68 "TraitHouseModel" "heap" "[J", Cond.fieldLink RX9 55 "TraitHouseModel" "stepA" "[I", Cond.fieldLink RX9 58 "TraitHouseModel" "stepB" "[I", Cond.fieldLink RX9 61 "TraitHouseModel" "stepC" "[I", Cond.methodLink RX9 281 yX9_two, Cond.static yX9_two, Cond.code yX9_two cX9_two 7 (some .long), Cond.constantLong RX9 279 (1000000000000), Cond.methodLink RX9 276 yX9_size, Cond.static yX9_size, Cond.code yX9_size cX9_size 2 (some .long), Cond.methodLink RX9 285 yX9_latest]
def wsX9_value_r3 : List Cond := [Cond.instanceMethod yX9_latest, Cond.selects RX9 yX9_latest yX9_latest, Cond.code yX9_latest cX9_latest 7 (some .long), Cond.fieldLink RX9 153 "TraitHouseModel" "told" "I", Cond.fieldLink RX9 16 "TraitHouseModel" "rowMoment" "[I", Cond.fieldLink RX9 22 "TraitHouseModel" "rowValue" "[I", Cond.methodLink RX9 270 yX9_counts, Cond.instanceMethod yX9_counts, Cond.selects RX9 yX9_counts yX9_counts, Cond.code yX9_counts cX9_counts 5 (some .boolean), Cond.fieldLink RX9 25 "TraitHouseModel" "isGone" "[Z", Cond.fieldLink RX9 13 "TraitHouseModel" "rowStream" "[I", Cond.fieldLink RX9 7 "TraitHouseModel" "rowPerson" "[I", Cond.fieldLink RX9 19 "TraitHouseModel" "rowKnown" "[I", Cond.methodLink RX9 289 yX9_windowed, Cond.instanceMethod yX9_windowed, Cond.selects RX9 yX9_windowed yX9_windowed, Cond.code yX9_windowed cX9_windowed 12 (some .long)]
def wsX9_value : List Cond := .code yX9_value cX9_value 5 (some .long) :: ((wsX9_value_r1 ++ (wsX9_value_r2 ++ wsX9_value_r3)) ++ wsX90)
def wsX9_law : List Cond := .code yX9_law cX9_law 6 (some .int) :: ([.fieldLink RX9 80 "TraitHouseModel" "hasLaw" "[Z", .fieldLink RX9 74 "TraitHouseModel" "lawFrom" "[J", .fieldLink RX9 77 "TraitHouseModel" "lawTo" "[J", .methodLink RX9 136 yX9_ends, .instanceMethod yX9_ends, .selects RX9 yX9_ends yX9_ends, .initialized RX9, .code yX9_ends cX9_ends 2 (some .int), .fieldLink RX9 122 "TraitHouseModel" "status" "I", .methodLink RX9 297 yX9_isTrait, .instanceMethod yX9_isTrait, .selects RX9 yX9_isTrait yX9_isTrait, .code yX9_isTrait cX9_isTrait 2 (some .boolean), .fieldLink RX9 197 "TraitHouseModel" "traits" "I", .methodLink RX9 127 yX9_in, .static yX9_in, .code yX9_in cX9_in 6 (some .boolean)] ++ wsX90)
def wsX9_limit : List Cond := .code yX9_limit cX9_limit 4 (some .int) :: ([.constantLong RX9 125 (100000), .fieldLink RX9 83 "TraitHouseModel" "limits" "[I", .methodLink RX9 127 yX9_in, .static yX9_in, .initialized RX9, .code yX9_in cX9_in 6 (some .boolean), .methodLink RX9 136 yX9_ends, .instanceMethod yX9_ends, .selects RX9 yX9_ends yX9_ends, .code yX9_ends cX9_ends 2 (some .int), .fieldLink RX9 122 "TraitHouseModel" "status" "I", .methodLink RX9 297 yX9_isTrait, .instanceMethod yX9_isTrait, .selects RX9 yX9_isTrait yX9_isTrait, .code yX9_isTrait cX9_isTrait 2 (some .boolean), .fieldLink RX9 197 "TraitHouseModel" "traits" "I"] ++ wsX90)
def wsX9_lays : List Cond := .code yX9_lays cX9_lays 7 none :: ([.fieldLink RX9 98 "TraitHouseModel" "placeTrait" "[I", .fieldLink RX9 304 "TraitHouseModel" "places" "I", .fieldLink RX9 101 "TraitHouseModel" "placePerson" "[I", .fieldLink RX9 104 "TraitHouseModel" "placeMoment" "[I", .fieldLink RX9 107 "TraitHouseModel" "placeValue" "[J", .fieldLink RX9 110 "TraitHouseModel" "isFilled" "[Z"] ++ wsX90)
def wsX9_freshen_r1 : List Cond := [Cond.fieldLink RX9 35 "TraitHouseModel" "isErased" "[Z", Cond.fieldLink RX9 133 "TraitHouseModel" "now" "I", Cond.fieldLink RX9 80 "TraitHouseModel" "hasLaw" "[Z", Cond.constantLong RX9 274 (-9000000000000000000), Cond.fieldLink RX9 74 "TraitHouseModel" "lawFrom" "[J", Cond.fieldLink RX9 77 "TraitHouseModel" "lawTo" "[J", Cond.fieldLink RX9 89 "TraitHouseModel" "hasKept" "[Z", Cond.fieldLink RX9 92 "TraitHouseModel" "kept" "[J", Cond.fieldLink RX9 95 "TraitHouseModel" "keptAt" "[I", Cond.fieldLink RX9 304 "TraitHouseModel" "places" "I", Cond.fieldLink RX9 86 "TraitHouseModel" "held" "[I", Cond.methodLink RX9 297 yX9_isTrait, Cond.instanceMethod yX9_isTrait, Cond.selects RX9 yX9_isTrait yX9_isTrait, Cond.initialized RX9, Cond.code yX9_isTrait cX9_isTrait 2 (some .boolean), Cond.fieldLink RX9 197 "TraitHouseModel" "traits" "I", Cond.methodLink RX9 127 yX9_in, Cond.static yX9_in, Cond.code yX9_in cX9_in 6 (some .boolean), Cond.methodLink RX9 136 yX9_ends, Cond.instanceMethod yX9_ends, Cond.selects RX9 yX9_ends yX9_ends, Cond.code yX9_ends cX9_ends 2 (some .int)]
def wsX9_freshen_r2 : List Cond := [Cond.fieldLink RX9 122 "TraitHouseModel" "status" "I", Cond.methodLink RX9 300 yX9_valueOf, Cond.instanceMethod yX9_valueOf, Cond.selects RX9 yX9_valueOf yX9_valueOf, Cond.code yX9_valueOf cX9_valueOf 6 (some .long), Cond.fieldLink RX9 71 "TraitHouseModel" "isOne" "[Z", Cond.fieldLink RX9 64 "TraitHouseModel" "values" "[J", Cond.methodLink RX9 157 yX9_last, Cond.instanceMethod yX9_last, Cond.selects RX9 yX9_last yX9_last, Cond.code yX9_last cX9_last 4 (some .int), Cond.fieldLink RX9 29 "TraitHouseModel" "mergeTo" "[I", Cond.fieldLink RX9 32 "TraitHouseModel" "mergeKnown" "[I", Cond.methodLink RX9 293 yX9_works, Cond.instanceMethod yX9_works, Cond.selects RX9 yX9_works yX9_works, Cond.code yX9_works cX9_works 8 (some .long), Cond.fieldLink RX9 49 "TraitHouseModel" "size0" "[I", Cond.fieldLink RX9 52 "TraitHouseModel" "step" "[I", Cond.fieldLink RX9 68 "TraitHouseModel" "heap" "[J", Cond.fieldLink RX9 55 "TraitHouseModel" "stepA" "[I", Cond.fieldLink RX9 58 "TraitHouseModel" "stepB" "[I", Cond.fieldLink RX9 61 "TraitHouseModel" "stepC" "[I", Cond.methodLink RX9 281 yX9_two]
def wsX9_freshen_r3 : List Cond := [Cond.static yX9_two, Cond.code yX9_two cX9_two 7 (some .long), Cond.constantLong RX9 279 (1000000000000), Cond.methodLink RX9 276 yX9_size, Cond.static yX9_size, Cond.code yX9_size cX9_size 2 (some .long), Cond.methodLink RX9 285 yX9_latest, Cond.instanceMethod yX9_latest, Cond.selects RX9 yX9_latest yX9_latest, Cond.code yX9_latest cX9_latest 7 (some .long), Cond.fieldLink RX9 153 "TraitHouseModel" "told" "I", Cond.fieldLink RX9 16 "TraitHouseModel" "rowMoment" "[I", Cond.fieldLink RX9 22 "TraitHouseModel" "rowValue" "[I", Cond.methodLink RX9 270 yX9_counts, Cond.instanceMethod yX9_counts, Cond.selects RX9 yX9_counts yX9_counts, Cond.code yX9_counts cX9_counts 5 (some .boolean), Cond.fieldLink RX9 25 "TraitHouseModel" "isGone" "[Z", Cond.fieldLink RX9 13 "TraitHouseModel" "rowStream" "[I", Cond.fieldLink RX9 7 "TraitHouseModel" "rowPerson" "[I", Cond.fieldLink RX9 19 "TraitHouseModel" "rowKnown" "[I", Cond.methodLink RX9 289 yX9_windowed, Cond.instanceMethod yX9_windowed, Cond.selects RX9 yX9_windowed yX9_windowed]
def wsX9_freshen_r4 : List Cond := [Cond.code yX9_windowed cX9_windowed 12 (some .long), Cond.methodLink RX9 307 yX9_lays, Cond.instanceMethod yX9_lays, Cond.selects RX9 yX9_lays yX9_lays, Cond.code yX9_lays cX9_lays 7 none, Cond.fieldLink RX9 98 "TraitHouseModel" "placeTrait" "[I", Cond.fieldLink RX9 101 "TraitHouseModel" "placePerson" "[I", Cond.fieldLink RX9 104 "TraitHouseModel" "placeMoment" "[I", Cond.fieldLink RX9 107 "TraitHouseModel" "placeValue" "[J", Cond.fieldLink RX9 110 "TraitHouseModel" "isFilled" "[Z"]
def wsX9_freshen : List Cond := .code yX9_freshen cX9_freshen 6 (some .int) :: ((wsX9_freshen_r1 ++ (wsX9_freshen_r2 ++ (wsX9_freshen_r3 ++ wsX9_freshen_r4))) ++ wsX90)
def wsX9_isKept : List Cond := .code yX9_isKept cX9_isKept 3 (some .boolean) :: ([.fieldLink RX9 89 "TraitHouseModel" "hasKept" "[Z", .methodLink RX9 297 yX9_isTrait, .instanceMethod yX9_isTrait, .selects RX9 yX9_isTrait yX9_isTrait, .initialized RX9, .code yX9_isTrait cX9_isTrait 2 (some .boolean), .fieldLink RX9 197 "TraitHouseModel" "traits" "I", .methodLink RX9 127 yX9_in, .static yX9_in, .code yX9_in cX9_in 6 (some .boolean), .methodLink RX9 150 yX9_isPerson, .static yX9_isPerson, .code yX9_isPerson cX9_isPerson 1 (some .boolean), .constantLong RX9 131 (19)] ++ wsX90)
def wsX9_kept : List Cond := .code yX9_kept cX9_kept 3 (some .long) :: ([.fieldLink RX9 92 "TraitHouseModel" "kept" "[J", .constantLong RX9 274 (-9000000000000000000), .methodLink RX9 311 yX9_isKept, .instanceMethod yX9_isKept, .selects RX9 yX9_isKept yX9_isKept, .initialized RX9, .code yX9_isKept cX9_isKept 3 (some .boolean), .fieldLink RX9 89 "TraitHouseModel" "hasKept" "[Z", .methodLink RX9 297 yX9_isTrait, .instanceMethod yX9_isTrait, .selects RX9 yX9_isTrait yX9_isTrait, .code yX9_isTrait cX9_isTrait 2 (some .boolean), .fieldLink RX9 197 "TraitHouseModel" "traits" "I", .methodLink RX9 127 yX9_in, .static yX9_in, .code yX9_in cX9_in 6 (some .boolean), .methodLink RX9 150 yX9_isPerson, .static yX9_isPerson, .code yX9_isPerson cX9_isPerson 1 (some .boolean), .constantLong RX9 131 (19)] ++ wsX90)
def wsX9_age : List Cond := .code yX9_age cX9_age 5 (some .int) :: ([.fieldLink RX9 95 "TraitHouseModel" "keptAt" "[I", .fieldLink RX9 133 "TraitHouseModel" "now" "I", .fieldLink RX9 83 "TraitHouseModel" "limits" "[I", .methodLink RX9 311 yX9_isKept, .instanceMethod yX9_isKept, .selects RX9 yX9_isKept yX9_isKept, .initialized RX9, .code yX9_isKept cX9_isKept 3 (some .boolean), .fieldLink RX9 89 "TraitHouseModel" "hasKept" "[Z", .methodLink RX9 297 yX9_isTrait, .instanceMethod yX9_isTrait, .selects RX9 yX9_isTrait yX9_isTrait, .code yX9_isTrait cX9_isTrait 2 (some .boolean), .fieldLink RX9 197 "TraitHouseModel" "traits" "I", .methodLink RX9 127 yX9_in, .static yX9_in, .code yX9_in cX9_in 6 (some .boolean), .methodLink RX9 150 yX9_isPerson, .static yX9_isPerson, .code yX9_isPerson cX9_isPerson 1 (some .boolean), .constantLong RX9 131 (19)] ++ wsX90)
def wsX9_held : List Cond := .code yX9_held cX9_held 2 (some .int) :: ([.fieldLink RX9 86 "TraitHouseModel" "held" "[I", .methodLink RX9 297 yX9_isTrait, .instanceMethod yX9_isTrait, .selects RX9 yX9_isTrait yX9_isTrait, .initialized RX9, .code yX9_isTrait cX9_isTrait 2 (some .boolean), .fieldLink RX9 197 "TraitHouseModel" "traits" "I", .methodLink RX9 127 yX9_in, .static yX9_in, .code yX9_in cX9_in 6 (some .boolean)] ++ wsX90)
def wsX9_living : List Cond := .code yX9_living cX9_living 3 (some .int) :: ([.fieldLink RX9 35 "TraitHouseModel" "isErased" "[Z"] ++ wsX90)
def wsX9_fill_r1 : List Cond := [Cond.fieldLink RX9 133 "TraitHouseModel" "now" "I", Cond.fieldLink RX9 304 "TraitHouseModel" "places" "I", Cond.fieldLink RX9 35 "TraitHouseModel" "isErased" "[Z", Cond.methodLink RX9 127 yX9_in, Cond.static yX9_in, Cond.initialized RX9, Cond.code yX9_in cX9_in 6 (some .boolean), Cond.methodLink RX9 136 yX9_ends, Cond.instanceMethod yX9_ends, Cond.selects RX9 yX9_ends yX9_ends, Cond.code yX9_ends cX9_ends 2 (some .int), Cond.fieldLink RX9 122 "TraitHouseModel" "status" "I", Cond.methodLink RX9 297 yX9_isTrait, Cond.instanceMethod yX9_isTrait, Cond.selects RX9 yX9_isTrait yX9_isTrait, Cond.code yX9_isTrait cX9_isTrait 2 (some .boolean), Cond.fieldLink RX9 197 "TraitHouseModel" "traits" "I", Cond.methodLink RX9 315 yX9_living, Cond.instanceMethod yX9_living, Cond.selects RX9 yX9_living yX9_living, Cond.code yX9_living cX9_living 3 (some .int), Cond.methodLink RX9 300 yX9_valueOf, Cond.instanceMethod yX9_valueOf, Cond.selects RX9 yX9_valueOf yX9_valueOf]
def wsX9_fill_r2 : List Cond := [Cond.code yX9_valueOf cX9_valueOf 6 (some .long), Cond.fieldLink RX9 71 "TraitHouseModel" "isOne" "[Z", Cond.fieldLink RX9 64 "TraitHouseModel" "values" "[J", Cond.methodLink RX9 157 yX9_last, Cond.instanceMethod yX9_last, Cond.selects RX9 yX9_last yX9_last, Cond.code yX9_last cX9_last 4 (some .int), Cond.fieldLink RX9 29 "TraitHouseModel" "mergeTo" "[I", Cond.fieldLink RX9 32 "TraitHouseModel" "mergeKnown" "[I", Cond.methodLink RX9 293 yX9_works, Cond.instanceMethod yX9_works, Cond.selects RX9 yX9_works yX9_works, Cond.code yX9_works cX9_works 8 (some .long), Cond.fieldLink RX9 49 "TraitHouseModel" "size0" "[I", Cond.fieldLink RX9 52 "TraitHouseModel" "step" "[I", Cond.fieldLink RX9 68 "TraitHouseModel" "heap" "[J", Cond.constantLong RX9 274 (-9000000000000000000), Cond.fieldLink RX9 55 "TraitHouseModel" "stepA" "[I", Cond.fieldLink RX9 58 "TraitHouseModel" "stepB" "[I", Cond.fieldLink RX9 61 "TraitHouseModel" "stepC" "[I", Cond.methodLink RX9 281 yX9_two, Cond.static yX9_two, Cond.code yX9_two cX9_two 7 (some .long), Cond.constantLong RX9 279 (1000000000000)]
def wsX9_fill_r3 : List Cond := [Cond.methodLink RX9 276 yX9_size, Cond.static yX9_size, Cond.code yX9_size cX9_size 2 (some .long), Cond.methodLink RX9 285 yX9_latest, Cond.instanceMethod yX9_latest, Cond.selects RX9 yX9_latest yX9_latest, Cond.code yX9_latest cX9_latest 7 (some .long), Cond.fieldLink RX9 153 "TraitHouseModel" "told" "I", Cond.fieldLink RX9 16 "TraitHouseModel" "rowMoment" "[I", Cond.fieldLink RX9 22 "TraitHouseModel" "rowValue" "[I", Cond.methodLink RX9 270 yX9_counts, Cond.instanceMethod yX9_counts, Cond.selects RX9 yX9_counts yX9_counts, Cond.code yX9_counts cX9_counts 5 (some .boolean), Cond.fieldLink RX9 25 "TraitHouseModel" "isGone" "[Z", Cond.fieldLink RX9 13 "TraitHouseModel" "rowStream" "[I", Cond.fieldLink RX9 7 "TraitHouseModel" "rowPerson" "[I", Cond.fieldLink RX9 19 "TraitHouseModel" "rowKnown" "[I", Cond.methodLink RX9 289 yX9_windowed, Cond.instanceMethod yX9_windowed, Cond.selects RX9 yX9_windowed yX9_windowed, Cond.code yX9_windowed cX9_windowed 12 (some .long), Cond.methodLink RX9 307 yX9_lays, Cond.instanceMethod yX9_lays]
def wsX9_fill_r4 : List Cond := [Cond.selects RX9 yX9_lays yX9_lays, Cond.code yX9_lays cX9_lays 7 none, Cond.fieldLink RX9 98 "TraitHouseModel" "placeTrait" "[I", Cond.fieldLink RX9 101 "TraitHouseModel" "placePerson" "[I", Cond.fieldLink RX9 104 "TraitHouseModel" "placeMoment" "[I", Cond.fieldLink RX9 107 "TraitHouseModel" "placeValue" "[J", Cond.fieldLink RX9 110 "TraitHouseModel" "isFilled" "[Z"]
def wsX9_fill : List Cond := .code yX9_fill cX9_fill 8 (some .int) :: ((wsX9_fill_r1 ++ (wsX9_fill_r2 ++ (wsX9_fill_r3 ++ wsX9_fill_r4))) ++ wsX90)
def wsX9_found : List Cond := .code yX9_found cX9_found 6 (some .int) :: ([.fieldLink RX9 35 "TraitHouseModel" "isErased" "[Z", .fieldLink RX9 304 "TraitHouseModel" "places" "I", .fieldLink RX9 98 "TraitHouseModel" "placeTrait" "[I", .fieldLink RX9 101 "TraitHouseModel" "placePerson" "[I", .fieldLink RX9 104 "TraitHouseModel" "placeMoment" "[I", .methodLink RX9 150 yX9_isPerson, .static yX9_isPerson, .initialized RX9, .code yX9_isPerson cX9_isPerson 1 (some .boolean), .constantLong RX9 131 (19), .methodLink RX9 127 yX9_in, .static yX9_in, .code yX9_in cX9_in 6 (some .boolean), .methodLink RX9 142 yX9_isMoment, .static yX9_isMoment, .code yX9_isMoment cX9_isMoment 1 (some .boolean), .constantLong RX9 125 (100000)] ++ wsX90)
def wsX9_history : List Cond := .code yX9_history cX9_history 5 (some .long) :: ([.constantLong RX9 274 (-9000000000000000000), .fieldLink RX9 107 "TraitHouseModel" "placeValue" "[J", .methodLink RX9 319 yX9_found, .instanceMethod yX9_found, .selects RX9 yX9_found yX9_found, .initialized RX9, .code yX9_found cX9_found 6 (some .int), .fieldLink RX9 35 "TraitHouseModel" "isErased" "[Z", .fieldLink RX9 304 "TraitHouseModel" "places" "I", .fieldLink RX9 98 "TraitHouseModel" "placeTrait" "[I", .fieldLink RX9 101 "TraitHouseModel" "placePerson" "[I", .fieldLink RX9 104 "TraitHouseModel" "placeMoment" "[I", .methodLink RX9 150 yX9_isPerson, .static yX9_isPerson, .code yX9_isPerson cX9_isPerson 1 (some .boolean), .constantLong RX9 131 (19), .methodLink RX9 127 yX9_in, .static yX9_in, .code yX9_in cX9_in 6 (some .boolean), .methodLink RX9 142 yX9_isMoment, .static yX9_isMoment, .code yX9_isMoment cX9_isMoment 1 (some .boolean), .constantLong RX9 125 (100000)] ++ wsX90)
def wsX9_told : List Cond := .code yX9_told cX9_told 6 (some .int) :: ([.fieldLink RX9 104 "TraitHouseModel" "placeMoment" "[I", .fieldLink RX9 110 "TraitHouseModel" "isFilled" "[Z", .methodLink RX9 319 yX9_found, .instanceMethod yX9_found, .selects RX9 yX9_found yX9_found, .initialized RX9, .code yX9_found cX9_found 6 (some .int), .fieldLink RX9 35 "TraitHouseModel" "isErased" "[Z", .fieldLink RX9 304 "TraitHouseModel" "places" "I", .fieldLink RX9 98 "TraitHouseModel" "placeTrait" "[I", .fieldLink RX9 101 "TraitHouseModel" "placePerson" "[I", .methodLink RX9 150 yX9_isPerson, .static yX9_isPerson, .code yX9_isPerson cX9_isPerson 1 (some .boolean), .constantLong RX9 131 (19), .methodLink RX9 127 yX9_in, .static yX9_in, .code yX9_in cX9_in 6 (some .boolean), .methodLink RX9 142 yX9_isMoment, .static yX9_isMoment, .code yX9_isMoment cX9_isMoment 1 (some .boolean), .constantLong RX9 125 (100000)] ++ wsX90)
def wsX9_model : List Cond := .code yX9_model cX9_model 2 (some .int) :: ([.fieldLink RX9 197 "TraitHouseModel" "traits" "I", .fieldLink RX9 323 "TraitHouseModel" "models" "I", .fieldLink RX9 113 "TraitHouseModel" "uses" "[I", .methodLink RX9 136 yX9_ends, .instanceMethod yX9_ends, .selects RX9 yX9_ends yX9_ends, .initialized RX9, .code yX9_ends cX9_ends 2 (some .int), .fieldLink RX9 122 "TraitHouseModel" "status" "I"] ++ wsX90)
def wsX9_neededOf : List Cond := .code yX9_neededOf cX9_neededOf 5 (some .int) :: ([.fieldLink RX9 113 "TraitHouseModel" "uses" "[I", .fieldLink RX9 197 "TraitHouseModel" "traits" "I", .fieldLink RX9 49 "TraitHouseModel" "size0" "[I", .fieldLink RX9 52 "TraitHouseModel" "step" "[I", .fieldLink RX9 55 "TraitHouseModel" "stepA" "[I"] ++ wsX90)
def wsX9_needed : List Cond := .code yX9_needed cX9_needed 2 (some .int) :: ([.fieldLink RX9 323 "TraitHouseModel" "models" "I", .methodLink RX9 127 yX9_in, .static yX9_in, .initialized RX9, .code yX9_in cX9_in 6 (some .boolean), .methodLink RX9 326 yX9_neededOf, .instanceMethod yX9_neededOf, .selects RX9 yX9_neededOf yX9_neededOf, .code yX9_neededOf cX9_neededOf 5 (some .int), .fieldLink RX9 113 "TraitHouseModel" "uses" "[I", .fieldLink RX9 197 "TraitHouseModel" "traits" "I", .fieldLink RX9 49 "TraitHouseModel" "size0" "[I", .fieldLink RX9 52 "TraitHouseModel" "step" "[I", .fieldLink RX9 55 "TraitHouseModel" "stepA" "[I"] ++ wsX90)
def wsX9_hung : List Cond := .code yX9_hung cX9_hung 4 (some .int) :: ([.fieldLink RX9 323 "TraitHouseModel" "models" "I", .methodLink RX9 297 yX9_isTrait, .instanceMethod yX9_isTrait, .selects RX9 yX9_isTrait yX9_isTrait, .initialized RX9, .code yX9_isTrait cX9_isTrait 2 (some .boolean), .fieldLink RX9 197 "TraitHouseModel" "traits" "I", .methodLink RX9 127 yX9_in, .static yX9_in, .code yX9_in cX9_in 6 (some .boolean), .methodLink RX9 326 yX9_neededOf, .instanceMethod yX9_neededOf, .selects RX9 yX9_neededOf yX9_neededOf, .code yX9_neededOf cX9_neededOf 5 (some .int), .fieldLink RX9 113 "TraitHouseModel" "uses" "[I", .fieldLink RX9 49 "TraitHouseModel" "size0" "[I", .fieldLink RX9 52 "TraitHouseModel" "step" "[I", .fieldLink RX9 55 "TraitHouseModel" "stepA" "[I"] ++ wsX90)
def wsX9_misses_r1 : List Cond := [Cond.fieldLink RX9 323 "TraitHouseModel" "models" "I", Cond.fieldLink RX9 197 "TraitHouseModel" "traits" "I", Cond.constantLong RX9 274 (-9000000000000000000), Cond.methodLink RX9 127 yX9_in, Cond.static yX9_in, Cond.initialized RX9, Cond.code yX9_in cX9_in 6 (some .boolean), Cond.methodLink RX9 150 yX9_isPerson, Cond.static yX9_isPerson, Cond.code yX9_isPerson cX9_isPerson 1 (some .boolean), Cond.constantLong RX9 131 (19), Cond.methodLink RX9 326 yX9_neededOf, Cond.instanceMethod yX9_neededOf, Cond.selects RX9 yX9_neededOf yX9_neededOf, Cond.code yX9_neededOf cX9_neededOf 5 (some .int), Cond.fieldLink RX9 113 "TraitHouseModel" "uses" "[I", Cond.fieldLink RX9 49 "TraitHouseModel" "size0" "[I", Cond.fieldLink RX9 52 "TraitHouseModel" "step" "[I", Cond.fieldLink RX9 55 "TraitHouseModel" "stepA" "[I", Cond.methodLink RX9 329 yX9_kept, Cond.instanceMethod yX9_kept, Cond.selects RX9 yX9_kept yX9_kept, Cond.code yX9_kept cX9_kept 3 (some .long), Cond.fieldLink RX9 92 "TraitHouseModel" "kept" "[J"]
def wsX9_misses_r2 : List Cond := [Cond.methodLink RX9 311 yX9_isKept, Cond.instanceMethod yX9_isKept, Cond.selects RX9 yX9_isKept yX9_isKept, Cond.code yX9_isKept cX9_isKept 3 (some .boolean), Cond.fieldLink RX9 89 "TraitHouseModel" "hasKept" "[Z", Cond.methodLink RX9 297 yX9_isTrait, Cond.instanceMethod yX9_isTrait, Cond.selects RX9 yX9_isTrait yX9_isTrait, Cond.code yX9_isTrait cX9_isTrait 2 (some .boolean), Cond.methodLink RX9 332 yX9_age, Cond.instanceMethod yX9_age, Cond.selects RX9 yX9_age yX9_age, Cond.code yX9_age cX9_age 5 (some .int), Cond.fieldLink RX9 95 "TraitHouseModel" "keptAt" "[I", Cond.fieldLink RX9 133 "TraitHouseModel" "now" "I", Cond.fieldLink RX9 83 "TraitHouseModel" "limits" "[I"]
def wsX9_misses : List Cond := .code yX9_misses cX9_misses 5 (some .int) :: ((wsX9_misses_r1 ++ wsX9_misses_r2) ++ wsX90)
def wsX9_heaps_r1 : List Cond := [Cond.fieldLink RX9 35 "TraitHouseModel" "isErased" "[Z", Cond.constantLong RX9 274 (-9000000000000000000), Cond.methodLink RX9 300 yX9_valueOf, Cond.instanceMethod yX9_valueOf, Cond.selects RX9 yX9_valueOf yX9_valueOf, Cond.initialized RX9, Cond.code yX9_valueOf cX9_valueOf 6 (some .long), Cond.fieldLink RX9 71 "TraitHouseModel" "isOne" "[Z", Cond.fieldLink RX9 64 "TraitHouseModel" "values" "[J", Cond.methodLink RX9 157 yX9_last, Cond.instanceMethod yX9_last, Cond.selects RX9 yX9_last yX9_last, Cond.code yX9_last cX9_last 4 (some .int), Cond.fieldLink RX9 29 "TraitHouseModel" "mergeTo" "[I", Cond.fieldLink RX9 32 "TraitHouseModel" "mergeKnown" "[I", Cond.methodLink RX9 293 yX9_works, Cond.instanceMethod yX9_works, Cond.selects RX9 yX9_works yX9_works, Cond.code yX9_works cX9_works 8 (some .long), Cond.fieldLink RX9 49 "TraitHouseModel" "size0" "[I", Cond.fieldLink RX9 52 "TraitHouseModel" "step" "[I", Cond.fieldLink RX9 68 "TraitHouseModel" "heap" "[J", Cond.fieldLink RX9 55 "TraitHouseModel" "stepA" "[I", Cond.fieldLink RX9 58 "TraitHouseModel" "stepB" "[I"]
def wsX9_heaps_r2 : List Cond := [Cond.fieldLink RX9 61 "TraitHouseModel" "stepC" "[I", Cond.methodLink RX9 281 yX9_two, Cond.static yX9_two, Cond.code yX9_two cX9_two 7 (some .long), Cond.constantLong RX9 279 (1000000000000), Cond.methodLink RX9 276 yX9_size, Cond.static yX9_size, Cond.code yX9_size cX9_size 2 (some .long), Cond.methodLink RX9 285 yX9_latest, Cond.instanceMethod yX9_latest, Cond.selects RX9 yX9_latest yX9_latest, Cond.code yX9_latest cX9_latest 7 (some .long), Cond.fieldLink RX9 153 "TraitHouseModel" "told" "I", Cond.fieldLink RX9 16 "TraitHouseModel" "rowMoment" "[I", Cond.fieldLink RX9 22 "TraitHouseModel" "rowValue" "[I", Cond.methodLink RX9 270 yX9_counts, Cond.instanceMethod yX9_counts, Cond.selects RX9 yX9_counts yX9_counts, Cond.code yX9_counts cX9_counts 5 (some .boolean), Cond.fieldLink RX9 25 "TraitHouseModel" "isGone" "[Z", Cond.fieldLink RX9 13 "TraitHouseModel" "rowStream" "[I", Cond.fieldLink RX9 7 "TraitHouseModel" "rowPerson" "[I", Cond.fieldLink RX9 19 "TraitHouseModel" "rowKnown" "[I", Cond.methodLink RX9 289 yX9_windowed]
def wsX9_heaps_r3 : List Cond := [Cond.instanceMethod yX9_windowed, Cond.selects RX9 yX9_windowed yX9_windowed, Cond.code yX9_windowed cX9_windowed 12 (some .long)]
def wsX9_heaps : List Cond := .code yX9_heaps cX9_heaps 14 (some .int) :: ((wsX9_heaps_r1 ++ (wsX9_heaps_r2 ++ wsX9_heaps_r3)) ++ wsX90)
def wsX9_shift_r1 : List Cond := [Cond.constantLong RX9 335 (-1), Cond.constantLong RX9 337 (-2), Cond.fieldLink RX9 116 "TraitHouseModel" "heapsOne" "[I", Cond.fieldLink RX9 119 "TraitHouseModel" "heapsOther" "[I", Cond.constantLong RX9 343 (-6), Cond.methodLink RX9 142 yX9_isMoment, Cond.static yX9_isMoment, Cond.initialized RX9, Cond.code yX9_isMoment cX9_isMoment 1 (some .boolean), Cond.constantLong RX9 125 (100000), Cond.methodLink RX9 127 yX9_in, Cond.static yX9_in, Cond.code yX9_in cX9_in 6 (some .boolean), Cond.methodLink RX9 297 yX9_isTrait, Cond.instanceMethod yX9_isTrait, Cond.selects RX9 yX9_isTrait yX9_isTrait, Cond.code yX9_isTrait cX9_isTrait 2 (some .boolean), Cond.fieldLink RX9 197 "TraitHouseModel" "traits" "I", Cond.methodLink RX9 339 yX9_heaps, Cond.instanceMethod yX9_heaps, Cond.selects RX9 yX9_heaps yX9_heaps, Cond.code yX9_heaps cX9_heaps 14 (some .int), Cond.fieldLink RX9 35 "TraitHouseModel" "isErased" "[Z", Cond.constantLong RX9 274 (-9000000000000000000)]
def wsX9_shift_r2 : List Cond := [Cond.methodLink RX9 300 yX9_valueOf, Cond.instanceMethod yX9_valueOf, Cond.selects RX9 yX9_valueOf yX9_valueOf, Cond.code yX9_valueOf cX9_valueOf 6 (some .long), Cond.fieldLink RX9 71 "TraitHouseModel" "isOne" "[Z", Cond.fieldLink RX9 64 "TraitHouseModel" "values" "[J", Cond.methodLink RX9 157 yX9_last, Cond.instanceMethod yX9_last, Cond.selects RX9 yX9_last yX9_last, Cond.code yX9_last cX9_last 4 (some .int), Cond.fieldLink RX9 29 "TraitHouseModel" "mergeTo" "[I", Cond.fieldLink RX9 32 "TraitHouseModel" "mergeKnown" "[I", Cond.methodLink RX9 293 yX9_works, Cond.instanceMethod yX9_works, Cond.selects RX9 yX9_works yX9_works, Cond.code yX9_works cX9_works 8 (some .long), Cond.fieldLink RX9 49 "TraitHouseModel" "size0" "[I", Cond.fieldLink RX9 52 "TraitHouseModel" "step" "[I", Cond.fieldLink RX9 68 "TraitHouseModel" "heap" "[J", Cond.fieldLink RX9 55 "TraitHouseModel" "stepA" "[I", Cond.fieldLink RX9 58 "TraitHouseModel" "stepB" "[I", Cond.fieldLink RX9 61 "TraitHouseModel" "stepC" "[I", Cond.methodLink RX9 281 yX9_two, Cond.static yX9_two]
def wsX9_shift_r3 : List Cond := [Cond.code yX9_two cX9_two 7 (some .long), Cond.constantLong RX9 279 (1000000000000), Cond.methodLink RX9 276 yX9_size, Cond.static yX9_size, Cond.code yX9_size cX9_size 2 (some .long), Cond.methodLink RX9 285 yX9_latest, Cond.instanceMethod yX9_latest, Cond.selects RX9 yX9_latest yX9_latest, Cond.code yX9_latest cX9_latest 7 (some .long), Cond.fieldLink RX9 153 "TraitHouseModel" "told" "I", Cond.fieldLink RX9 16 "TraitHouseModel" "rowMoment" "[I", Cond.fieldLink RX9 22 "TraitHouseModel" "rowValue" "[I", Cond.methodLink RX9 270 yX9_counts, Cond.instanceMethod yX9_counts, Cond.selects RX9 yX9_counts yX9_counts, Cond.code yX9_counts cX9_counts 5 (some .boolean), Cond.fieldLink RX9 25 "TraitHouseModel" "isGone" "[Z", Cond.fieldLink RX9 13 "TraitHouseModel" "rowStream" "[I", Cond.fieldLink RX9 7 "TraitHouseModel" "rowPerson" "[I", Cond.fieldLink RX9 19 "TraitHouseModel" "rowKnown" "[I", Cond.methodLink RX9 289 yX9_windowed, Cond.instanceMethod yX9_windowed, Cond.selects RX9 yX9_windowed yX9_windowed, Cond.code yX9_windowed cX9_windowed 12 (some .long)]
def wsX9_shift : List Cond := .code yX9_shift cX9_shift 17 (some .long) :: ((wsX9_shift_r1 ++ (wsX9_shift_r2 ++ wsX9_shift_r3)) ++ wsX90)
def wsX9_count : List Cond := .code yX9_count cX9_count 4 (some .int) :: ([.fieldLink RX9 133 "TraitHouseModel" "now" "I", .fieldLink RX9 153 "TraitHouseModel" "told" "I", .fieldLink RX9 25 "TraitHouseModel" "isGone" "[Z", .fieldLink RX9 161 "TraitHouseModel" "merges" "I", .fieldLink RX9 197 "TraitHouseModel" "traits" "I", .fieldLink RX9 323 "TraitHouseModel" "models" "I", .fieldLink RX9 304 "TraitHouseModel" "places" "I", .fieldLink RX9 164 "TraitHouseModel" "taped" "I", .methodLink RX9 315 yX9_living, .instanceMethod yX9_living, .selects RX9 yX9_living yX9_living, .initialized RX9, .code yX9_living cX9_living 3 (some .int), .fieldLink RX9 35 "TraitHouseModel" "isErased" "[Z"] ++ wsX90)
def wsX9_status : List Cond := .code yX9_status cX9_status 1 (some .int) :: ([.fieldLink RX9 122 "TraitHouseModel" "status" "I"] ++ wsX90)
def wsJ9_abs_067f4 : List Cond := .code yJ9_abs_067f4 cJ9_abs_067f4 2 (some .long) :: ([])
def wsJ9_max_7cf53 : List Cond := .code yJ9_max_7cf53 cJ9_max_7cf53 2 (some .int) :: ([])
def wsJ9_max_f86c9 : List Cond := .code yJ9_max_f86c9 cJ9_max_f86c9 4 (some .long) :: ([])
def wsJ9_min_7cf53 : List Cond := .code yJ9_min_7cf53 cJ9_min_7cf53 2 (some .int) :: ([])
def wsJ9_min_f86c9 : List Cond := .code yJ9_min_f86c9 cJ9_min_f86c9 4 (some .long) :: ([])
def wsL_law_r1 : List Cond := [Cond.classLink RL 7 RX8, Cond.instantiable RX8 17, Cond.initialized RX8, Cond.classLink RL 10 RX9, Cond.instantiable RX9 51, Cond.initialized RX9, Cond.constantLong RL 59 (4294967295), Cond.methodLink RL 9 yX8_init, Cond.instanceMethod yX8_init, Cond.code yX8_init cX8_init 1 none, Cond.methodLink RX8 1 objectInit, Cond.instanceMethod objectInit, Cond.code objectInit ⟨#[0xb1]⟩ 1 none, Cond.classLink RX8 7 RX3, Cond.instantiable RX3 7, Cond.initialized RX3, Cond.fieldLink RX8 10 "TraitHouse" "rows" "LTraitHouse$Rows;", Cond.classLink RX8 16 RX0, Cond.instantiable RX0 3, Cond.initialized RX0, Cond.fieldLink RX8 19 "TraitHouse" "merges" "LTraitHouse$Merges;", Cond.arrayClass .boolean, Cond.fieldLink RX8 23 "TraitHouse" "erased" "[Z", Cond.classLink RX8 27 RX5]
def wsL_law_r2 : List Cond := [Cond.instantiable RX5 2, Cond.initialized RX5, Cond.fieldLink RX8 30 "TraitHouse" "tape" "LTraitHouse$Tape;", Cond.classLink RX8 34 RX2, Cond.instantiable RX2 9, Cond.initialized RX2, Cond.fieldLink RX8 39 "TraitHouse" "reader" "LTraitHouse$Reader;", Cond.classLink RX8 43 RX6, Cond.fieldLink RX8 45 "TraitHouse" "traits" "[LTraitHouse$Trait;", Cond.classLink RX8 49 RX7, Cond.instantiable RX7 10, Cond.initialized RX7, Cond.fieldLink RX8 54 "TraitHouse" "worker" "LTraitHouse$Worker;", Cond.classLink RX8 58 RX1, Cond.instantiable RX1 5, Cond.initialized RX1, Cond.fieldLink RX8 61 "TraitHouse" "places" "LTraitHouse$Places;", Cond.arrayClass .int, Cond.fieldLink RX8 65 "TraitHouse" "models" "[I", Cond.fieldLink RX8 69 "TraitHouse" "heapsAtOne" "[I", Cond.fieldLink RX8 72 "TraitHouse" "heapsAtOther" "[I", Cond.fieldLink RX8 75 "TraitHouse" "latestFault" "I", Cond.instanceMethod yX3_init, Cond.code yX3_init cX3_init 1 none]
def wsL_law_r3 : List Cond := [Cond.methodLink RX3 3 objectInit, Cond.fieldLink RX3 9 "TraitHouse$Rows" "people" "[I", Cond.fieldLink RX3 15 "TraitHouse$Rows" "streams" "[I", Cond.fieldLink RX3 18 "TraitHouse$Rows" "moments" "[I", Cond.fieldLink RX3 21 "TraitHouse$Rows" "knowns" "[I", Cond.fieldLink RX3 24 "TraitHouse$Rows" "values" "[I", Cond.instanceMethod yX0_init, Cond.code yX0_init cX0_init 1 none, Cond.methodLink RX0 3 objectInit, Cond.fieldLink RX0 9 "TraitHouse$Merges" "targets" "[I", Cond.fieldLink RX0 15 "TraitHouse$Merges" "knowns" "[I", Cond.methodLink RX0 18 yJ7_fill_53178, Cond.static yJ7_fill_53178, Cond.initialized RJ7, Cond.code yJ7_fill_53178 cJ7_fill_53178 4 none, Cond.instanceMethod yX5_init, Cond.code yX5_init cX5_init 1 none, Cond.methodLink RX5 3 objectInit, Cond.fieldLink RX5 9 "TraitHouse$Tape" "bytes" "[I", Cond.instanceMethod yX2_init, Cond.code yX2_init cX2_init 2 none, Cond.methodLink RX2 3 objectInit, Cond.classLink RX2 9 RX4, Cond.fieldLink RX2 11 "TraitHouse$Reader" "steps" "[LTraitHouse$Step;"]
def wsL_law_r4 : List Cond := [Cond.fieldLink RX2 17 "TraitHouse$Reader" "tape" "LTraitHouse$Tape;", Cond.instanceMethod yX7_init, Cond.code yX7_init cX7_init 4 none, Cond.methodLink RX7 3 objectInit, Cond.fieldLink RX7 9 "TraitHouse$Worker" "ones" "[Z", Cond.fieldLink RX7 15 "TraitHouse$Worker" "seen" "[I", Cond.arrayClass .long, Cond.fieldLink RX7 19 "TraitHouse$Worker" "stack" "[J", Cond.fieldLink RX7 23 "TraitHouse$Worker" "values" "[J", Cond.fieldLink RX7 26 "TraitHouse$Worker" "rows" "LTraitHouse$Rows;", Cond.fieldLink RX7 30 "TraitHouse$Worker" "merges" "LTraitHouse$Merges;", Cond.fieldLink RX7 34 "TraitHouse$Worker" "traits" "[LTraitHouse$Trait;", Cond.instanceMethod yX1_init, Cond.code yX1_init cX1_init 1 none, Cond.methodLink RX1 3 objectInit, Cond.fieldLink RX1 9 "TraitHouse$Places" "owners" "[I", Cond.fieldLink RX1 15 "TraitHouse$Places" "moments" "[I", Cond.fieldLink RX1 18 "TraitHouse$Places" "filled" "[Z", Cond.fieldLink RX1 22 "TraitHouse$Places" "values" "[J", Cond.methodLink RL 12 yX9_init, Cond.instanceMethod yX9_init, Cond.code yX9_init cX9_init 1 none, Cond.methodLink RX9 1 objectInit, Cond.fieldLink RX9 7 "TraitHouseModel" "rowPerson" "[I"]
def wsL_law_r5 : List Cond := [Cond.fieldLink RX9 13 "TraitHouseModel" "rowStream" "[I", Cond.fieldLink RX9 16 "TraitHouseModel" "rowMoment" "[I", Cond.fieldLink RX9 19 "TraitHouseModel" "rowKnown" "[I", Cond.fieldLink RX9 22 "TraitHouseModel" "rowValue" "[I", Cond.fieldLink RX9 25 "TraitHouseModel" "isGone" "[Z", Cond.fieldLink RX9 29 "TraitHouseModel" "mergeTo" "[I", Cond.fieldLink RX9 32 "TraitHouseModel" "mergeKnown" "[I", Cond.fieldLink RX9 35 "TraitHouseModel" "isErased" "[Z", Cond.arrayClass .byte, Cond.fieldLink RX9 38 "TraitHouseModel" "tape" "[B", Cond.fieldLink RX9 42 "TraitHouseModel" "fault" "I", Cond.fieldLink RX9 46 "TraitHouseModel" "five" "[I", Cond.fieldLink RX9 49 "TraitHouseModel" "size0" "[I", Cond.fieldLink RX9 52 "TraitHouseModel" "step" "[I", Cond.fieldLink RX9 55 "TraitHouseModel" "stepA" "[I", Cond.fieldLink RX9 58 "TraitHouseModel" "stepB" "[I", Cond.fieldLink RX9 61 "TraitHouseModel" "stepC" "[I", Cond.fieldLink RX9 64 "TraitHouseModel" "values" "[J", Cond.fieldLink RX9 68 "TraitHouseModel" "heap" "[J", Cond.fieldLink RX9 71 "TraitHouseModel" "isOne" "[Z", Cond.fieldLink RX9 74 "TraitHouseModel" "lawFrom" "[J", Cond.fieldLink RX9 77 "TraitHouseModel" "lawTo" "[J", Cond.fieldLink RX9 80 "TraitHouseModel" "hasLaw" "[Z", Cond.fieldLink RX9 83 "TraitHouseModel" "limits" "[I"]
def wsL_law_r6 : List Cond := [Cond.fieldLink RX9 86 "TraitHouseModel" "held" "[I", Cond.fieldLink RX9 89 "TraitHouseModel" "hasKept" "[Z", Cond.fieldLink RX9 92 "TraitHouseModel" "kept" "[J", Cond.fieldLink RX9 95 "TraitHouseModel" "keptAt" "[I", Cond.fieldLink RX9 98 "TraitHouseModel" "placeTrait" "[I", Cond.fieldLink RX9 101 "TraitHouseModel" "placePerson" "[I", Cond.fieldLink RX9 104 "TraitHouseModel" "placeMoment" "[I", Cond.fieldLink RX9 107 "TraitHouseModel" "placeValue" "[J", Cond.fieldLink RX9 110 "TraitHouseModel" "isFilled" "[Z", Cond.fieldLink RX9 113 "TraitHouseModel" "uses" "[I", Cond.fieldLink RX9 116 "TraitHouseModel" "heapsOne" "[I", Cond.fieldLink RX9 119 "TraitHouseModel" "heapsOther" "[I", Cond.methodLink RL 13 yX8_now, Cond.instanceMethod yX8_now, Cond.selects RX8 yX8_now yX8_now, Cond.code yX8_now cX8_now 2 (some .int), Cond.fieldLink RX8 83 "TraitHouse" "now" "I", Cond.methodLink RX8 79 yX8_isMoment, Cond.static yX8_isMoment, Cond.code yX8_isMoment cX8_isMoment 1 (some .boolean), Cond.constant RX8 117 (100000), Cond.methodLink RX8 86 yX8_settle, Cond.instanceMethod yX8_settle, Cond.selects RX8 yX8_settle yX8_settle]
def wsL_law_r7 : List Cond := [Cond.code yX8_settle cX8_settle 2 (some .int), Cond.methodLink RX8 292 Lib.Math.min.name, Cond.static Lib.Math.min.name, Cond.initialized "java/lang/Math", Cond.code Lib.Math.min.name Lib.Math.min.code 2 (some .int), Cond.fieldLink RX8 289 "TraitHouse" "latestRefusal" "I", Cond.methodLink RL 17 yX9_now, Cond.instanceMethod yX9_now, Cond.selects RX9 yX9_now yX9_now, Cond.code yX9_now cX9_now 2 (some .int), Cond.fieldLink RX9 133 "TraitHouseModel" "now" "I", Cond.constantLong RX9 125 (100000), Cond.methodLink RX9 127 yX9_in, Cond.static yX9_in, Cond.code yX9_in cX9_in 6 (some .boolean), Cond.methodLink RX9 136 yX9_ends, Cond.instanceMethod yX9_ends, Cond.selects RX9 yX9_ends yX9_ends, Cond.code yX9_ends cX9_ends 2 (some .int), Cond.fieldLink RX9 122 "TraitHouseModel" "status" "I", Cond.methodLink RL 18 yX8_row, Cond.instanceMethod yX8_row, Cond.selects RX8 yX8_row yX8_row, Cond.code yX8_row cX8_row 6 (some .int)]
def wsL_law_r8 : List Cond := [Cond.methodLink RX8 90 yX8_addRow, Cond.instanceMethod yX8_addRow, Cond.selects RX8 yX8_addRow yX8_addRow, Cond.code yX8_addRow cX8_addRow 6 (some .int), Cond.methodLink RX8 94 yX8_isStream, Cond.static yX8_isStream, Cond.code yX8_isStream cX8_isStream 1 (some .boolean), Cond.methodLink RX8 97 yX8_isRowValue, Cond.static yX8_isRowValue, Cond.code yX8_isRowValue cX8_isRowValue 1 (some .boolean), Cond.constant RX8 295 (-1000000), Cond.constant RX8 296 (1000000), Cond.methodLink RX8 100 yX8_isPerson, Cond.static yX8_isPerson, Cond.code yX8_isPerson cX8_isPerson 1 (some .boolean), Cond.instanceMethod yX3_isFull, Cond.selects RX3 yX3_isFull yX3_isFull, Cond.code yX3_isFull cX3_isFull 1 (some .boolean), Cond.fieldLink RX3 27 "TraitHouse$Rows" "size" "I", Cond.instanceMethod yX3_add, Cond.selects RX3 yX3_add yX3_add, Cond.code yX3_add cX3_add 6 (some .int), Cond.fieldLink RX3 35 "TraitHouse$Rows" "nextNumber" "I", Cond.methodLink RX3 31 yX3_isFull]
def wsL_law_r9 : List Cond := [Cond.methodLink RL 22 yX9_row, Cond.instanceMethod yX9_row, Cond.selects RX9 yX9_row yX9_row, Cond.code yX9_row cX9_row 6 (some .int), Cond.constantLong RX9 140 (5), Cond.constantLong RX9 146 (-1000000), Cond.constantLong RX9 148 (1000000), Cond.fieldLink RX9 153 "TraitHouseModel" "told" "I", Cond.methodLink RX9 142 yX9_isMoment, Cond.static yX9_isMoment, Cond.code yX9_isMoment cX9_isMoment 1 (some .boolean), Cond.methodLink RX9 150 yX9_isPerson, Cond.static yX9_isPerson, Cond.code yX9_isPerson cX9_isPerson 1 (some .boolean), Cond.constantLong RX9 131 (19), Cond.methodLink RL 23 yX8_merge, Cond.instanceMethod yX8_merge, Cond.selects RX8 yX8_merge yX8_merge, Cond.code yX8_merge cX8_merge 4 (some .int), Cond.methodLink RX8 110 yX8_addMerge, Cond.instanceMethod yX8_addMerge, Cond.selects RX8 yX8_addMerge yX8_addMerge, Cond.code yX8_addMerge cX8_addMerge 4 (some .int), Cond.instanceMethod yX0_isTold]
def wsL_law_r10 : List Cond := [Cond.selects RX0 yX0_isTold yX0_isTold, Cond.code yX0_isTold cX0_isTold 2 (some .boolean), Cond.instanceMethod yX0_lastOf, Cond.selects RX0 yX0_lastOf yX0_lastOf, Cond.code yX0_lastOf cX0_lastOf 5 (some .int), Cond.methodLink RX0 28 yX0_isTold, Cond.instanceMethod yX0_add, Cond.selects RX0 yX0_add yX0_add, Cond.code yX0_add cX0_add 4 (some .int), Cond.fieldLink RX0 24 "TraitHouse$Merges" "size" "I", Cond.methodLink RL 27 yX9_merge, Cond.instanceMethod yX9_merge, Cond.selects RX9 yX9_merge yX9_merge, Cond.code yX9_merge cX9_merge 4 (some .int), Cond.constant RX9 156 (100000), Cond.fieldLink RX9 161 "TraitHouseModel" "merges" "I", Cond.methodLink RX9 157 yX9_last, Cond.instanceMethod yX9_last, Cond.selects RX9 yX9_last yX9_last, Cond.code yX9_last cX9_last 4 (some .int), Cond.methodLink RL 28 yX8_leads, Cond.instanceMethod yX8_leads, Cond.selects RX8 yX8_leads yX8_leads, Cond.code yX8_leads cX8_leads 3 (some .int)]
def wsL_law_r11 : List Cond := [Cond.methodLink RL 32 yX9_leads, Cond.instanceMethod yX9_leads, Cond.selects RX9 yX9_leads yX9_leads, Cond.code yX9_leads cX9_leads 3 (some .int), Cond.methodLink RL 33 yX8_erase, Cond.instanceMethod yX8_erase, Cond.selects RX8 yX8_erase yX8_erase, Cond.code yX8_erase cX8_erase 2 (some .int), Cond.methodLink RX8 124 yX8_dropPerson, Cond.instanceMethod yX8_dropPerson, Cond.selects RX8 yX8_dropPerson yX8_dropPerson, Cond.code yX8_dropPerson cX8_dropPerson 4 (some .int), Cond.fieldLink RX8 127 "TraitHouse" "erasedPeople" "I", Cond.methodLink RX8 130 yX8_traitAt, Cond.instanceMethod yX8_traitAt, Cond.selects RX8 yX8_traitAt yX8_traitAt, Cond.code yX8_traitAt cX8_traitAt 2 (some (.object "TraitHouse$Trait")), Cond.fieldLink RX8 148 "TraitHouse" "traitsThere" "I", Cond.instanceMethod yX6_forget, Cond.initialized RX6, Cond.selects RX6 yX6_forget yX6_forget, Cond.code yX6_forget cX6_forget 2 none, Cond.constantLong RX6 42 (-9000000000000000000), Cond.methodLink RX6 53 yX6_keep]
def wsL_law_r12 : List Cond := [Cond.instanceMethod yX6_keep, Cond.selects RX6 yX6_keep yX6_keep, Cond.code yX6_keep cX6_keep 5 none, Cond.fieldLink RX6 9 "TraitHouse$Trait" "keptValues" "[J", Cond.fieldLink RX6 15 "TraitHouse$Trait" "keptMoments" "[I", Cond.instanceMethod yX1_forget, Cond.selects RX1 yX1_forget yX1_forget, Cond.code yX1_forget cX1_forget 3 none, Cond.fieldLink RX1 26 "TraitHouse$Places" "size" "I", Cond.constantLong RX1 34 (-9000000000000000000), Cond.instanceMethod yX3_drop, Cond.selects RX3 yX3_drop yX3_drop, Cond.code yX3_drop cX3_drop 4 (some .int), Cond.methodLink RX3 38 yX3_move, Cond.instanceMethod yX3_move, Cond.selects RX3 yX3_move yX3_move, Cond.code yX3_move cX3_move 3 none, Cond.methodLink RL 36 yX9_erase, Cond.instanceMethod yX9_erase, Cond.selects RX9 yX9_erase yX9_erase, Cond.code yX9_erase cX9_erase 4 (some .int), Cond.methodLink RL 37 yX8_feed, Cond.instanceMethod yX8_feed, Cond.selects RX8 yX8_feed yX8_feed]
def wsL_law_r13 : List Cond := [Cond.code yX8_feed cX8_feed 6 (some .int), Cond.instanceMethod yX5_append, Cond.selects RX5 yX5_append yX5_append, Cond.code yX5_append cX5_append 3 none, Cond.fieldLink RX5 15 "TraitHouse$Tape" "size" "I", Cond.methodLink RL 40 yX9_feed, Cond.instanceMethod yX9_feed, Cond.selects RX9 yX9_feed yX9_feed, Cond.code yX9_feed cX9_feed 8 (some .int), Cond.fieldLink RX9 164 "TraitHouseModel" "taped" "I", Cond.methodLink RL 41 yX8_end, Cond.instanceMethod yX8_end, Cond.selects RX8 yX8_end yX8_end, Cond.code yX8_end cX8_end 2 (some .int), Cond.methodLink RL 44 yX9_end, Cond.instanceMethod yX9_end, Cond.selects RX9 yX9_end yX9_end, Cond.code yX9_end cX9_end 2 (some .int), Cond.methodLink RL 45 yX8_trait, Cond.instanceMethod yX8_trait, Cond.selects RX8 yX8_trait yX8_trait, Cond.code yX8_trait cX8_trait 2 (some .int), Cond.methodLink RX8 151 yX8_readTrait, Cond.instanceMethod yX8_readTrait]
def wsL_law_r14 : List Cond := [Cond.selects RX8 yX8_readTrait yX8_readTrait, Cond.code yX8_readTrait cX8_readTrait 2 (some .int), Cond.instantiable RX6 8, Cond.instanceMethod yX2_read, Cond.selects RX2 yX2_read yX2_read, Cond.code yX2_read cX2_read 2 (some .int), Cond.fieldLink RX2 21 "TraitHouse$Reader" "size" "I", Cond.fieldLink RX2 25 "TraitHouse$Reader" "behind" "I", Cond.fieldLink RX2 28 "TraitHouse$Reader" "traitsThere" "I", Cond.fieldLink RX2 31 "TraitHouse$Reader" "fault" "I", Cond.fieldLink RX2 34 "TraitHouse$Reader" "reads" "I", Cond.fieldLink RX2 37 "TraitHouse$Reader" "leaks" "Z", Cond.fieldLink RX2 48 "TraitHouse$Reader" "place" "I", Cond.methodLink RX2 41 yX2_advance, Cond.instanceMethod yX2_advance, Cond.selects RX2 yX2_advance yX2_advance, Cond.code yX2_advance cX2_advance 3 none, Cond.methodLink RX2 150 Lib.Math.min.name, Cond.methodLink RX2 156 yX2_isLetterAt, Cond.instanceMethod yX2_isLetterAt, Cond.selects RX2 yX2_isLetterAt yX2_isLetterAt, Cond.code yX2_isLetterAt cX2_isLetterAt 2 (some .boolean), Cond.methodLink RX2 90 yX2_isDigitAt, Cond.instanceMethod yX2_isDigitAt]
def wsL_law_r15 : List Cond := [Cond.selects RX2 yX2_isDigitAt yX2_isDigitAt, Cond.code yX2_isDigitAt cX2_isDigitAt 2 (some .boolean), Cond.methodLink RX2 44 yX2_readSum, Cond.instanceMethod yX2_readSum, Cond.selects RX2 yX2_readSum yX2_readSum, Cond.code yX2_readSum cX2_readSum 5 (some .boolean), Cond.methodLink RX2 58 yX2_readTerm, Cond.instanceMethod yX2_readTerm, Cond.selects RX2 yX2_readTerm yX2_readTerm, Cond.methodLink RX2 63 yX2_isAt, Cond.instanceMethod yX2_isAt, Cond.selects RX2 yX2_isAt yX2_isAt, Cond.code yX2_isAt cX2_isAt 4 (some .boolean), Cond.methodLink RX2 141 yJ0_length_8abf5, Cond.instanceMethod yJ0_length_8abf5, Cond.selects RJ0 yJ0_length_8abf5 yJ0_length_8abf5, Cond.initialized RJ0, Cond.code yJ0_length_8abf5 cJ0_length_8abf5 1 (some .int), Cond.fieldLink RJ0 9 "java/lang/String" "value" "[B", Cond.methodLink RJ0 335 yJ0_coder_7d493, Cond.instanceMethod yJ0_coder_7d493, Cond.selects RJ0 yJ0_coder_7d493 yJ0_coder_7d493, Cond.code yJ0_coder_7d493 cJ0_coder_7d493 1 (some .byte), Cond.fieldLink RJ0 38 "java/lang/String" "COMPACT_STRINGS" "Z"]
def wsL_law_r16 : List Cond := [Cond.fieldLink RJ0 15 "java/lang/String" "coder" "B", Cond.methodLink RX2 146 yJ0_charAt_5068e, Cond.instanceMethod yJ0_charAt_5068e, Cond.selects RJ0 yJ0_charAt_5068e yJ0_charAt_5068e, Cond.code yJ0_charAt_5068e cJ0_charAt_5068e 2 (some .char), Cond.methodLink RJ0 492 yJ0_isLatin1_aae02, Cond.instanceMethod yJ0_isLatin1_aae02, Cond.selects RJ0 yJ0_isLatin1_aae02 yJ0_isLatin1_aae02, Cond.code yJ0_isLatin1_aae02 cJ0_isLatin1_aae02 1 (some .boolean), Cond.methodLink RJ0 495 yJ1_charAt_3b067, Cond.static yJ1_charAt_3b067, Cond.initialized RJ1, Cond.code yJ1_charAt_3b067 cJ1_charAt_3b067 2 (some .char), Cond.methodLink RJ1 9 yJ0_checkIndex_df160, Cond.static yJ0_checkIndex_df160, Cond.code yJ0_checkIndex_df160 cJ0_checkIndex_df160 2 none, Cond.fieldLink RJ0 1053 "jdk/internal/util/Preconditions" "SIOOBE_FORMATTER" "Ljava/util/function/BiFunction;", Cond.methodLink RJ0 1059 yJ3_checkIndex_8e157, Cond.static yJ3_checkIndex_8e157, Cond.initialized RJ3, Cond.code yJ3_checkIndex_8e157 cJ3_checkIndex_8e157 3 (some .int), Cond.methodLink RJ0 498 yJ2_charAt_3b067, Cond.static yJ2_charAt_3b067, Cond.initialized RJ2]
def wsL_law_r17 : List Cond := [Cond.code yJ2_charAt_3b067 cJ2_charAt_3b067 2 (some .char), Cond.methodLink RJ2 67 yJ2_checkIndex_2214a, Cond.static yJ2_checkIndex_2214a, Cond.code yJ2_checkIndex_2214a cJ2_checkIndex_2214a 2 none, Cond.methodLink RJ2 48 yJ2_length_9d52b, Cond.static yJ2_length_9d52b, Cond.code yJ2_length_9d52b cJ2_length_9d52b 1 (some .int), Cond.methodLink RJ2 414 yJ0_checkIndex_df160, Cond.methodLink RJ2 71 yJ2_getChar_3b067, Cond.static yJ2_getChar_3b067, Cond.code yJ2_getChar_3b067 cJ2_getChar_3b067 2 (some .char), Cond.fieldLink RJ2 44 "java/lang/StringUTF16" "$assertionsDisabled" "Z", Cond.fieldLink RJ2 59 "java/lang/StringUTF16" "HI_BYTE_SHIFT" "I", Cond.fieldLink RJ2 63 "java/lang/StringUTF16" "LO_BYTE_SHIFT" "I", Cond.methodLink RX2 69 yX2_emit, Cond.instanceMethod yX2_emit, Cond.selects RX2 yX2_emit yX2_emit, Cond.code yX2_emit cX2_emit 5 none, Cond.instantiable RX4 4, Cond.initialized RX4, Cond.instanceMethod yX4_init, Cond.code yX4_init cX4_init 5 none, Cond.methodLink RX4 1 objectInit, Cond.fieldLink RX4 7 "TraitHouse$Step" "kind" "I"]
def wsL_law_r18 : List Cond := [Cond.fieldLink RX4 13 "TraitHouse$Step" "number" "I", Cond.fieldLink RX4 16 "TraitHouse$Step" "from" "I", Cond.fieldLink RX4 19 "TraitHouse$Step" "to" "I", Cond.code yX2_readAtom cX2_readAtom 3 (some .boolean), Cond.constant RX2 85 (1000000), Cond.methodLink RX2 86 yX2_readNumbered, Cond.instanceMethod yX2_readNumbered, Cond.selects RX2 yX2_readNumbered yX2_readNumbered, Cond.code yX2_readNumbered cX2_readNumbered 4 (some .boolean), Cond.methodLink RX2 110 yX2_takeNumber, Cond.instanceMethod yX2_takeNumber, Cond.selects RX2 yX2_takeNumber yX2_takeNumber, Cond.code yX2_takeNumber cX2_takeNumber 4 (some .int), Cond.constant RX2 134 (1000001), Cond.methodLink RX2 54 yX2_stop, Cond.instanceMethod yX2_stop, Cond.selects RX2 yX2_stop yX2_stop, Cond.code yX2_stop cX2_stop 1 (some .boolean), Cond.methodLink RX2 95 yX2_readBracket, Cond.instanceMethod yX2_readBracket, Cond.selects RX2 yX2_readBracket yX2_readBracket, Cond.methodLink RX2 98 yX2_kindAt, Cond.instanceMethod yX2_kindAt, Cond.selects RX2 yX2_kindAt yX2_kindAt]
def wsL_law_r19 : List Cond := [Cond.code yX2_kindAt cX2_kindAt 1 (some .int), Cond.methodLink RX2 102 yX2_readWindow, Cond.instanceMethod yX2_readWindow, Cond.selects RX2 yX2_readWindow yX2_readWindow, Cond.code yX2_readWindow cX2_readWindow 5 (some .boolean), Cond.methodLink RX2 107 yX2_take, Cond.instanceMethod yX2_take, Cond.selects RX2 yX2_take yX2_take, Cond.code yX2_take cX2_take 2 (some .boolean), Cond.code yX2_readBracket cX2_readBracket 2 (some .boolean), Cond.code yX2_readPart cX2_readPart 2 (some .boolean), Cond.methodLink RX2 80 yX2_readAtom, Cond.instanceMethod yX2_readAtom, Cond.selects RX2 yX2_readAtom yX2_readAtom, Cond.code yX2_readTerm cX2_readTerm 5 (some .boolean), Cond.methodLink RX2 73 yX2_readPart, Cond.instanceMethod yX2_readPart, Cond.selects RX2 yX2_readPart yX2_readPart, Cond.instanceMethod yX2_stepsRead, Cond.selects RX2 yX2_stepsRead yX2_stepsRead, Cond.code yX2_stepsRead cX2_stepsRead 3 (some (.array (.object "TraitHouse$Step"))), Cond.methodLink RX8 169 yX8_needsOf, Cond.instanceMethod yX8_needsOf, Cond.selects RX8 yX8_needsOf yX8_needsOf]
def wsL_law_r20 : List Cond := [Cond.code yX8_needsOf cX8_needsOf 5 (some .int), Cond.methodLink RX8 256 yX8_hasBit, Cond.static yX8_hasBit, Cond.code yX8_hasBit cX8_hasBit 2 (some .boolean), Cond.instanceMethod yX6_init, Cond.code yX6_init cX6_init 3 none, Cond.methodLink RX6 3 objectInit, Cond.constantLong RX6 19 (-1000000000000), Cond.fieldLink RX6 21 "TraitHouse$Trait" "lawFrom" "J", Cond.constantLong RX6 25 (1000000000000), Cond.fieldLink RX6 27 "TraitHouse$Trait" "lawTo" "J", Cond.constant RX6 30 (100000), Cond.fieldLink RX6 31 "TraitHouse$Trait" "staleAbove" "I", Cond.fieldLink RX6 35 "TraitHouse$Trait" "steps" "[LTraitHouse$Step;", Cond.fieldLink RX6 39 "TraitHouse$Trait" "needs" "I", Cond.methodLink RX6 44 yJ7_fill_d0a16, Cond.static yJ7_fill_d0a16, Cond.code yJ7_fill_d0a16 cJ7_fill_d0a16 5 none, Cond.methodLink RX6 50 yJ7_fill_53178, Cond.methodLink RL 49 yX9_trait, Cond.instanceMethod yX9_trait, Cond.selects RX9 yX9_trait yX9_trait, Cond.code yX9_trait cX9_trait 1 (some .int), Cond.fieldLink RX9 167 "TraitHouseModel" "size" "I"]
def wsL_law_r21 : List Cond := [Cond.fieldLink RX9 197 "TraitHouseModel" "traits" "I", Cond.fieldLink RX9 170 "TraitHouseModel" "to" "I", Cond.fieldLink RX9 184 "TraitHouseModel" "readFault" "I", Cond.fieldLink RX9 200 "TraitHouseModel" "length" "I", Cond.fieldLink RX9 254 "TraitHouseModel" "open" "I", Cond.fieldLink RX9 266 "TraitHouseModel" "leaks" "Z", Cond.fieldLink RX9 173 "TraitHouseModel" "from" "I", Cond.methodLink RX9 194 yX9_next, Cond.instanceMethod yX9_next, Cond.selects RX9 yX9_next yX9_next, Cond.code yX9_next cX9_next 1 none, Cond.methodLink RX9 176 yX9_isIn, Cond.instanceMethod yX9_isIn, Cond.selects RX9 yX9_isIn yX9_isIn, Cond.code yX9_isIn cX9_isIn 4 (some .boolean), Cond.methodLink RX9 257 yX9_sum, Cond.instanceMethod yX9_sum, Cond.selects RX9 yX9_sum yX9_sum, Cond.code yX9_sum cX9_sum 2 none, Cond.methodLink RX9 203 yX9_term, Cond.instanceMethod yX9_term, Cond.selects RX9 yX9_term yX9_term, Cond.methodLink RX9 206 yX9_good, Cond.instanceMethod yX9_good]
def wsL_law_r22 : List Cond := [Cond.selects RX9 yX9_good yX9_good, Cond.code yX9_good cX9_good 1 (some .boolean), Cond.methodLink RX9 210 yX9_isSign, Cond.instanceMethod yX9_isSign, Cond.selects RX9 yX9_isSign yX9_isSign, Cond.code yX9_isSign cX9_isSign 2 (some .boolean), Cond.methodLink RX9 213 yX9_puts, Cond.instanceMethod yX9_puts, Cond.selects RX9 yX9_puts yX9_puts, Cond.code yX9_puts cX9_puts 6 none, Cond.code yX9_atom cX9_atom 3 none, Cond.constant RX9 229 (1000000), Cond.constantLong RX9 236 (21268052), Cond.constantLong RX9 238 (674860), Cond.constantLong RX9 240 (5345), Cond.constantLong RX9 242 (21452259), Cond.constantLong RX9 244 (14003), Cond.constantLong RX9 246 (21595308), Cond.constantLong RX9 248 (675309), Cond.methodLink RX9 230 yX9_number, Cond.instanceMethod yX9_number, Cond.selects RX9 yX9_number yX9_number, Cond.code yX9_number cX9_number 5 (some .int), Cond.constantLong RX9 190 (10)]
def wsL_law_r23 : List Cond := [Cond.constantLong RX9 192 (48), Cond.methodLink RX9 187 yX9_faults, Cond.instanceMethod yX9_faults, Cond.selects RX9 yX9_faults yX9_faults, Cond.code yX9_faults cX9_faults 1 none, Cond.methodLink RX9 233 yX9_bracket, Cond.instanceMethod yX9_bracket, Cond.selects RX9 yX9_bracket yX9_bracket, Cond.methodLink RX9 225 yX9_isWord, Cond.instanceMethod yX9_isWord, Cond.selects RX9 yX9_isWord yX9_isWord, Cond.code yX9_isWord cX9_isWord 6 (some .boolean), Cond.constantLong RX9 180 (96), Cond.constantLong RX9 182 (31), Cond.methodLink RX9 250 yX9_window, Cond.instanceMethod yX9_window, Cond.selects RX9 yX9_window yX9_window, Cond.code yX9_window cX9_window 6 none, Cond.constantLong RX9 260 (441926), Cond.constantLong RX9 262 (500), Cond.constantLong RX9 264 (4232449), Cond.code yX9_bracket cX9_bracket 1 none, Cond.code yX9_part cX9_part 2 none, Cond.constantLong RX9 223 (183685)]
def wsL_law_r24 : List Cond := [Cond.methodLink RX9 220 yX9_atom, Cond.instanceMethod yX9_atom, Cond.selects RX9 yX9_atom yX9_atom, Cond.code yX9_term cX9_term 2 none, Cond.methodLink RX9 217 yX9_part, Cond.instanceMethod yX9_part, Cond.selects RX9 yX9_part yX9_part, Cond.methodLink RL 50 yX8_fault, Cond.instanceMethod yX8_fault, Cond.selects RX8 yX8_fault yX8_fault, Cond.code yX8_fault cX8_fault 1 (some .int), Cond.methodLink RL 53 yX9_fault, Cond.instanceMethod yX9_fault, Cond.selects RX9 yX9_fault yX9_fault, Cond.code yX9_fault cX9_fault 1 (some .int), Cond.methodLink RL 54 yX8_value, Cond.instanceMethod yX8_value, Cond.selects RX8 yX8_value yX8_value, Cond.code yX8_value cX8_value 5 (some .long), Cond.constantLong RX8 175 (-9000000000000000000), Cond.instanceMethod yX7_make, Cond.selects RX7 yX7_make yX7_make, Cond.code yX7_make cX7_make 7 (some .long), Cond.constantLong RX7 38 (-9000000000000000000)]
def wsL_law_r25 : List Cond := [Cond.methodLink RX7 46 yX7_look, Cond.instanceMethod yX7_look, Cond.selects RX7 yX7_look yX7_look, Cond.code yX7_look cX7_look 6 none, Cond.fieldLink RX7 68 "TraitHouse$Worker" "moment" "I", Cond.fieldLink RX7 71 "TraitHouse$Worker" "seenRows" "I", Cond.methodLink RX7 58 yX7_workOut, Cond.instanceMethod yX7_workOut, Cond.selects RX7 yX7_workOut yX7_workOut, Cond.code yX7_workOut cX7_workOut 3 (some .long), Cond.fieldLink RX7 88 "TraitHouse$Worker" "top" "I", Cond.methodLink RX7 91 yX7_perform, Cond.instanceMethod yX7_perform, Cond.selects RX7 yX7_perform yX7_perform, Cond.code yX7_perform cX7_perform 6 none, Cond.methodLink RX7 107 yX7_push, Cond.instanceMethod yX7_push, Cond.selects RX7 yX7_push yX7_push, Cond.code yX7_push cX7_push 3 none, Cond.methodLink RX7 153 Lib.MathLoose.abs_long.x, Cond.static Lib.MathLoose.abs_long.x, Cond.code Lib.MathLoose.abs_long.x Lib.MathLoose.abs_long.code 2 (some .long), Cond.constantLong RX7 157 (1000000000000), Cond.methodLink RX7 111 yX7_latest]
def wsL_law_r26 : List Cond := [Cond.instanceMethod yX7_latest, Cond.selects RX7 yX7_latest yX7_latest, Cond.code yX7_latest cX7_latest 5 (some .long), Cond.methodLink RX7 115 yX7_window, Cond.instanceMethod yX7_window, Cond.selects RX7 yX7_window yX7_window, Cond.code yX7_window cX7_window 11 (some .long), Cond.constantLong RX7 127 (1000000), Cond.constantLong RX7 129 (-1000000), Cond.methodLink RX7 135 Lib.MathLoose.min_long.x, Cond.static Lib.MathLoose.min_long.x, Cond.code Lib.MathLoose.min_long.x Lib.MathLoose.min_long.code 4 (some .long), Cond.methodLink RX7 141 Lib.MathLoose.max_long.x, Cond.static Lib.MathLoose.max_long.x, Cond.code Lib.MathLoose.max_long.x Lib.MathLoose.max_long.code 4 (some .long), Cond.methodLink RX7 131 yX7_isWithin, Cond.instanceMethod yX7_isWithin, Cond.selects RX7 yX7_isWithin yX7_isWithin, Cond.code yX7_isWithin cX7_isWithin 3 (some .boolean), Cond.methodLink RX7 95 yX7_pop, Cond.instanceMethod yX7_pop, Cond.selects RX7 yX7_pop yX7_pop, Cond.code yX7_pop cX7_pop 1 (some .long), Cond.methodLink RX7 118 yX7_join]
def wsL_law_r27 : List Cond := [Cond.static yX7_join, Cond.code yX7_join cX7_join 5 (some .long), Cond.methodLink RX7 150 yX7_times, Cond.static yX7_times, Cond.code yX7_times cX7_times 4 (some .long), Cond.methodLink RL 58 yX9_value, Cond.instanceMethod yX9_value, Cond.selects RX9 yX9_value yX9_value, Cond.code yX9_value cX9_value 5 (some .long), Cond.constantLong RX9 274 (-9000000000000000000), Cond.methodLink RX9 297 yX9_isTrait, Cond.instanceMethod yX9_isTrait, Cond.selects RX9 yX9_isTrait yX9_isTrait, Cond.code yX9_isTrait cX9_isTrait 2 (some .boolean), Cond.methodLink RX9 300 yX9_valueOf, Cond.instanceMethod yX9_valueOf, Cond.selects RX9 yX9_valueOf yX9_valueOf, Cond.code yX9_valueOf cX9_valueOf 6 (some .long), Cond.methodLink RX9 293 yX9_works, Cond.instanceMethod yX9_works, Cond.selects RX9 yX9_works yX9_works, Cond.code yX9_works cX9_works 8 (some .long), Cond.methodLink RX9 281 yX9_two, Cond.static yX9_two]
def wsL_law_r28 : List Cond := [Cond.code yX9_two cX9_two 7 (some .long), Cond.constantLong RX9 279 (1000000000000), Cond.methodLink RX9 276 yX9_size, Cond.static yX9_size, Cond.code yX9_size cX9_size 2 (some .long), Cond.methodLink RX9 285 yX9_latest, Cond.instanceMethod yX9_latest, Cond.selects RX9 yX9_latest yX9_latest, Cond.code yX9_latest cX9_latest 7 (some .long), Cond.methodLink RX9 270 yX9_counts, Cond.instanceMethod yX9_counts, Cond.selects RX9 yX9_counts yX9_counts, Cond.code yX9_counts cX9_counts 5 (some .boolean), Cond.methodLink RX9 289 yX9_windowed, Cond.instanceMethod yX9_windowed, Cond.selects RX9 yX9_windowed yX9_windowed, Cond.code yX9_windowed cX9_windowed 12 (some .long), Cond.methodLink RL 61 yX8_law, Cond.instanceMethod yX8_law, Cond.selects RX8 yX8_law yX8_law, Cond.code yX8_law cX8_law 7 (some .int), Cond.methodLink RL 65 yX9_law, Cond.instanceMethod yX9_law, Cond.selects RX9 yX9_law yX9_law]
def wsL_law_r29 : List Cond := [Cond.code yX9_law cX9_law 6 (some .int), Cond.methodLink RL 66 yX8_limit, Cond.instanceMethod yX8_limit, Cond.selects RX8 yX8_limit yX8_limit, Cond.code yX8_limit cX8_limit 5 (some .int), Cond.methodLink RL 69 yX9_limit, Cond.instanceMethod yX9_limit, Cond.selects RX9 yX9_limit yX9_limit, Cond.code yX9_limit cX9_limit 4 (some .int), Cond.methodLink RL 70 yX8_freshen, Cond.instanceMethod yX8_freshen, Cond.selects RX8 yX8_freshen yX8_freshen, Cond.code yX8_freshen cX8_freshen 5 (some .int), Cond.methodLink RX8 194 yX8_keepFresh, Cond.instanceMethod yX8_keepFresh, Cond.selects RX8 yX8_keepFresh yX8_keepFresh, Cond.code yX8_keepFresh cX8_keepFresh 6 none, Cond.instanceMethod yX6_isOutside, Cond.selects RX6 yX6_isOutside yX6_isOutside, Cond.code yX6_isOutside cX6_isOutside 3 (some .boolean), Cond.instanceMethod yX1_put, Cond.selects RX1 yX1_put yX1_put, Cond.code yX1_put cX1_put 7 none, Cond.methodLink RX1 30 yX1_owner]
def wsL_law_r30 : List Cond := [Cond.static yX1_owner, Cond.code yX1_owner cX1_owner 2 (some .int), Cond.methodLink RL 73 yX9_freshen, Cond.instanceMethod yX9_freshen, Cond.selects RX9 yX9_freshen yX9_freshen, Cond.code yX9_freshen cX9_freshen 6 (some .int), Cond.fieldLink RX9 304 "TraitHouseModel" "places" "I", Cond.methodLink RX9 307 yX9_lays, Cond.instanceMethod yX9_lays, Cond.selects RX9 yX9_lays yX9_lays, Cond.code yX9_lays cX9_lays 7 none, Cond.methodLink RL 74 yX8_kept, Cond.instanceMethod yX8_kept, Cond.selects RX8 yX8_kept yX8_kept, Cond.code yX8_kept cX8_kept 4 (some .long), Cond.methodLink RL 78 yX9_kept, Cond.instanceMethod yX9_kept, Cond.selects RX9 yX9_kept yX9_kept, Cond.code yX9_kept cX9_kept 3 (some .long), Cond.methodLink RX9 311 yX9_isKept, Cond.instanceMethod yX9_isKept, Cond.selects RX9 yX9_isKept yX9_isKept, Cond.code yX9_isKept cX9_isKept 3 (some .boolean), Cond.methodLink RL 79 yX8_age]
def wsL_law_r31 : List Cond := [Cond.instanceMethod yX8_age, Cond.selects RX8 yX8_age yX8_age, Cond.code yX8_age cX8_age 5 (some .int), Cond.instanceMethod yX6_isKept, Cond.selects RX6 yX6_isKept yX6_isKept, Cond.code yX6_isKept cX6_isKept 2 (some .boolean), Cond.instanceMethod yX6_isStale, Cond.selects RX6 yX6_isStale yX6_isStale, Cond.code yX6_isStale cX6_isStale 3 (some .boolean), Cond.methodLink RL 82 yX9_age, Cond.instanceMethod yX9_age, Cond.selects RX9 yX9_age yX9_age, Cond.code yX9_age cX9_age 5 (some .int), Cond.methodLink RL 83 yX8_held, Cond.instanceMethod yX8_held, Cond.selects RX8 yX8_held yX8_held, Cond.code yX8_held cX8_held 3 (some .int), Cond.methodLink RL 86 yX9_held, Cond.instanceMethod yX9_held, Cond.selects RX9 yX9_held yX9_held, Cond.code yX9_held cX9_held 2 (some .int), Cond.methodLink RL 87 yX8_fill, Cond.instanceMethod yX8_fill, Cond.selects RX8 yX8_fill yX8_fill]
def wsL_law_r32 : List Cond := [Cond.code yX8_fill cX8_fill 8 (some .int), Cond.methodLink RX8 224 yX8_placesToFill, Cond.instanceMethod yX8_placesToFill, Cond.selects RX8 yX8_placesToFill yX8_placesToFill, Cond.code yX8_placesToFill cX8_placesToFill 7 (some .int), Cond.instanceMethod yX1_free, Cond.selects RX1 yX1_free yX1_free, Cond.code yX1_free cX1_free 1 (some .int), Cond.methodLink RX8 228 yX8_fillMoment, Cond.instanceMethod yX8_fillMoment, Cond.selects RX8 yX8_fillMoment yX8_fillMoment, Cond.code yX8_fillMoment cX8_fillMoment 4 none, Cond.methodLink RL 91 yX9_fill, Cond.instanceMethod yX9_fill, Cond.selects RX9 yX9_fill yX9_fill, Cond.code yX9_fill cX9_fill 8 (some .int), Cond.methodLink RX9 315 yX9_living, Cond.instanceMethod yX9_living, Cond.selects RX9 yX9_living yX9_living, Cond.code yX9_living cX9_living 3 (some .int), Cond.methodLink RL 92 yX8_history, Cond.instanceMethod yX8_history, Cond.selects RX8 yX8_history yX8_history, Cond.code yX8_history cX8_history 5 (some .long)]
def wsL_law_r33 : List Cond := [Cond.methodLink RX8 235 yX8_placeOf, Cond.instanceMethod yX8_placeOf, Cond.selects RX8 yX8_placeOf yX8_placeOf, Cond.code yX8_placeOf cX8_placeOf 4 (some .int), Cond.instanceMethod yX1_find, Cond.selects RX1 yX1_find yX1_find, Cond.code yX1_find cX1_find 7 (some .int), Cond.methodLink RL 96 yX9_history, Cond.instanceMethod yX9_history, Cond.selects RX9 yX9_history yX9_history, Cond.code yX9_history cX9_history 5 (some .long), Cond.methodLink RX9 319 yX9_found, Cond.instanceMethod yX9_found, Cond.selects RX9 yX9_found yX9_found, Cond.code yX9_found cX9_found 6 (some .int), Cond.methodLink RL 97 yX8_told, Cond.instanceMethod yX8_told, Cond.selects RX8 yX8_told yX8_told, Cond.code yX8_told cX8_told 6 (some .int), Cond.methodLink RL 100 yX9_told, Cond.instanceMethod yX9_told, Cond.selects RX9 yX9_told yX9_told, Cond.code yX9_told cX9_told 6 (some .int), Cond.methodLink RL 101 yX8_model]
def wsL_law_r34 : List Cond := [Cond.instanceMethod yX8_model, Cond.selects RX8 yX8_model yX8_model, Cond.code yX8_model cX8_model 2 (some .int), Cond.fieldLink RX8 250 "TraitHouse" "modelsThere" "I", Cond.methodLink RL 104 yX9_model, Cond.instanceMethod yX9_model, Cond.selects RX9 yX9_model yX9_model, Cond.code yX9_model cX9_model 2 (some .int), Cond.fieldLink RX9 323 "TraitHouseModel" "models" "I", Cond.methodLink RL 105 yX8_needed, Cond.instanceMethod yX8_needed, Cond.selects RX8 yX8_needed yX8_needed, Cond.code yX8_needed cX8_needed 2 (some .int), Cond.methodLink RX8 253 yX8_isModel, Cond.instanceMethod yX8_isModel, Cond.selects RX8 yX8_isModel yX8_isModel, Cond.code yX8_isModel cX8_isModel 2 (some .boolean), Cond.methodLink RL 108 yX9_needed, Cond.instanceMethod yX9_needed, Cond.selects RX9 yX9_needed yX9_needed, Cond.code yX9_needed cX9_needed 2 (some .int), Cond.methodLink RX9 326 yX9_neededOf, Cond.instanceMethod yX9_neededOf, Cond.selects RX9 yX9_neededOf yX9_neededOf]
def wsL_law_r35 : List Cond := [Cond.code yX9_neededOf cX9_neededOf 5 (some .int), Cond.methodLink RL 109 yX8_hung, Cond.instanceMethod yX8_hung, Cond.selects RX8 yX8_hung yX8_hung, Cond.code yX8_hung cX8_hung 4 (some .int), Cond.methodLink RL 112 yX9_hung, Cond.instanceMethod yX9_hung, Cond.selects RX9 yX9_hung yX9_hung, Cond.code yX9_hung cX9_hung 4 (some .int), Cond.methodLink RL 113 yX8_misses, Cond.instanceMethod yX8_misses, Cond.selects RX8 yX8_misses yX8_misses, Cond.code yX8_misses cX8_misses 6 (some .int), Cond.instanceMethod yX6_isMissing, Cond.selects RX6 yX6_isMissing yX6_isMissing, Cond.code yX6_isMissing cX6_isMissing 3 (some .boolean), Cond.methodLink RX6 57 yX6_isKept, Cond.methodLink RX6 61 yX6_isStale, Cond.methodLink RL 116 yX9_misses, Cond.instanceMethod yX9_misses, Cond.selects RX9 yX9_misses yX9_misses, Cond.code yX9_misses cX9_misses 5 (some .int), Cond.methodLink RX9 329 yX9_kept, Cond.methodLink RX9 332 yX9_age]
def wsL_law_r36 : List Cond := [Cond.methodLink RL 117 yX8_shift, Cond.instanceMethod yX8_shift, Cond.selects RX8 yX8_shift yX8_shift, Cond.code yX8_shift cX8_shift 16 (some .long), Cond.constantLong RX8 262 (-1), Cond.constantLong RX8 264 (-2), Cond.constantLong RX8 270 (-6), Cond.methodLink RX8 272 Lib.Math.max.name, Cond.static Lib.Math.max.name, Cond.code Lib.Math.max.name Lib.Math.max.code 2 (some .int), Cond.methodLink RX8 266 yX8_heapUp, Cond.instanceMethod yX8_heapUp, Cond.selects RX8 yX8_heapUp yX8_heapUp, Cond.code yX8_heapUp cX8_heapUp 15 (some .int), Cond.methodLink RX8 280 yJ7_fill_53178, Cond.methodLink RX8 277 yX8_commonDivisor, Cond.static yX8_commonDivisor, Cond.code yX8_commonDivisor cX8_commonDivisor 6 (some .int), Cond.methodLink RL 121 yX9_shift, Cond.instanceMethod yX9_shift, Cond.selects RX9 yX9_shift yX9_shift, Cond.code yX9_shift cX9_shift 17 (some .long), Cond.constantLong RX9 335 (-1), Cond.constantLong RX9 337 (-2)]
def wsL_law_r37 : List Cond := [Cond.constantLong RX9 343 (-6), Cond.methodLink RX9 339 yX9_heaps, Cond.instanceMethod yX9_heaps, Cond.selects RX9 yX9_heaps yX9_heaps, Cond.code yX9_heaps cX9_heaps 14 (some .int), Cond.methodLink RL 122 yX8_count, Cond.instanceMethod yX8_count, Cond.selects RX8 yX8_count yX8_count, Cond.code yX8_count cX8_count 2 (some .int), Cond.methodLink RL 125 yX9_count, Cond.instanceMethod yX9_count, Cond.selects RX9 yX9_count yX9_count, Cond.code yX9_count cX9_count 4 (some .int), Cond.methodLink RL 126 yX8_status, Cond.instanceMethod yX8_status, Cond.selects RX8 yX8_status yX8_status, Cond.code yX8_status cX8_status 1 (some .int), Cond.methodLink RL 129 yX9_status, Cond.instanceMethod yX9_status, Cond.selects RX9 yX9_status yX9_status, Cond.code yX9_status cX9_status 1 (some .int)]
def wsL_law : List Cond := (wsL_law_r1 ++ (wsL_law_r2 ++ (wsL_law_r3 ++ (wsL_law_r4 ++ (wsL_law_r5 ++ (wsL_law_r6 ++ (wsL_law_r7 ++ (wsL_law_r8 ++ (wsL_law_r9 ++ (wsL_law_r10 ++ (wsL_law_r11 ++ (wsL_law_r12 ++ (wsL_law_r13 ++ (wsL_law_r14 ++ (wsL_law_r15 ++ (wsL_law_r16 ++ (wsL_law_r17 ++ (wsL_law_r18 ++ (wsL_law_r19 ++ (wsL_law_r20 ++ (wsL_law_r21 ++ (wsL_law_r22 ++ (wsL_law_r23 ++ (wsL_law_r24 ++ (wsL_law_r25 ++ (wsL_law_r26 ++ (wsL_law_r27 ++ (wsL_law_r28 ++ (wsL_law_r29 ++ (wsL_law_r30 ++ (wsL_law_r31 ++ (wsL_law_r32 ++ (wsL_law_r33 ++ (wsL_law_r34 ++ (wsL_law_r35 ++ (wsL_law_r36 ++ wsL_law_r37)))))))))))))))))))))))))))))))))))) ++ wsX80 ++ wsX90 ++ wsX30 ++ wsX00 ++ wsX50 ++ wsX20 ++ wsX70 ++ wsX10 ++ wsX60 ++ wsX40 ++ ([] : List Cond)
abbrev vwCl : List vw_C := [(RX0, TX0, 3), (RX1, TX1, 5), (RX2, TX2, 9), (RX3, TX3, 7), (RX4, TX4, 4), (RX5, TX5, 2), (RX6, TX6, 8), (RX7, TX7, 10), (RX8, TX8, 17), (RX9, TX9, 51)]
end
section
/-! facts of numbers, in Int -/
theorem jI_lt {a b : Int32} {x y : Int} (h : a < b) (ha : a.toInt = x) (hb : b.toInt = y) : x < y := by rw [← ha, ← hb]; exact Int32.lt_iff_toInt_lt.mp h
theorem jI_le {a b : Int32} {x y : Int} (h : a ≤ b) (ha : a.toInt = x) (hb : b.toInt = y) : x ≤ y := by rw [← ha, ← hb]; exact Int32.le_iff_toInt_le.mp h
theorem jI_nlt {a b : Int32} {x y : Int} (h : ¬ a < b) (ha : a.toInt = x) (hb : b.toInt = y) : y ≤ x := by
  rw [← ha, ← hb]
  have h2 : ¬ a.toInt < b.toInt := fun q => h (Int32.lt_iff_toInt_lt.mpr q)
  omega
theorem jI_nle {a b : Int32} {x y : Int} (h : ¬ a ≤ b) (ha : a.toInt = x) (hb : b.toInt = y) : y < x := by
  rw [← ha, ← hb]
  have h2 : ¬ a.toInt ≤ b.toInt := fun q => h (Int32.le_iff_toInt_le.mpr q)
  omega
theorem jI_eq {a b : Int32} {x y : Int} (h : a = b) (ha : a.toInt = x) (hb : b.toInt = y) : x = y := by rw [← ha, ← hb, h]
theorem jI_ne {a b : Int32} {x y : Int} (h : ¬ a = b) (ha : a.toInt = x) (hb : b.toInt = y) : ¬ x = y := by
  rw [← ha, ← hb]
  exact fun q => h (Int32.toInt_inj.mp q)
theorem jI_nne {a b : Int32} {x y : Int} (h : ¬ ¬ a = b) (ha : a.toInt = x) (hb : b.toInt = y) : x = y := jI_eq (Classical.not_not.mp h) ha hb
theorem jI_bmod {z : Int} (h1 : -2147483648 ≤ z) (h2 : z < 2147483648) : z.bmod (2 ^ 32) = z := by
  rw [Int.bmod_eq_of_le (by omega) (by omega)]
theorem jI_add {a b : Int32} {x y : Int} (ha : a.toInt = x) (hb : b.toInt = y) (h1 : -2147483648 ≤ x + y) (h2 : x + y < 2147483648) : (a + b).toInt = x + y := by rw [Int32.toInt_add, ha, hb, jI_bmod h1 h2]
theorem jI_sub {a b : Int32} {x y : Int} (ha : a.toInt = x) (hb : b.toInt = y) (h1 : -2147483648 ≤ x - y) (h2 : x - y < 2147483648) : (a - b).toInt = x - y := by rw [Int32.toInt_sub, ha, hb, jI_bmod h1 h2]
theorem jI_mul {a b : Int32} {x y : Int} (ha : a.toInt = x) (hb : b.toInt = y) (h1 : -2147483648 ≤ x * y) (h2 : x * y < 2147483648) : (a * b).toInt = x * y := by rw [Int32.toInt_mul, ha, hb, jI_bmod h1 h2]
theorem jI_min {v a b : Int32} {x y : Int} (e : v = if b < a then b else a) (ha : a.toInt = x) (hb : b.toInt = y) : v.toInt = min x y := by
  rw [e, ← ha, ← hb]
  split
  · next h => have := Int32.lt_iff_toInt_lt.mp h; omega
  · next h =>
    have : ¬ b.toInt < a.toInt := fun q => h (Int32.lt_iff_toInt_lt.mpr q)
    omega
theorem jI_max {v a b : Int32} {x y : Int} (e : v = if a < b then b else a) (ha : a.toInt = x) (hb : b.toInt = y) : v.toInt = max x y := by
  rw [e, ← ha, ← hb]
  split
  · next h => have := Int32.lt_iff_toInt_lt.mp h; omega
  · next h =>
    have : ¬ a.toInt < b.toInt := fun q => h (Int32.lt_iff_toInt_lt.mpr q)
    omega
theorem jI_cmp {k : Int32} {a b : Int64} {x y : Int} (e : k = lg_cmp a b) (ha : a.toInt = x) (hb : b.toInt = y) : (k.toInt < 0 ↔ x < y) ∧ (k.toInt = 0 ↔ x = y) ∧ (0 < k.toInt ↔ y < x) := by
  have h1 := lg_cmp_lt a b
  have h2 := lg_cmp_eq a b
  have h3 := lg_cmp_gt a b
  rw [← e] at h1 h2 h3
  rw [Int32.lt_iff_toInt_lt, Int64.lt_iff_toInt_lt, ha, hb] at h1 h3
  rw [← Int32.toInt_inj, ← Int64.toInt_inj, ha, hb] at h2
  have z : (0 : Int32).toInt = 0 := by decide
  rw [z] at h1 h2 h3
  exact ⟨h1, h2, h3⟩
theorem jI_0div (b : Int32) : (0 : Int32) / b = 0 := Int32.zero_div
theorem jI_ne0 {x : Int32} (h : x.toInt ≠ 0) : ¬ x = 0 := fun q => h (by rw [q]; decide)
theorem jI_div {a b : Int32} {x y : Int} (ha : a.toInt = x) (hb : b.toInt = y) (h1 : 0 ≤ x) (h2 : 0 < y) : (a / b).toInt = x / y := by
  have h3 : x < 2147483648 := by rw [← ha]; exact Int32.toInt_lt a
  have h4 : 0 ≤ x / y := Int.ediv_nonneg h1 (by omega)
  have h5 : x / y ≤ x := Int.ediv_le_self y h1
  rw [Int32.toInt_div, ha, hb, Int.tdiv_eq_ediv_of_nonneg h1]
  exact jI_bmod (by omega) (by omega)
theorem jnarZ {r : Int32} (h : r.toInt = 0 ∨ r.toInt = 1) : narrow .boolean (.int r) = .int r := by
  rcases h with h | h
  · obtain rfl : r = 0 := Int32.toInt_inj.mp (h.trans (by decide))
    decide
  · obtain rfl : r = 1 := Int32.toInt_inj.mp (h.trans (by decide))
    decide
theorem jI_ushr0 (a : Int32) : (a.toUInt32 >>> ((0 : Int32).toUInt32 &&& Int32.toUInt32 31)).toInt32 = a := by
  have h : ((0 : Int32).toUInt32 &&& Int32.toUInt32 31) = 0 := by decide
  rw [h]
  simp
theorem jI_range (x : Int32) (lo hi : Int) : (x.toInt < lo ∨ hi < x.toInt) ∨ (lo ≤ x.toInt ∧ x.toInt ≤ hi) := by omega
theorem jix {i : Int32} {n : Nat} (h : vp_in i n) : i.toNatClampNeg < n := Nat.not_le.mp fun q => h (Or.inr q)
/-! links between nest mates: they ride beside the words -/
def nw_all : List Cond := [.fieldLinkNest "TraitHouse$Worker" 79 "TraitHouse$Rows" "people" "[I" "TraitHouse", .fieldLinkNest "TraitHouse$Worker" 122 "TraitHouse$Rows" "streams" "[I" "TraitHouse", .fieldLinkNest "TraitHouse$Worker" 82 "TraitHouse$Rows" "moments" "[I" "TraitHouse", .fieldLinkNest "TraitHouse$Worker" 85 "TraitHouse$Rows" "knowns" "[I" "TraitHouse", .fieldLinkNest "TraitHouse$Worker" 125 "TraitHouse$Rows" "values" "[I" "TraitHouse", .fieldLinkNest "TraitHouse$Worker" 74 "TraitHouse$Rows" "size" "I" "TraitHouse", .fieldLinkNest "TraitHouse" 286 "TraitHouse$Rows" "size" "I" "TraitHouse", .fieldLinkNest "TraitHouse" 287 "TraitHouse$Merges" "size" "I" "TraitHouse", .fieldLinkNest "TraitHouse$Reader" 135 "TraitHouse$Tape" "bytes" "[I" "TraitHouse", .fieldLinkNest "TraitHouse$Reader" 51 "TraitHouse$Tape" "size" "I" "TraitHouse", .fieldLinkNest "TraitHouse" 142 "TraitHouse$Tape" "size" "I" "TraitHouse", .fieldLinkNest "TraitHouse" 166 "TraitHouse$Reader" "reads" "I" "TraitHouse", .fieldLinkNest "TraitHouse" 158 "TraitHouse$Reader" "leaks" "Z" "TraitHouse", .fieldLinkNest "TraitHouse" 241 "TraitHouse$Places" "moments" "[I" "TraitHouse", .fieldLinkNest "TraitHouse" 244 "TraitHouse$Places" "filled" "[Z" "TraitHouse", .fieldLinkNest "TraitHouse" 238 "TraitHouse$Places" "values" "[J" "TraitHouse", .fieldLinkNest "TraitHouse" 288 "TraitHouse$Places" "size" "I" "TraitHouse", .fieldLinkNest "TraitHouse$Worker" 99 "TraitHouse$Step" "kind" "I" "TraitHouse", .fieldLinkNest "TraitHouse$Worker" 104 "TraitHouse$Step" "number" "I" "TraitHouse", .fieldLinkNest "TraitHouse$Worker" 144 "TraitHouse$Step" "from" "I" "TraitHouse", .fieldLinkNest "TraitHouse$Worker" 147 "TraitHouse$Step" "to" "I" "TraitHouse", .fieldLinkNest "TraitHouse$Worker" 54 "TraitHouse$Trait" "steps" "[LTraitHouse$Step;" "TraitHouse", .fieldLinkNest "TraitHouse$Worker" 40 "TraitHouse$Trait" "needs" "I" "TraitHouse", .fieldLinkNest "TraitHouse" 297 "TraitHouse$Trait" "needs" "I" "TraitHouse", .fieldLinkNest "TraitHouse" 210 "TraitHouse$Trait" "keptValues" "[J" "TraitHouse", .fieldLinkNest "TraitHouse" 217 "TraitHouse$Trait" "keptMoments" "[I" "TraitHouse", .fieldLinkNest "TraitHouse" 181 "TraitHouse$Trait" "lawFrom" "J" "TraitHouse", .fieldLinkNest "TraitHouse" 185 "TraitHouse$Trait" "lawTo" "J" "TraitHouse", .fieldLinkNest "TraitHouse" 188 "TraitHouse$Trait" "staleAbove" "I" "TraitHouse", .fieldLinkNest "TraitHouse" 191 "TraitHouse$Trait" "heldInAll" "I" "TraitHouse", .methodLinkNest "TraitHouse" 9 ⟨"TraitHouse$Rows", "<init>", "()V"⟩ "TraitHouse", .methodLinkNest "TraitHouse" 18 ⟨"TraitHouse$Merges", "<init>", "()V"⟩ "TraitHouse", .methodLinkNest "TraitHouse" 29 ⟨"TraitHouse$Tape", "<init>", "()V"⟩ "TraitHouse", .methodLinkNest "TraitHouse" 36 ⟨"TraitHouse$Reader", "<init>", "(LTraitHouse$Tape;)V"⟩ "TraitHouse", .methodLinkNest "TraitHouse" 51 ⟨"TraitHouse$Worker", "<init>", "(LTraitHouse$Rows;LTraitHouse$Merges;[LTraitHouse$Trait;)V"⟩ "TraitHouse", .methodLinkNest "TraitHouse" 60 ⟨"TraitHouse$Places", "<init>", "()V"⟩ "TraitHouse", .methodLinkNest "TraitHouse" 103 ⟨"TraitHouse$Rows", "isFull", "()Z"⟩ "TraitHouse", .methodLinkNest "TraitHouse" 107 ⟨"TraitHouse$Rows", "add", "(IIIII)I"⟩ "TraitHouse", .methodLinkNest "TraitHouse" 114 ⟨"TraitHouse$Merges", "isTold", "(I)Z"⟩ "TraitHouse", .methodLinkNest "TraitHouse" 118 ⟨"TraitHouse$Merges", "lastOf", "(II)I"⟩ "TraitHouse", .methodLinkNest "TraitHouse" 122 ⟨"TraitHouse$Merges", "add", "(III)I"⟩ "TraitHouse", .methodLinkNest "TraitHouse" 134 ⟨"TraitHouse$Trait", "forget", "(I)V"⟩ "TraitHouse", .methodLinkNest "TraitHouse" 138 ⟨"TraitHouse$Places", "forget", "(I)V"⟩ "TraitHouse", .methodLinkNest "TraitHouse" 139 ⟨"TraitHouse$Rows", "drop", "(I)I"⟩ "TraitHouse", .methodLinkNest "TraitHouse" 145 ⟨"TraitHouse$Tape", "append", "(I)V"⟩ "TraitHouse", .methodLinkNest "TraitHouse" 155 ⟨"TraitHouse$Reader", "read", "(I)I"⟩ "TraitHouse", .methodLinkNest "TraitHouse$Reader" 139 ⟨"TraitHouse$Step", "<init>", "(IIII)V"⟩ "TraitHouse", .methodLinkNest "TraitHouse" 162 ⟨"TraitHouse$Reader", "stepsRead", "()[LTraitHouse$Step;"⟩ "TraitHouse", .methodLinkNest "TraitHouse" 172 ⟨"TraitHouse$Trait", "<init>", "([LTraitHouse$Step;I)V"⟩ "TraitHouse", .methodLinkNest "TraitHouse" 177 ⟨"TraitHouse$Worker", "make", "(IIII)J"⟩ "TraitHouse", .methodLinkNest "TraitHouse$Worker" 62 ⟨"TraitHouse$Merges", "lastOf", "(II)I"⟩ "TraitHouse", .methodLinkNest "TraitHouse$Worker" 50 ⟨"TraitHouse", "hasBit", "(II)Z"⟩ "TraitHouse", .methodLinkNest "TraitHouse" 198 ⟨"TraitHouse$Trait", "isOutside", "(J)Z"⟩ "TraitHouse", .methodLinkNest "TraitHouse" 202 ⟨"TraitHouse$Trait", "keep", "(IJI)V"⟩ "TraitHouse", .methodLinkNest "TraitHouse" 206 ⟨"TraitHouse$Places", "put", "(IIIZJ)V"⟩ "TraitHouse", .methodLinkNest "TraitHouse" 214 ⟨"TraitHouse$Trait", "isKept", "(I)Z"⟩ "TraitHouse", .methodLinkNest "TraitHouse" 220 ⟨"TraitHouse$Trait", "isStale", "(II)Z"⟩ "TraitHouse", .methodLinkNest "TraitHouse" 232 ⟨"TraitHouse$Places", "free", "()I"⟩ "TraitHouse", .methodLinkNest "TraitHouse" 247 ⟨"TraitHouse$Places", "find", "(III)I"⟩ "TraitHouse", .methodLinkNest "TraitHouse" 259 ⟨"TraitHouse$Trait", "isMissing", "(II)Z"⟩ "TraitHouse"]
def nw_is : Cond → Bool
  | .fieldLinkNest _ _ _ _ _ _ => true
  | .methodLinkNest _ _ _ _ => true
  | _ => false
theorem nw_all_is : ∀ w ∈ nw_all, nw_is w = true := by decide +kernel
def nw_ok (U : State) : Prop := (∀ w ∈ nw_all, va_Nw w U) ∧ va_AO RX4 U ∧ va_AO RX6 U
theorem nw_at {U : State} (h : nw_ok U) (i : Nat) {w : Cond} (hw : nw_all[i]? = some w) : va_Nw w U := h.1 w (List.mem_of_getElem? hw)
theorem nw_ok.warm {s U : State} (h : nw_ok s) (hW : s.WarmedH U.vm) : nw_ok U := by
  refine ⟨?_, h.2.1.moved hW.alike, h.2.2.moved hW.alike⟩
  intro w hw
  have h1 := nw_all_is w hw
  have h2 := h.1 w hw
  cases w with
  | fieldLinkNest a b c d e f => exact va_Nw.warmF hW h2
  | methodLinkNest a b c d => exact va_Nw.warmM hW h2
  | _ => exact absurd h1 (by simp [nw_is])
theorem nw_ok.same {u U : State} (h : nw_ok u) (e : u.vm = U.vm) : nw_ok U := by
  have ea : u.vm.Alike U.vm := by rw [← e]; exact Vm.Alike.refl u.vm
  refine ⟨?_, h.2.1.moved ea, h.2.2.moved ea⟩
  intro w hw
  have h1 := nw_all_is w hw
  have h2 := h.1 w hw
  cases w with
  | fieldLinkNest a b c d e f => exact va_Nw.same rfl (by assumption) h2
  | methodLinkNest a b c d => exact va_Nw.same rfl (by assumption) h2
  | _ => exact absurd h1 (by simp [nw_is])
theorem nw_tbl : ∀ w ∈ nw_all, w ∈ tables_1 := by decide +kernel
theorem jfill {g g' : Nat → Int32} {i i' v : Int32} (h : ∀ k : Nat, (k : Int) < i.toInt → g k = v) (e : g' = upd g i.toNatClampNeg v) (h0 : 0 ≤ i.toInt) (hi : i'.toInt = i.toInt + 1) : ∀ k : Nat, (k : Int) < i'.toInt → g' k = v := by
  intro k hk
  rw [e]
  by_cases hh : k = i.toNatClampNeg
  · subst hh; exact pk_us
  · rw [pk_un hh]
    have hc : i.toNatClampNeg = i.toInt.toNat := rfl
    exact h k (by omega)
end
section
theorem dX8_isMoment_0 : decode cX8_isMoment 0 = .ok (.iload_n 0, 1) := by decide +kernel
theorem dX8_isMoment_1 : decode cX8_isMoment 1 = .ok (.ifCond .lt 13, 3) := by decide +kernel
theorem dX8_isMoment_14 : decode cX8_isMoment 14 = .ok (.iconst 0, 1) := by decide +kernel
theorem dX8_isMoment_15 : decode cX8_isMoment 15 = .ok (.ireturn, 1) := by decide +kernel
theorem dX8_isMoment_4 : decode cX8_isMoment 4 = .ok (.iload_n 0, 1) := by decide +kernel
theorem dX8_isMoment_5 : decode cX8_isMoment 5 = .ok (.ldc 117, 2) := by decide +kernel
theorem dX8_isMoment_7 : decode cX8_isMoment 7 = .ok (.if_icmp .gt 7, 3) := by decide +kernel
theorem dX8_isMoment_10 : decode cX8_isMoment 10 = .ok (.iconst 1, 1) := by decide +kernel
theorem dX8_isMoment_11 : decode cX8_isMoment 11 = .ok (.goto 4, 3) := by decide +kernel
theorem dX8_isPerson_0 : decode cX8_isPerson 0 = .ok (.iload_n 0, 1) := by decide +kernel
theorem dX8_isPerson_1 : decode cX8_isPerson 1 = .ok (.ifCond .lt 13, 3) := by decide +kernel
theorem dX8_isPerson_14 : decode cX8_isPerson 14 = .ok (.iconst 0, 1) := by decide +kernel
theorem dX8_isPerson_15 : decode cX8_isPerson 15 = .ok (.ireturn, 1) := by decide +kernel
theorem dX8_isPerson_4 : decode cX8_isPerson 4 = .ok (.iload_n 0, 1) := by decide +kernel
theorem dX8_isPerson_5 : decode cX8_isPerson 5 = .ok (.bipush 20, 2) := by decide +kernel
theorem dX8_isPerson_7 : decode cX8_isPerson 7 = .ok (.if_icmp .ge 7, 3) := by decide +kernel
theorem dX8_isPerson_10 : decode cX8_isPerson 10 = .ok (.iconst 1, 1) := by decide +kernel
theorem dX8_isPerson_11 : decode cX8_isPerson 11 = .ok (.goto 4, 3) := by decide +kernel
theorem dX8_isStream_0 : decode cX8_isStream 0 = .ok (.iload_n 0, 1) := by decide +kernel
theorem dX8_isStream_1 : decode cX8_isStream 1 = .ok (.ifCond .lt 13, 3) := by decide +kernel
theorem dX8_isStream_14 : decode cX8_isStream 14 = .ok (.iconst 0, 1) := by decide +kernel
theorem dX8_isStream_15 : decode cX8_isStream 15 = .ok (.ireturn, 1) := by decide +kernel
theorem dX8_isStream_4 : decode cX8_isStream 4 = .ok (.iload_n 0, 1) := by decide +kernel
theorem dX8_isStream_5 : decode cX8_isStream 5 = .ok (.bipush 6, 2) := by decide +kernel
theorem dX8_isStream_7 : decode cX8_isStream 7 = .ok (.if_icmp .ge 7, 3) := by decide +kernel
theorem dX8_isStream_10 : decode cX8_isStream 10 = .ok (.iconst 1, 1) := by decide +kernel
theorem dX8_isStream_11 : decode cX8_isStream 11 = .ok (.goto 4, 3) := by decide +kernel
theorem dX8_isRowValue_0 : decode cX8_isRowValue 0 = .ok (.iload_n 0, 1) := by decide +kernel
theorem dX8_isRowValue_1 : decode cX8_isRowValue 1 = .ok (.ldc_w 295, 3) := by decide +kernel
theorem dX8_isRowValue_4 : decode cX8_isRowValue 4 = .ok (.if_icmp .lt 14, 3) := by decide +kernel
theorem dX8_isRowValue_18 : decode cX8_isRowValue 18 = .ok (.iconst 0, 1) := by decide +kernel
theorem dX8_isRowValue_19 : decode cX8_isRowValue 19 = .ok (.ireturn, 1) := by decide +kernel
theorem dX8_isRowValue_7 : decode cX8_isRowValue 7 = .ok (.iload_n 0, 1) := by decide +kernel
theorem dX8_isRowValue_8 : decode cX8_isRowValue 8 = .ok (.ldc_w 296, 3) := by decide +kernel
theorem dX8_isRowValue_11 : decode cX8_isRowValue 11 = .ok (.if_icmp .gt 7, 3) := by decide +kernel
theorem dX8_isRowValue_14 : decode cX8_isRowValue 14 = .ok (.iconst 1, 1) := by decide +kernel
theorem dX8_isRowValue_15 : decode cX8_isRowValue 15 = .ok (.goto 4, 3) := by decide +kernel
theorem dX8_settle_0 : decode cX8_settle 0 = .ok (.aload_n 0, 1) := by decide +kernel
theorem dX8_settle_1 : decode cX8_settle 1 = .ok (.iload_n 1, 1) := by decide +kernel
theorem dX8_settle_2 : decode cX8_settle 2 = .ok (.iconst 0, 1) := by decide +kernel
theorem dX8_settle_3 : decode cX8_settle 3 = .ok (.invokestatic 292, 3) := by decide +kernel
theorem dX8_settle_6 : decode cX8_settle 6 = .ok (.putfield 289, 3) := by decide +kernel
theorem dX8_settle_9 : decode cX8_settle 9 = .ok (.iload_n 1, 1) := by decide +kernel
theorem dX8_settle_10 : decode cX8_settle 10 = .ok (.ireturn, 1) := by decide +kernel
theorem dX8_traitAt_0 : decode cX8_traitAt 0 = .ok (.iload_n 1, 1) := by decide +kernel
theorem dX8_traitAt_1 : decode cX8_traitAt 1 = .ok (.ifCond .lt 20, 3) := by decide +kernel
theorem dX8_traitAt_21 : decode cX8_traitAt 21 = .ok (.aconst_null, 1) := by decide +kernel
theorem dX8_traitAt_22 : decode cX8_traitAt 22 = .ok (.areturn, 1) := by decide +kernel
theorem dX8_traitAt_4 : decode cX8_traitAt 4 = .ok (.iload_n 1, 1) := by decide +kernel
theorem dX8_traitAt_5 : decode cX8_traitAt 5 = .ok (.aload_n 0, 1) := by decide +kernel
theorem dX8_traitAt_6 : decode cX8_traitAt 6 = .ok (.getfield 148, 3) := by decide +kernel
theorem dX8_traitAt_9 : decode cX8_traitAt 9 = .ok (.if_icmp .ge 12, 3) := by decide +kernel
theorem dX8_isModel_0 : decode cX8_isModel 0 = .ok (.iload_n 1, 1) := by decide +kernel
theorem dX8_isModel_1 : decode cX8_isModel 1 = .ok (.ifCond .lt 15, 3) := by decide +kernel
theorem dX8_isModel_16 : decode cX8_isModel 16 = .ok (.iconst 0, 1) := by decide +kernel
theorem dX8_isModel_17 : decode cX8_isModel 17 = .ok (.ireturn, 1) := by decide +kernel
theorem dX8_isModel_4 : decode cX8_isModel 4 = .ok (.iload_n 1, 1) := by decide +kernel
theorem dX8_isModel_5 : decode cX8_isModel 5 = .ok (.aload_n 0, 1) := by decide +kernel
theorem dX8_isModel_6 : decode cX8_isModel 6 = .ok (.getfield 250, 3) := by decide +kernel
theorem dX8_isModel_9 : decode cX8_isModel 9 = .ok (.if_icmp .ge 7, 3) := by decide +kernel
theorem dX8_now_0 : decode cX8_now 0 = .ok (.iload_n 1, 1) := by decide +kernel
set_option maxRecDepth 20000 in
theorem ggX8_now_X8_isMoment : GoodIn wsX8_now wsX8_isMoment := goodIn_r _ [5, 6] (by decide +kernel) (by decide +kernel)
set_option maxRecDepth 20000 in
theorem gX8_now_X8_isMoment : GoodIn wsX8_now (va_wsS RX8 79 yX8_isMoment wsX8_isMoment) := goodIn_app (goodIn_of _ (by decide +kernel)) ggX8_now_X8_isMoment
theorem dX8_now_1 : decode cX8_now 1 = .ok (.invokestatic 79, 3) := by decide +kernel
theorem dX8_now_4 : decode cX8_now 4 = .ok (.ifCond .eq 11, 3) := by decide +kernel
theorem dX8_now_15 : decode cX8_now 15 = .ok (.aload_n 0, 1) := by decide +kernel
theorem dX8_now_16 : decode cX8_now 16 = .ok (.iconst (-1), 1) := by decide +kernel
set_option maxRecDepth 20000 in
theorem ggX8_now_X8_settle : GoodIn wsX8_now wsX8_settle := goodIn_r _ [10, 11, 12, 13, 14, 15, 16, 17, 18, 19, 20, 21, 22, 23, 24, 25, 26, 27, 28, 29, 30, 31, 32] (by decide +kernel) (by decide +kernel)
set_option maxRecDepth 20000 in
theorem gX8_now_X8_settle : GoodIn wsX8_now (wsV RX8 86 RX8 yX8_settle wsX8_settle) := goodIn_app (goodIn_of _ (by decide +kernel)) ggX8_now_X8_settle
theorem dX8_now_17 : decode cX8_now 17 = .ok (.invokevirtual 86, 3) := by decide +kernel
theorem dX8_now_20 : decode cX8_now 20 = .ok (.ireturn, 1) := by decide +kernel
theorem dX8_now_7 : decode cX8_now 7 = .ok (.iload_n 1, 1) := by decide +kernel
theorem dX8_now_8 : decode cX8_now 8 = .ok (.aload_n 0, 1) := by decide +kernel
theorem dX8_now_9 : decode cX8_now 9 = .ok (.getfield 83, 3) := by decide +kernel
theorem dX8_now_12 : decode cX8_now 12 = .ok (.if_icmp .ge 9, 3) := by decide +kernel
theorem dX8_now_21 : decode cX8_now 21 = .ok (.aload_n 0, 1) := by decide +kernel
theorem dX8_now_22 : decode cX8_now 22 = .ok (.iload_n 1, 1) := by decide +kernel
theorem dX8_now_23 : decode cX8_now 23 = .ok (.putfield 83, 3) := by decide +kernel
theorem dX8_now_26 : decode cX8_now 26 = .ok (.aload_n 0, 1) := by decide +kernel
theorem dX8_now_27 : decode cX8_now 27 = .ok (.iconst 0, 1) := by decide +kernel
theorem dX8_now_28 : decode cX8_now 28 = .ok (.invokevirtual 86, 3) := by decide +kernel
theorem dX8_now_31 : decode cX8_now 31 = .ok (.ireturn, 1) := by decide +kernel
set_option maxHeartbeats 4000000 in
set_option maxRecDepth 100000 in
theorem c_X8_isMoment (l : Launch) (dC : Nat → ClassId) (dI : Nat → Nat → Nat) (sz : Nat) (a : Int32)  : Met l yX8_isMoment wsX8_isMoment ({ frames := 0, cells := 0, slots := 0, locals := 0 }) (va_Pc [.int a] (fun U => U.heap.size = sz ∧ va_P (dC, dI) vwCl [] U.heap ∧ va_K (dC, dI) vwCl [] U ∧ va_D (fun _ => True) [] ∧ nw_ok U)) (va_Qi (fun (r : Int32) (_ : Unit) => (0 ≤ a.toInt ∧ a.toInt ≤ 100000 → r.toInt = 1) ∧ (¬ (0 ≤ a.toInt ∧ a.toInt ≤ 100000) → r.toInt = 0)) (fun (_ : Unit) (t : State) => va_P (dC, dI) vwCl [] t.heap ∧ va_K (dC, dI) vwCl [] t ∧ va_D (va_A [] sz) []) (va_A [] sz)) 0 0 (va_A [] sz) := by
  refine Met.ofW (cc := cX8_isMoment) (maxL := 1) (ret := (some .boolean)) (by decide) rfl ?_
  intro p e s m args below meth c s₁ B hml hv
  obtain ⟨rfl, hsz, hP, hK, hD0, hN⟩ := hv
  have hx := B.exec
  have hb := B.bytes
  have hr := B.returns
  have hts := atoms_spec (ws := wsX8_isMoment) B.pre
  have hown : s.vm.findClass RX8 = some m.cls := findClass_of_methodNamed B.named
  have hlocks := B.notSynchronized
  subst hsz
  have hD := hD0.self (sz := s.heap.size)
  generalize hAe : va_A [] s.heap.size = A at hD ⊢
  have hA : ∀ q : Nat, s.heap.size ≤ q → A q := fun q h => by rw [← hAe]; exact Or.inr h
  have hS : va_S A s.heap s.heap [] := va_S.rf
  have hP : va_P (dC, dI) vwCl [] s.heap := hP
  have hl := lv_entry ([.int a]) (n := 1) (Nat.le_of_ble_eq_true rfl)
  rw [lg_entry_eq]
  generalize (lg_sl ([.int a]) ++ List.replicate (1 - (lg_sl ([.int a])).length) Slot.unset).toArray = ls at hl ⊢
  have hl : lv_has ls 1 [(0, .int a)] := hl
  refine lv_iload_n hx hb dX8_isMoment_0 rfl (lv_at hl 0 rfl) ?_
  refine lv_if_lt (tgt := 14) hx hb dX8_isMoment_1 (by decide) (fun c_1 => ?_) (fun c_1 => ?_)
  · have dc_1 : a.toInt < 0 := jI_lt c_1 rfl (by decide)
    refine lv_iconst (v := 0) hx hb dX8_isMoment_14 (by decide) ?_
    have hP9 := hP.sub (ws' := []) [] rfl
    have hD9 := hD.sub (ws' := []) [] (by decide) rfl
    have hK9 := hK.sub (tys' := []) [] rfl
    have hans : (0 : Int32).toInt = 0 := (by decide)
    exact W.zret (v := 0) hx hb hr (by decide) (fun t ht hW => ⟨⟨0, (), rfl, by first | omega | (dsimp only; omega), by rw [ht]; exact hP9, va_K.moved hW.alike hK9, hD9⟩, hS.F ht⟩) hS.2.2 dX8_isMoment_15
  · have dc_1 : 0 ≤ a.toInt := jI_nlt c_1 rfl (by decide)
    refine lv_iload_n hx hb dX8_isMoment_4 rfl (lv_at hl 0 rfl) ?_
    refine lv_ldc hx hb hown (hts (.constant RX8 117 (100000)) (by decide +kernel)) dX8_isMoment_5 ?_
    refine lv_icmp_gt (tgt := 14) hx hb dX8_isMoment_7 (by decide) (fun c_2 => ?_) (fun c_2 => ?_)
    · have dc_2 : 100000 < a.toInt := jI_lt c_2 (by decide) rfl
      refine lv_iconst (v := 0) hx hb dX8_isMoment_14 (by decide) ?_
      have hP9 := hP.sub (ws' := []) [] rfl
      have hD9 := hD.sub (ws' := []) [] (by decide) rfl
      have hK9 := hK.sub (tys' := []) [] rfl
      have hans : (0 : Int32).toInt = 0 := (by decide)
      exact W.zret (v := 0) hx hb hr (by decide) (fun t ht hW => ⟨⟨0, (), rfl, by first | omega | (dsimp only; omega), by rw [ht]; exact hP9, va_K.moved hW.alike hK9, hD9⟩, hS.F ht⟩) hS.2.2 dX8_isMoment_15
    · have dc_2 : a.toInt ≤ 100000 := jI_nlt c_2 (by decide) rfl
      refine lv_iconst (v := 1) hx hb dX8_isMoment_10 (by decide) ?_
      refine lv_goto (tgt := 15) hx hb dX8_isMoment_11 (by decide) ?_
      have hP9 := hP.sub (ws' := []) [] rfl
      have hD9 := hD.sub (ws' := []) [] (by decide) rfl
      have hK9 := hK.sub (tys' := []) [] rfl
      have hans : (1 : Int32).toInt = 1 := (by decide)
      exact W.zret (v := 1) hx hb hr (by decide) (fun t ht hW => ⟨⟨1, (), rfl, by first | omega | (dsimp only; omega), by rw [ht]; exact hP9, va_K.moved hW.alike hK9, hD9⟩, hS.F ht⟩) hS.2.2 dX8_isMoment_15

set_option maxHeartbeats 4000000 in
set_option maxRecDepth 100000 in
theorem c_X8_isPerson (l : Launch) (dC : Nat → ClassId) (dI : Nat → Nat → Nat) (sz : Nat) (a : Int32)  : Met l yX8_isPerson wsX8_isPerson ({ frames := 0, cells := 0, slots := 0, locals := 0 }) (va_Pc [.int a] (fun U => U.heap.size = sz ∧ va_P (dC, dI) vwCl [] U.heap ∧ va_K (dC, dI) vwCl [] U ∧ va_D (fun _ => True) [] ∧ nw_ok U)) (va_Qi (fun (r : Int32) (_ : Unit) => (0 ≤ a.toInt ∧ a.toInt ≤ 19 → r.toInt = 1) ∧ (¬ (0 ≤ a.toInt ∧ a.toInt ≤ 19) → r.toInt = 0)) (fun (_ : Unit) (t : State) => va_P (dC, dI) vwCl [] t.heap ∧ va_K (dC, dI) vwCl [] t ∧ va_D (va_A [] sz) []) (va_A [] sz)) 0 0 (va_A [] sz) := by
  refine Met.ofW (cc := cX8_isPerson) (maxL := 1) (ret := (some .boolean)) (by decide) rfl ?_
  intro p e s m args below meth c s₁ B hml hv
  obtain ⟨rfl, hsz, hP, hK, hD0, hN⟩ := hv
  have hx := B.exec
  have hb := B.bytes
  have hr := B.returns
  have hts := atoms_spec (ws := wsX8_isPerson) B.pre
  have hown : s.vm.findClass RX8 = some m.cls := findClass_of_methodNamed B.named
  have hlocks := B.notSynchronized
  subst hsz
  have hD := hD0.self (sz := s.heap.size)
  generalize hAe : va_A [] s.heap.size = A at hD ⊢
  have hA : ∀ q : Nat, s.heap.size ≤ q → A q := fun q h => by rw [← hAe]; exact Or.inr h
  have hS : va_S A s.heap s.heap [] := va_S.rf
  have hP : va_P (dC, dI) vwCl [] s.heap := hP
  have hl := lv_entry ([.int a]) (n := 1) (Nat.le_of_ble_eq_true rfl)
  rw [lg_entry_eq]
  generalize (lg_sl ([.int a]) ++ List.replicate (1 - (lg_sl ([.int a])).length) Slot.unset).toArray = ls at hl ⊢
  have hl : lv_has ls 1 [(0, .int a)] := hl
  refine lv_iload_n hx hb dX8_isPerson_0 rfl (lv_at hl 0 rfl) ?_
  refine lv_if_lt (tgt := 14) hx hb dX8_isPerson_1 (by decide) (fun c_1 => ?_) (fun c_1 => ?_)
  · have dc_1 : a.toInt < 0 := jI_lt c_1 rfl (by decide)
    refine lv_iconst (v := 0) hx hb dX8_isPerson_14 (by decide) ?_
    have hP9 := hP.sub (ws' := []) [] rfl
    have hD9 := hD.sub (ws' := []) [] (by decide) rfl
    have hK9 := hK.sub (tys' := []) [] rfl
    have hans : (0 : Int32).toInt = 0 := (by decide)
    exact W.zret (v := 0) hx hb hr (by decide) (fun t ht hW => ⟨⟨0, (), rfl, by first | omega | (dsimp only; omega), by rw [ht]; exact hP9, va_K.moved hW.alike hK9, hD9⟩, hS.F ht⟩) hS.2.2 dX8_isPerson_15
  · have dc_1 : 0 ≤ a.toInt := jI_nlt c_1 rfl (by decide)
    refine lv_iload_n hx hb dX8_isPerson_4 rfl (lv_at hl 0 rfl) ?_
    refine lv_bipush (v := 20) hx hb dX8_isPerson_5 (by decide) ?_
    refine lv_icmp_ge (tgt := 14) hx hb dX8_isPerson_7 (by decide) (fun c_2 => ?_) (fun c_2 => ?_)
    · have dc_2 : 20 ≤ a.toInt := jI_le c_2 (by decide) rfl
      refine lv_iconst (v := 0) hx hb dX8_isPerson_14 (by decide) ?_
      have hP9 := hP.sub (ws' := []) [] rfl
      have hD9 := hD.sub (ws' := []) [] (by decide) rfl
      have hK9 := hK.sub (tys' := []) [] rfl
      have hans : (0 : Int32).toInt = 0 := (by decide)
      exact W.zret (v := 0) hx hb hr (by decide) (fun t ht hW => ⟨⟨0, (), rfl, by first | omega | (dsimp only; omega), by rw [ht]; exact hP9, va_K.moved hW.alike hK9, hD9⟩, hS.F ht⟩) hS.2.2 dX8_isPerson_15
    · have dc_2 : a.toInt < 20 := jI_nle c_2 (by decide) rfl
      refine lv_iconst (v := 1) hx hb dX8_isPerson_10 (by decide) ?_
      refine lv_goto (tgt := 15) hx hb dX8_isPerson_11 (by decide) ?_
      have hP9 := hP.sub (ws' := []) [] rfl
      have hD9 := hD.sub (ws' := []) [] (by decide) rfl
      have hK9 := hK.sub (tys' := []) [] rfl
      have hans : (1 : Int32).toInt = 1 := (by decide)
      exact W.zret (v := 1) hx hb hr (by decide) (fun t ht hW => ⟨⟨1, (), rfl, by first | omega | (dsimp only; omega), by rw [ht]; exact hP9, va_K.moved hW.alike hK9, hD9⟩, hS.F ht⟩) hS.2.2 dX8_isPerson_15

set_option maxHeartbeats 4000000 in
set_option maxRecDepth 100000 in
theorem c_X8_isStream (l : Launch) (dC : Nat → ClassId) (dI : Nat → Nat → Nat) (sz : Nat) (a : Int32)  : Met l yX8_isStream wsX8_isStream ({ frames := 0, cells := 0, slots := 0, locals := 0 }) (va_Pc [.int a] (fun U => U.heap.size = sz ∧ va_P (dC, dI) vwCl [] U.heap ∧ va_K (dC, dI) vwCl [] U ∧ va_D (fun _ => True) [] ∧ nw_ok U)) (va_Qi (fun (r : Int32) (_ : Unit) => (0 ≤ a.toInt ∧ a.toInt ≤ 5 → r.toInt = 1) ∧ (¬ (0 ≤ a.toInt ∧ a.toInt ≤ 5) → r.toInt = 0)) (fun (_ : Unit) (t : State) => va_P (dC, dI) vwCl [] t.heap ∧ va_K (dC, dI) vwCl [] t ∧ va_D (va_A [] sz) []) (va_A [] sz)) 0 0 (va_A [] sz) := by
  refine Met.ofW (cc := cX8_isStream) (maxL := 1) (ret := (some .boolean)) (by decide) rfl ?_
  intro p e s m args below meth c s₁ B hml hv
  obtain ⟨rfl, hsz, hP, hK, hD0, hN⟩ := hv
  have hx := B.exec
  have hb := B.bytes
  have hr := B.returns
  have hts := atoms_spec (ws := wsX8_isStream) B.pre
  have hown : s.vm.findClass RX8 = some m.cls := findClass_of_methodNamed B.named
  have hlocks := B.notSynchronized
  subst hsz
  have hD := hD0.self (sz := s.heap.size)
  generalize hAe : va_A [] s.heap.size = A at hD ⊢
  have hA : ∀ q : Nat, s.heap.size ≤ q → A q := fun q h => by rw [← hAe]; exact Or.inr h
  have hS : va_S A s.heap s.heap [] := va_S.rf
  have hP : va_P (dC, dI) vwCl [] s.heap := hP
  have hl := lv_entry ([.int a]) (n := 1) (Nat.le_of_ble_eq_true rfl)
  rw [lg_entry_eq]
  generalize (lg_sl ([.int a]) ++ List.replicate (1 - (lg_sl ([.int a])).length) Slot.unset).toArray = ls at hl ⊢
  have hl : lv_has ls 1 [(0, .int a)] := hl
  refine lv_iload_n hx hb dX8_isStream_0 rfl (lv_at hl 0 rfl) ?_
  refine lv_if_lt (tgt := 14) hx hb dX8_isStream_1 (by decide) (fun c_1 => ?_) (fun c_1 => ?_)
  · have dc_1 : a.toInt < 0 := jI_lt c_1 rfl (by decide)
    refine lv_iconst (v := 0) hx hb dX8_isStream_14 (by decide) ?_
    have hP9 := hP.sub (ws' := []) [] rfl
    have hD9 := hD.sub (ws' := []) [] (by decide) rfl
    have hK9 := hK.sub (tys' := []) [] rfl
    have hans : (0 : Int32).toInt = 0 := (by decide)
    exact W.zret (v := 0) hx hb hr (by decide) (fun t ht hW => ⟨⟨0, (), rfl, by first | omega | (dsimp only; omega), by rw [ht]; exact hP9, va_K.moved hW.alike hK9, hD9⟩, hS.F ht⟩) hS.2.2 dX8_isStream_15
  · have dc_1 : 0 ≤ a.toInt := jI_nlt c_1 rfl (by decide)
    refine lv_iload_n hx hb dX8_isStream_4 rfl (lv_at hl 0 rfl) ?_
    refine lv_bipush (v := 6) hx hb dX8_isStream_5 (by decide) ?_
    refine lv_icmp_ge (tgt := 14) hx hb dX8_isStream_7 (by decide) (fun c_2 => ?_) (fun c_2 => ?_)
    · have dc_2 : 6 ≤ a.toInt := jI_le c_2 (by decide) rfl
      refine lv_iconst (v := 0) hx hb dX8_isStream_14 (by decide) ?_
      have hP9 := hP.sub (ws' := []) [] rfl
      have hD9 := hD.sub (ws' := []) [] (by decide) rfl
      have hK9 := hK.sub (tys' := []) [] rfl
      have hans : (0 : Int32).toInt = 0 := (by decide)
      exact W.zret (v := 0) hx hb hr (by decide) (fun t ht hW => ⟨⟨0, (), rfl, by first | omega | (dsimp only; omega), by rw [ht]; exact hP9, va_K.moved hW.alike hK9, hD9⟩, hS.F ht⟩) hS.2.2 dX8_isStream_15
    · have dc_2 : a.toInt < 6 := jI_nle c_2 (by decide) rfl
      refine lv_iconst (v := 1) hx hb dX8_isStream_10 (by decide) ?_
      refine lv_goto (tgt := 15) hx hb dX8_isStream_11 (by decide) ?_
      have hP9 := hP.sub (ws' := []) [] rfl
      have hD9 := hD.sub (ws' := []) [] (by decide) rfl
      have hK9 := hK.sub (tys' := []) [] rfl
      have hans : (1 : Int32).toInt = 1 := (by decide)
      exact W.zret (v := 1) hx hb hr (by decide) (fun t ht hW => ⟨⟨1, (), rfl, by first | omega | (dsimp only; omega), by rw [ht]; exact hP9, va_K.moved hW.alike hK9, hD9⟩, hS.F ht⟩) hS.2.2 dX8_isStream_15

set_option maxHeartbeats 4000000 in
set_option maxRecDepth 100000 in
theorem c_X8_isRowValue (l : Launch) (dC : Nat → ClassId) (dI : Nat → Nat → Nat) (sz : Nat) (a : Int32)  : Met l yX8_isRowValue wsX8_isRowValue ({ frames := 0, cells := 0, slots := 0, locals := 0 }) (va_Pc [.int a] (fun U => U.heap.size = sz ∧ va_P (dC, dI) vwCl [] U.heap ∧ va_K (dC, dI) vwCl [] U ∧ va_D (fun _ => True) [] ∧ nw_ok U)) (va_Qi (fun (r : Int32) (_ : Unit) => (-1000000 ≤ a.toInt ∧ a.toInt ≤ 1000000 → r.toInt = 1) ∧ (¬ (-1000000 ≤ a.toInt ∧ a.toInt ≤ 1000000) → r.toInt = 0)) (fun (_ : Unit) (t : State) => va_P (dC, dI) vwCl [] t.heap ∧ va_K (dC, dI) vwCl [] t ∧ va_D (va_A [] sz) []) (va_A [] sz)) 0 0 (va_A [] sz) := by
  refine Met.ofW (cc := cX8_isRowValue) (maxL := 1) (ret := (some .boolean)) (by decide) rfl ?_
  intro p e s m args below meth c s₁ B hml hv
  obtain ⟨rfl, hsz, hP, hK, hD0, hN⟩ := hv
  have hx := B.exec
  have hb := B.bytes
  have hr := B.returns
  have hts := atoms_spec (ws := wsX8_isRowValue) B.pre
  have hown : s.vm.findClass RX8 = some m.cls := findClass_of_methodNamed B.named
  have hlocks := B.notSynchronized
  subst hsz
  have hD := hD0.self (sz := s.heap.size)
  generalize hAe : va_A [] s.heap.size = A at hD ⊢
  have hA : ∀ q : Nat, s.heap.size ≤ q → A q := fun q h => by rw [← hAe]; exact Or.inr h
  have hS : va_S A s.heap s.heap [] := va_S.rf
  have hP : va_P (dC, dI) vwCl [] s.heap := hP
  have hl := lv_entry ([.int a]) (n := 1) (Nat.le_of_ble_eq_true rfl)
  rw [lg_entry_eq]
  generalize (lg_sl ([.int a]) ++ List.replicate (1 - (lg_sl ([.int a])).length) Slot.unset).toArray = ls at hl ⊢
  have hl : lv_has ls 1 [(0, .int a)] := hl
  refine lv_iload_n hx hb dX8_isRowValue_0 rfl (lv_at hl 0 rfl) ?_
  refine lv_ldcw hx hb hown (hts (.constant RX8 295 (-1000000)) (by decide +kernel)) dX8_isRowValue_1 ?_
  refine lv_icmp_lt (tgt := 18) hx hb dX8_isRowValue_4 (by decide) (fun c_1 => ?_) (fun c_1 => ?_)
  · have dc_1 : a.toInt < (-1000000) := jI_lt c_1 rfl (by decide)
    refine lv_iconst (v := 0) hx hb dX8_isRowValue_18 (by decide) ?_
    have hP9 := hP.sub (ws' := []) [] rfl
    have hD9 := hD.sub (ws' := []) [] (by decide) rfl
    have hK9 := hK.sub (tys' := []) [] rfl
    have hans : (0 : Int32).toInt = 0 := (by decide)
    exact W.zret (v := 0) hx hb hr (by decide) (fun t ht hW => ⟨⟨0, (), rfl, by first | omega | (dsimp only; omega), by rw [ht]; exact hP9, va_K.moved hW.alike hK9, hD9⟩, hS.F ht⟩) hS.2.2 dX8_isRowValue_19
  · have dc_1 : (-1000000) ≤ a.toInt := jI_nlt c_1 rfl (by decide)
    refine lv_iload_n hx hb dX8_isRowValue_7 rfl (lv_at hl 0 rfl) ?_
    refine lv_ldcw hx hb hown (hts (.constant RX8 296 (1000000)) (by decide +kernel)) dX8_isRowValue_8 ?_
    refine lv_icmp_gt (tgt := 18) hx hb dX8_isRowValue_11 (by decide) (fun c_2 => ?_) (fun c_2 => ?_)
    · have dc_2 : 1000000 < a.toInt := jI_lt c_2 (by decide) rfl
      refine lv_iconst (v := 0) hx hb dX8_isRowValue_18 (by decide) ?_
      have hP9 := hP.sub (ws' := []) [] rfl
      have hD9 := hD.sub (ws' := []) [] (by decide) rfl
      have hK9 := hK.sub (tys' := []) [] rfl
      have hans : (0 : Int32).toInt = 0 := (by decide)
      exact W.zret (v := 0) hx hb hr (by decide) (fun t ht hW => ⟨⟨0, (), rfl, by first | omega | (dsimp only; omega), by rw [ht]; exact hP9, va_K.moved hW.alike hK9, hD9⟩, hS.F ht⟩) hS.2.2 dX8_isRowValue_19
    · have dc_2 : a.toInt ≤ 1000000 := jI_nlt c_2 (by decide) rfl
      refine lv_iconst (v := 1) hx hb dX8_isRowValue_14 (by decide) ?_
      refine lv_goto (tgt := 19) hx hb dX8_isRowValue_15 (by decide) ?_
      have hP9 := hP.sub (ws' := []) [] rfl
      have hD9 := hD.sub (ws' := []) [] (by decide) rfl
      have hK9 := hK.sub (tys' := []) [] rfl
      have hans : (1 : Int32).toInt = 1 := (by decide)
      exact W.zret (v := 1) hx hb hr (by decide) (fun t ht hW => ⟨⟨1, (), rfl, by first | omega | (dsimp only; omega), by rw [ht]; exact hP9, va_K.moved hW.alike hK9, hD9⟩, hS.F ht⟩) hS.2.2 dX8_isRowValue_19

set_option maxHeartbeats 4000000 in
set_option maxRecDepth 100000 in
theorem c_X8_settle (l : Launch) (dC : Nat → ClassId) (dI : Nat → Nat → Nat) (sz : Nat) (h0 : Nat) (hRows : Nat) (hMer : Nat) (hEra : Nat) (hTape : Nat) (hRea : Nat) (hTra : Nat) (hWor : Nat) (hPla : Nat) (hMod : Nat) (hHe1 : Nat) (hHe2 : Nat) (vNow : Int32) (vEr : Int32) (vTr : Int32) (vMo : Int32) (vFa : Int32) (vRe : Int32) (a : Int32)  : Met l yX8_settle wsX8_settle ({ frames := 1, cells := 0, slots := 0, locals := 21 }) (va_Pc [.ref h0, .int a] (fun U => U.heap.size = sz ∧ va_P (dC, dI) vwCl [(h0, .inr (8, [.ref hRows, .ref hMer, .ref hEra, .ref hTape, .ref hRea, .ref hTra, .ref hWor, .ref hPla, .ref hMod, .ref hHe1, .ref hHe2, .int vNow, .int vEr, .int vTr, .int vMo, .int vFa, .int vRe]))] U.heap ∧ va_K (dC, dI) vwCl [] U ∧ va_D (fun _ => True) [(h0, .inr (8, [.ref hRows, .ref hMer, .ref hEra, .ref hTape, .ref hRea, .ref hTra, .ref hWor, .ref hPla, .ref hMod, .ref hHe1, .ref hHe2, .int vNow, .int vEr, .int vTr, .int vMo, .int vFa, .int vRe]))] ∧ nw_ok U)) (va_Qi (fun (r : Int32) (u : Int32) => r = a) (fun (u : Int32) (t : State) => va_P (dC, dI) vwCl [(h0, .inr (8, [.ref hRows, .ref hMer, .ref hEra, .ref hTape, .ref hRea, .ref hTra, .ref hWor, .ref hPla, .ref hMod, .ref hHe1, .ref hHe2, .int vNow, .int vEr, .int vTr, .int vMo, .int vFa, .int u]))] t.heap ∧ va_K (dC, dI) vwCl [] t ∧ va_D (va_A [(h0, .inr (8, [.ref hRows, .ref hMer, .ref hEra, .ref hTape, .ref hRea, .ref hTra, .ref hWor, .ref hPla, .ref hMod, .ref hHe1, .ref hHe2, .int vNow, .int vEr, .int vTr, .int vMo, .int vFa, .int vRe]))] sz) [(h0, .inr (8, [.ref hRows, .ref hMer, .ref hEra, .ref hTape, .ref hRea, .ref hTra, .ref hWor, .ref hPla, .ref hMod, .ref hHe1, .ref hHe2, .int vNow, .int vEr, .int vTr, .int vMo, .int vFa, .int u]))]) (va_A [(h0, .inr (8, [.ref hRows, .ref hMer, .ref hEra, .ref hTape, .ref hRea, .ref hTra, .ref hWor, .ref hPla, .ref hMod, .ref hHe1, .ref hHe2, .int vNow, .int vEr, .int vTr, .int vMo, .int vFa, .int vRe]))] sz)) 0 0 (va_A [(h0, .inr (8, [.ref hRows, .ref hMer, .ref hEra, .ref hTape, .ref hRea, .ref hTra, .ref hWor, .ref hPla, .ref hMod, .ref hHe1, .ref hHe2, .int vNow, .int vEr, .int vTr, .int vMo, .int vFa, .int vRe]))] sz) := by
  refine Met.ofW (cc := cX8_settle) (maxL := 2) (ret := (some .int)) (by decide) rfl ?_
  intro p e s m args below meth c s₁ B hml hv
  obtain ⟨rfl, hsz, hP, hK, hD0, hN⟩ := hv
  have hx := B.exec
  have hb := B.bytes
  have hr := B.returns
  have hts := atoms_spec (ws := wsX8_settle) B.pre
  have hown : s.vm.findClass RX8 = some m.cls := findClass_of_methodNamed B.named
  have hlocks := B.notSynchronized
  subst hsz
  have hD := hD0.self (sz := s.heap.size)
  generalize hAe : va_A [(h0, .inr (8, [.ref hRows, .ref hMer, .ref hEra, .ref hTape, .ref hRea, .ref hTra, .ref hWor, .ref hPla, .ref hMod, .ref hHe1, .ref hHe2, .int vNow, .int vEr, .int vTr, .int vMo, .int vFa, .int vRe]))] s.heap.size = A at hD ⊢
  have hA : ∀ q : Nat, s.heap.size ≤ q → A q := fun q h => by rw [← hAe]; exact Or.inr h
  have hS : va_S A s.heap s.heap [] := va_S.rf
  have hP : va_P (dC, dI) vwCl [(h0, .inr (8, [.ref hRows, .ref hMer, .ref hEra, .ref hTape, .ref hRea, .ref hTra, .ref hWor, .ref hPla, .ref hMod, .ref hHe1, .ref hHe2, .int vNow, .int vEr, .int vTr, .int vMo, .int vFa, .int vRe]))] s.heap := hP
  have hIX8 : ∀ w ∈ u_ws RX8 TX8 17, w ∈ wsX8_settle := by decide +kernel
  have hl := lv_entry ([.ref h0, .int a]) (n := 2) (Nat.le_of_ble_eq_true rfl)
  rw [lg_entry_eq]
  generalize (lg_sl ([.ref h0, .int a]) ++ List.replicate (2 - (lg_sl ([.ref h0, .int a])).length) Slot.unset).toArray = ls at hl ⊢
  have hl : lv_has ls 2 [(0, .ref h0), (1, .int a)] := hl
  refine lv_aload_n hx hb dX8_settle_0 rfl (lv_at hl 0 rfl) ?_
  refine lv_iload_n hx hb dX8_settle_1 rfl (lv_at hl 1 rfl) ?_
  refine lv_iconst (v := 0) hx hb dX8_settle_2 (by decide) ?_
  refine va_mmin hx hb (by rw [hml]; exact hl.1.symm) hown (hts (.methodLink RX8 292 Lib.Math.min.name) (by decide +kernel)) (hts (.static Lib.Math.min.name) (by decide +kernel)) (hts (.initialized "java/lang/Math") (by decide +kernel)) (hts (.code Lib.Math.min.name Lib.Math.min.code 2 (some .int)) (by decide +kernel)) (Nat.le_of_ble_eq_true rfl) (Nat.le_of_ble_eq_true rfl) (Nat.le_of_ble_eq_true rfl) (Nat.le_of_ble_eq_true rfl) dX8_settle_3 ?_
  refine lv_topi (fun x_1 ex_1 => ?_)
  have dx_1 : x_1.toInt = min a.toInt 0 := jI_min ex_1 rfl (by decide)
  refine va_put (D := (dC, dI)) (ci := 8) (v := .int x_1) (ty := .int) (C := RX8) (T := TX8) (N := 17) hx hb hts hIX8 tyX8 tyX8_ok nmX8 hown hK hP hD hS 0 rfl rfl 16 (by decide) (hts (.fieldLink RX8 289 "TraitHouse" "latestRefusal" "I") (by decide +kernel)) (fun _ h9 => h9) rfl (by decide +kernel) rfl rfl (Nat.le_of_ble_eq_true rfl) dX8_settle_6 (fun H locs hP hD hS => ?_)
  have hP : va_P (dC, dI) vwCl [(h0, .inr (8, [.ref hRows, .ref hMer, .ref hEra, .ref hTape, .ref hRea, .ref hTra, .ref hWor, .ref hPla, .ref hMod, .ref hHe1, .ref hHe2, .int vNow, .int vEr, .int vTr, .int vMo, .int vFa, .int x_1]))] H := hP
  have hD : va_D A [(h0, .inr (8, [.ref hRows, .ref hMer, .ref hEra, .ref hTape, .ref hRea, .ref hTra, .ref hWor, .ref hPla, .ref hMod, .ref hHe1, .ref hHe2, .int vNow, .int vEr, .int vTr, .int vMo, .int vFa, .int x_1]))] := hD
  refine lv_iload_n hx hb dX8_settle_9 rfl (lv_at hl 1 rfl) ?_
  have hP9 := hP.sub (ws' := [(h0, .inr (8, [.ref hRows, .ref hMer, .ref hEra, .ref hTape, .ref hRea, .ref hTra, .ref hWor, .ref hPla, .ref hMod, .ref hHe1, .ref hHe2, .int vNow, .int vEr, .int vTr, .int vMo, .int vFa, .int x_1]))]) [0] rfl
  have hD9 := hD.sub (ws' := [(h0, .inr (8, [.ref hRows, .ref hMer, .ref hEra, .ref hTape, .ref hRea, .ref hTra, .ref hWor, .ref hPla, .ref hMod, .ref hHe1, .ref hHe2, .int vNow, .int vEr, .int vTr, .int vMo, .int vFa, .int x_1]))]) [0] (by decide) rfl
  have hK9 := hK.sub (tys' := []) [] rfl
  exact W.iret (v := a) hx hb hr (fun t ht hW => ⟨⟨a, x_1, rfl, rfl, by rw [ht]; exact hP9, va_K.moved hW.alike hK9, hD9⟩, hS.F ht⟩) hS.2.2 dX8_settle_10

set_option maxHeartbeats 4000000 in
set_option maxRecDepth 100000 in
theorem c_X8_traitAt (l : Launch) (dC : Nat → ClassId) (dI : Nat → Nat → Nat) (sz : Nat) (h0 : Nat) (hRows : Nat) (hMer : Nat) (hEra : Nat) (hTape : Nat) (hRea : Nat) (hTra : Nat) (hWor : Nat) (hPla : Nat) (hMod : Nat) (hHe1 : Nat) (hHe2 : Nat) (vNow : Int32) (vEr : Int32) (vMo : Int32) (vFa : Int32) (vRe : Int32) (a : Int32)  : Met l yX8_traitAt wsX8_traitAt ({ frames := 0, cells := 0, slots := 0, locals := 0 }) (va_Pc [.ref h0, .int a] (fun U => U.heap.size = sz ∧ va_P (dC, dI) vwCl [(h0, .inr (8, [.ref hRows, .ref hMer, .ref hEra, .ref hTape, .ref hRea, .ref hTra, .ref hWor, .ref hPla, .ref hMod, .ref hHe1, .ref hHe2, .int vNow, .int vEr, .int 0, .int vMo, .int vFa, .int vRe]))] U.heap ∧ va_K (dC, dI) vwCl [] U ∧ va_D (fun _ => True) [(h0, .inr (8, [.ref hRows, .ref hMer, .ref hEra, .ref hTape, .ref hRea, .ref hTra, .ref hWor, .ref hPla, .ref hMod, .ref hHe1, .ref hHe2, .int vNow, .int vEr, .int 0, .int vMo, .int vFa, .int vRe]))] ∧ nw_ok U)) (va_Qq (fun (r : Option Nat) (_ : Unit) => r = none) (fun (_ : Unit) (t : State) => va_P (dC, dI) vwCl [(h0, .inr (8, [.ref hRows, .ref hMer, .ref hEra, .ref hTape, .ref hRea, .ref hTra, .ref hWor, .ref hPla, .ref hMod, .ref hHe1, .ref hHe2, .int vNow, .int vEr, .int 0, .int vMo, .int vFa, .int vRe]))] t.heap ∧ va_K (dC, dI) vwCl [] t ∧ va_D (va_A [(h0, .inr (8, [.ref hRows, .ref hMer, .ref hEra, .ref hTape, .ref hRea, .ref hTra, .ref hWor, .ref hPla, .ref hMod, .ref hHe1, .ref hHe2, .int vNow, .int vEr, .int 0, .int vMo, .int vFa, .int vRe]))] sz) [(h0, .inr (8, [.ref hRows, .ref hMer, .ref hEra, .ref hTape, .ref hRea, .ref hTra, .ref hWor, .ref hPla, .ref hMod, .ref hHe1, .ref hHe2, .int vNow, .int vEr, .int 0, .int vMo, .int vFa, .int vRe]))]) (va_A [(h0, .inr (8, [.ref hRows, .ref hMer, .ref hEra, .ref hTape, .ref hRea, .ref hTra, .ref hWor, .ref hPla, .ref hMod, .ref hHe1, .ref hHe2, .int vNow, .int vEr, .int 0, .int vMo, .int vFa, .int vRe]))] sz)) 0 0 (va_A [(h0, .inr (8, [.ref hRows, .ref hMer, .ref hEra, .ref hTape, .ref hRea, .ref hTra, .ref hWor, .ref hPla, .ref hMod, .ref hHe1, .ref hHe2, .int vNow, .int vEr, .int 0, .int vMo, .int vFa, .int vRe]))] sz) := by
  refine Met.ofW (cc := cX8_traitAt) (maxL := 2) (ret := (some (.object "TraitHouse$Trait"))) (by decide) rfl ?_
  intro p e s m args below meth c s₁ B hml hv
  obtain ⟨rfl, hsz, hP, hK, hD0, hN⟩ := hv
  have hx := B.exec
  have hb := B.bytes
  have hr := B.returns
  have hts := atoms_spec (ws := wsX8_traitAt) B.pre
  have hown : s.vm.findClass RX8 = some m.cls := findClass_of_methodNamed B.named
  have hlocks := B.notSynchronized
  subst hsz
  have hD := hD0.self (sz := s.heap.size)
  generalize hAe : va_A [(h0, .inr (8, [.ref hRows, .ref hMer, .ref hEra, .ref hTape, .ref hRea, .ref hTra, .ref hWor, .ref hPla, .ref hMod, .ref hHe1, .ref hHe2, .int vNow, .int vEr, .int 0, .int vMo, .int vFa, .int vRe]))] s.heap.size = A at hD ⊢
  have hA : ∀ q : Nat, s.heap.size ≤ q → A q := fun q h => by rw [← hAe]; exact Or.inr h
  have hS : va_S A s.heap s.heap [] := va_S.rf
  have hP : va_P (dC, dI) vwCl [(h0, .inr (8, [.ref hRows, .ref hMer, .ref hEra, .ref hTape, .ref hRea, .ref hTra, .ref hWor, .ref hPla, .ref hMod, .ref hHe1, .ref hHe2, .int vNow, .int vEr, .int 0, .int vMo, .int vFa, .int vRe]))] s.heap := hP
  have hIX8 : ∀ w ∈ u_ws RX8 TX8 17, w ∈ wsX8_traitAt := by decide +kernel
  have hl := lv_entry ([.ref h0, .int a]) (n := 2) (Nat.le_of_ble_eq_true rfl)
  rw [lg_entry_eq]
  generalize (lg_sl ([.ref h0, .int a]) ++ List.replicate (2 - (lg_sl ([.ref h0, .int a])).length) Slot.unset).toArray = ls at hl ⊢
  have hl : lv_has ls 2 [(0, .ref h0), (1, .int a)] := hl
  refine lv_iload_n hx hb dX8_traitAt_0 rfl (lv_at hl 1 rfl) ?_
  refine lv_if_lt (tgt := 21) hx hb dX8_traitAt_1 (by decide) (fun c_1 => ?_) (fun c_1 => ?_)
  · have dc_1 : a.toInt < 0 := jI_lt c_1 rfl (by decide)
    refine lv_null hx hb dX8_traitAt_21 ?_
    have hP9 := hP.sub (ws' := [(h0, .inr (8, [.ref hRows, .ref hMer, .ref hEra, .ref hTape, .ref hRea, .ref hTra, .ref hWor, .ref hPla, .ref hMod, .ref hHe1, .ref hHe2, .int vNow, .int vEr, .int 0, .int vMo, .int vFa, .int vRe]))]) [0] rfl
    have hD9 := hD.sub (ws' := [(h0, .inr (8, [.ref hRows, .ref hMer, .ref hEra, .ref hTape, .ref hRea, .ref hTra, .ref hWor, .ref hPla, .ref hMod, .ref hHe1, .ref hHe2, .int vNow, .int vEr, .int 0, .int vMo, .int vFa, .int vRe]))]) [0] (by decide) rfl
    have hK9 := hK.sub (tys' := []) [] rfl
    exact W.aret hx hb hr (Or.inl ⟨_, rfl⟩) (Or.inl rfl) (fun t ht hW => ⟨⟨none, (), rfl, rfl, by rw [ht]; exact hP9, va_K.moved hW.alike hK9, hD9⟩, hS.F ht⟩) hS.2.2 dX8_traitAt_22
  · have dc_1 : 0 ≤ a.toInt := jI_nlt c_1 rfl (by decide)
    refine lv_iload_n hx hb dX8_traitAt_4 rfl (lv_at hl 1 rfl) ?_
    refine lv_aload_n hx hb dX8_traitAt_5 rfl (lv_at hl 0 rfl) ?_
    refine va_get (D := (dC, dI)) (ci := 8) (v := .int 0) (C := RX8) (T := TX8) (N := 17) hx hb hts hIX8 hown hK hP 0 rfl rfl 13 (by decide) (hts (.fieldLink RX8 148 "TraitHouse" "traitsThere" "I") (by decide +kernel)) (fun _ h9 => h9) rfl dX8_traitAt_6 ?_
    refine lv_icmp_ge (tgt := 21) hx hb dX8_traitAt_9 (by decide) (fun c_2 => ?_) (fun c_2 => ?_)
    · have dc_2 : 0 ≤ a.toInt := jI_le c_2 (by decide) rfl
      refine lv_null hx hb dX8_traitAt_21 ?_
      have hP9 := hP.sub (ws' := [(h0, .inr (8, [.ref hRows, .ref hMer, .ref hEra, .ref hTape, .ref hRea, .ref hTra, .ref hWor, .ref hPla, .ref hMod, .ref hHe1, .ref hHe2, .int vNow, .int vEr, .int 0, .int vMo, .int vFa, .int vRe]))]) [0] rfl
      have hD9 := hD.sub (ws' := [(h0, .inr (8, [.ref hRows, .ref hMer, .ref hEra, .ref hTape, .ref hRea, .ref hTra, .ref hWor, .ref hPla, .ref hMod, .ref hHe1, .ref hHe2, .int vNow, .int vEr, .int 0, .int vMo, .int vFa, .int vRe]))]) [0] (by decide) rfl
      have hK9 := hK.sub (tys' := []) [] rfl
      exact W.aret hx hb hr (Or.inl ⟨_, rfl⟩) (Or.inl rfl) (fun t ht hW => ⟨⟨none, (), rfl, rfl, by rw [ht]; exact hP9, va_K.moved hW.alike hK9, hD9⟩, hS.F ht⟩) hS.2.2 dX8_traitAt_22
    · have dc_2 : a.toInt < 0 := jI_nle c_2 (by decide) rfl
      exfalso; omega

set_option maxHeartbeats 4000000 in
set_option maxRecDepth 100000 in
theorem c_X8_isModel (l : Launch) (dC : Nat → ClassId) (dI : Nat → Nat → Nat) (sz : Nat) (h0 : Nat) (hRows : Nat) (hMer : Nat) (hEra : Nat) (hTape : Nat) (hRea : Nat) (hTra : Nat) (hWor : Nat) (hPla : Nat) (hMod : Nat) (hHe1 : Nat) (hHe2 : Nat) (a : Int32)  : Met l yX8_isModel wsX8_isModel ({ frames := 0, cells := 0, slots := 0, locals := 0 }) (va_Pc [.ref h0, .int a] (fun U => U.heap.size = sz ∧ va_P (dC, dI) vwCl [(h0, .inr (8, [.ref hRows, .ref hMer, .ref hEra, .ref hTape, .ref hRea, .ref hTra, .ref hWor, .ref hPla, .ref hMod, .ref hHe1, .ref hHe2, .int 0, .int 0, .int 0, .int 0, .int (-1), .int 0]))] U.heap ∧ va_K (dC, dI) vwCl [] U ∧ va_D (fun _ => True) [(h0, .inr (8, [.ref hRows, .ref hMer, .ref hEra, .ref hTape, .ref hRea, .ref hTra, .ref hWor, .ref hPla, .ref hMod, .ref hHe1, .ref hHe2, .int 0, .int 0, .int 0, .int 0, .int (-1), .int 0]))] ∧ nw_ok U)) (va_Qi (fun (r : Int32) (_ : Unit) => r = 0) (fun (_ : Unit) (t : State) => va_P (dC, dI) vwCl [(h0, .inr (8, [.ref hRows, .ref hMer, .ref hEra, .ref hTape, .ref hRea, .ref hTra, .ref hWor, .ref hPla, .ref hMod, .ref hHe1, .ref hHe2, .int 0, .int 0, .int 0, .int 0, .int (-1), .int 0]))] t.heap ∧ va_K (dC, dI) vwCl [] t ∧ va_D (va_A [(h0, .inr (8, [.ref hRows, .ref hMer, .ref hEra, .ref hTape, .ref hRea, .ref hTra, .ref hWor, .ref hPla, .ref hMod, .ref hHe1, .ref hHe2, .int 0, .int 0, .int 0, .int 0, .int (-1), .int 0]))] sz) [(h0, .inr (8, [.ref hRows, .ref hMer, .ref hEra, .ref hTape, .ref hRea, .ref hTra, .ref hWor, .ref hPla, .ref hMod, .ref hHe1, .ref hHe2, .int 0, .int 0, .int 0, .int 0, .int (-1), .int 0]))]) (va_A [(h0, .inr (8, [.ref hRows, .ref hMer, .ref hEra, .ref hTape, .ref hRea, .ref hTra, .ref hWor, .ref hPla, .ref hMod, .ref hHe1, .ref hHe2, .int 0, .int 0, .int 0, .int 0, .int (-1), .int 0]))] sz)) 0 0 (va_A [(h0, .inr (8, [.ref hRows, .ref hMer, .ref hEra, .ref hTape, .ref hRea, .ref hTra, .ref hWor, .ref hPla, .ref hMod, .ref hHe1, .ref hHe2, .int 0, .int 0, .int 0, .int 0, .int (-1), .int 0]))] sz) := by
  refine Met.ofW (cc := cX8_isModel) (maxL := 2) (ret := (some .boolean)) (by decide) rfl ?_
  intro p e s m args below meth c s₁ B hml hv
  obtain ⟨rfl, hsz, hP, hK, hD0, hN⟩ := hv
  have hx := B.exec
  have hb := B.bytes
  have hr := B.returns
  have hts := atoms_spec (ws := wsX8_isModel) B.pre
  have hown : s.vm.findClass RX8 = some m.cls := findClass_of_methodNamed B.named
  have hlocks := B.notSynchronized
  subst hsz
  have hD := hD0.self (sz := s.heap.size)
  generalize hAe : va_A [(h0, .inr (8, [.ref hRows, .ref hMer, .ref hEra, .ref hTape, .ref hRea, .ref hTra, .ref hWor, .ref hPla, .ref hMod, .ref hHe1, .ref hHe2, .int 0, .int 0, .int 0, .int 0, .int (-1), .int 0]))] s.heap.size = A at hD ⊢
  have hA : ∀ q : Nat, s.heap.size ≤ q → A q := fun q h => by rw [← hAe]; exact Or.inr h
  have hS : va_S A s.heap s.heap [] := va_S.rf
  have hP : va_P (dC, dI) vwCl [(h0, .inr (8, [.ref hRows, .ref hMer, .ref hEra, .ref hTape, .ref hRea, .ref hTra, .ref hWor, .ref hPla, .ref hMod, .ref hHe1, .ref hHe2, .int 0, .int 0, .int 0, .int 0, .int (-1), .int 0]))] s.heap := hP
  have hIX8 : ∀ w ∈ u_ws RX8 TX8 17, w ∈ wsX8_isModel := by decide +kernel
  have hl := lv_entry ([.ref h0, .int a]) (n := 2) (Nat.le_of_ble_eq_true rfl)
  rw [lg_entry_eq]
  generalize (lg_sl ([.ref h0, .int a]) ++ List.replicate (2 - (lg_sl ([.ref h0, .int a])).length) Slot.unset).toArray = ls at hl ⊢
  have hl : lv_has ls 2 [(0, .ref h0), (1, .int a)] := hl
  refine lv_iload_n hx hb dX8_isModel_0 rfl (lv_at hl 1 rfl) ?_
  refine lv_if_lt (tgt := 16) hx hb dX8_isModel_1 (by decide) (fun c_1 => ?_) (fun c_1 => ?_)
  · have dc_1 : a.toInt < 0 := jI_lt c_1 rfl (by decide)
    refine lv_iconst (v := 0) hx hb dX8_isModel_16 (by decide) ?_
    have hP9 := hP.sub (ws' := [(h0, .inr (8, [.ref hRows, .ref hMer, .ref hEra, .ref hTape, .ref hRea, .ref hTra, .ref hWor, .ref hPla, .ref hMod, .ref hHe1, .ref hHe2, .int 0, .int 0, .int 0, .int 0, .int (-1), .int 0]))]) [0] rfl
    have hD9 := hD.sub (ws' := [(h0, .inr (8, [.ref hRows, .ref hMer, .ref hEra, .ref hTape, .ref hRea, .ref hTra, .ref hWor, .ref hPla, .ref hMod, .ref hHe1, .ref hHe2, .int 0, .int 0, .int 0, .int 0, .int (-1), .int 0]))]) [0] (by decide) rfl
    have hK9 := hK.sub (tys' := []) [] rfl
    exact W.zret (v := 0) hx hb hr (by decide) (fun t ht hW => ⟨⟨0, (), rfl, rfl, by rw [ht]; exact hP9, va_K.moved hW.alike hK9, hD9⟩, hS.F ht⟩) hS.2.2 dX8_isModel_17
  · have dc_1 : 0 ≤ a.toInt := jI_nlt c_1 rfl (by decide)
    refine lv_iload_n hx hb dX8_isModel_4 rfl (lv_at hl 1 rfl) ?_
    refine lv_aload_n hx hb dX8_isModel_5 rfl (lv_at hl 0 rfl) ?_
    refine va_get (D := (dC, dI)) (ci := 8) (v := .int 0) (C := RX8) (T := TX8) (N := 17) hx hb hts hIX8 hown hK hP 0 rfl rfl 14 (by decide) (hts (.fieldLink RX8 250 "TraitHouse" "modelsThere" "I") (by decide +kernel)) (fun _ h9 => h9) rfl dX8_isModel_6 ?_
    refine lv_icmp_ge (tgt := 16) hx hb dX8_isModel_9 (by decide) (fun c_2 => ?_) (fun c_2 => ?_)
    · have dc_2 : 0 ≤ a.toInt := jI_le c_2 (by decide) rfl
      refine lv_iconst (v := 0) hx hb dX8_isModel_16 (by decide) ?_
      have hP9 := hP.sub (ws' := [(h0, .inr (8, [.ref hRows, .ref hMer, .ref hEra, .ref hTape, .ref hRea, .ref hTra, .ref hWor, .ref hPla, .ref hMod, .ref hHe1, .ref hHe2, .int 0, .int 0, .int 0, .int 0, .int (-1), .int 0]))]) [0] rfl
      have hD9 := hD.sub (ws' := [(h0, .inr (8, [.ref hRows, .ref hMer, .ref hEra, .ref hTape, .ref hRea, .ref hTra, .ref hWor, .ref hPla, .ref hMod, .ref hHe1, .ref hHe2, .int 0, .int 0, .int 0, .int 0, .int (-1), .int 0]))]) [0] (by decide) rfl
      have hK9 := hK.sub (tys' := []) [] rfl
      exact W.zret (v := 0) hx hb hr (by decide) (fun t ht hW => ⟨⟨0, (), rfl, rfl, by rw [ht]; exact hP9, va_K.moved hW.alike hK9, hD9⟩, hS.F ht⟩) hS.2.2 dX8_isModel_17
    · have dc_2 : a.toInt < 0 := jI_nle c_2 (by decide) rfl
      exfalso; omega

set_option maxHeartbeats 4000000 in
set_option maxRecDepth 100000 in
theorem c_X8_now (l : Launch) (dC : Nat → ClassId) (dI : Nat → Nat → Nat) (sz : Nat) (h0 : Nat) (hRows : Nat) (hMer : Nat) (hEra : Nat) (hTape : Nat) (hRea : Nat) (hTra : Nat) (hWor : Nat) (hPla : Nat) (hMod : Nat) (hHe1 : Nat) (hHe2 : Nat) (a : Int32)  : Met l yX8_now wsX8_now ({ frames := 2, cells := 0, slots := 0, locals := 42 }) (va_Pc [.ref h0, .int a] (fun U => U.heap.size = sz ∧ va_P (dC, dI) vwCl [(h0, .inr (8, [.ref hRows, .ref hMer, .ref hEra, .ref hTape, .ref hRea, .ref hTra, .ref hWor, .ref hPla, .ref hMod, .ref hHe1, .ref hHe2, .int 0, .int 0, .int 0, .int 0, .int (-1), .int 0]))] U.heap ∧ va_K (dC, dI) vwCl [] U ∧ va_D (fun _ => True) [(h0, .inr (8, [.ref hRows, .ref hMer, .ref hEra, .ref hTape, .ref hRea, .ref hTra, .ref hWor, .ref hPla, .ref hMod, .ref hHe1, .ref hHe2, .int 0, .int 0, .int 0, .int 0, .int (-1), .int 0]))] ∧ nw_ok U)) (va_Qi (fun (r : Int32) (_ : Unit) => (0 ≤ a.toInt ∧ a.toInt ≤ 100000 → r.toInt = 0) ∧ (¬ (0 ≤ a.toInt ∧ a.toInt ≤ 100000) → r.toInt = (-1))) (fun (_ : Unit) (t : State) => True) (va_A [(h0, .inr (8, [.ref hRows, .ref hMer, .ref hEra, .ref hTape, .ref hRea, .ref hTra, .ref hWor, .ref hPla, .ref hMod, .ref hHe1, .ref hHe2, .int 0, .int 0, .int 0, .int 0, .int (-1), .int 0]))] sz)) 0 0 (va_A [(h0, .inr (8, [.ref hRows, .ref hMer, .ref hEra, .ref hTape, .ref hRea, .ref hTra, .ref hWor, .ref hPla, .ref hMod, .ref hHe1, .ref hHe2, .int 0, .int 0, .int 0, .int 0, .int (-1), .int 0]))] sz) := by
  refine Met.ofW (cc := cX8_now) (maxL := 2) (ret := (some .int)) (by decide) rfl ?_
  intro p e s m args below meth c s₁ B hml hv
  obtain ⟨rfl, hsz, hP, hK, hD0, hN⟩ := hv
  have hx := B.exec
  have hb := B.bytes
  have hr := B.returns
  have hts := atoms_spec (ws := wsX8_now) B.pre
  have hown : s.vm.findClass RX8 = some m.cls := findClass_of_methodNamed B.named
  have hlocks := B.notSynchronized
  subst hsz
  have hD := hD0.self (sz := s.heap.size)
  generalize hAe : va_A [(h0, .inr (8, [.ref hRows, .ref hMer, .ref hEra, .ref hTape, .ref hRea, .ref hTra, .ref hWor, .ref hPla, .ref hMod, .ref hHe1, .ref hHe2, .int 0, .int 0, .int 0, .int 0, .int (-1), .int 0]))] s.heap.size = A at hD ⊢
  have hA : ∀ q : Nat, s.heap.size ≤ q → A q := fun q h => by rw [← hAe]; exact Or.inr h
  have hS : va_S A s.heap s.heap [] := va_S.rf
  have hP : va_P (dC, dI) vwCl [(h0, .inr (8, [.ref hRows, .ref hMer, .ref hEra, .ref hTape, .ref hRea, .ref hTra, .ref hWor, .ref hPla, .ref hMod, .ref hHe1, .ref hHe2, .int 0, .int 0, .int 0, .int 0, .int (-1), .int 0]))] s.heap := hP
  have hIX8 : ∀ w ∈ u_ws RX8 TX8 17, w ∈ wsX8_now := by decide +kernel
  have hl := lv_entry ([.ref h0, .int a]) (n := 2) (Nat.le_of_ble_eq_true rfl)
  rw [lg_entry_eq]
  generalize (lg_sl ([.ref h0, .int a]) ++ List.replicate (2 - (lg_sl ([.ref h0, .int a])).length) Slot.unset).toArray = ls at hl ⊢
  have hl : lv_has ls 2 [(0, .ref h0), (1, .int a)] := hl
  refine lv_iload_n hx hb dX8_now_0 rfl (lv_at hl 1 rfl) ?_
  have hPc := hP.sub (ws' := []) [] rfl
  have hDc := hD.sub (ws' := []) [] (by decide) rfl
  have hKc := hK.sub (tys' := []) [] rfl
  have hFc := va_free (wc := []) hD hS hA [] rfl
  refine va_calli (va_runS (As := [.int a]) (rest := []) ⟨hx, hb, hml, hown, hts⟩ (c_X8_isMoment l dC dI s.heap.size a ) (va_cwS 1 hts gX8_now_X8_isMoment rfl rfl rfl (by decide +kernel) ⟨Nat.le_of_ble_eq_true rfl, Nat.le_of_ble_eq_true rfl⟩) ⟨fun a U g mk q => by obtain ⟨q0, q1, qP, qK, qD, qN⟩ := q; exact ⟨q0, q1, qP, va_K.moved (u := U) (U := U.calling g mk a) (Vm.Alike.refl U.vm) qK, qD, qN.same rfl⟩, fun U hU hW => ⟨rfl, by rw [hU], by rw [hU]; exact hPc, va_K.moved hW.alike hKc, hDc.weaken (fun _ _ _ _ => trivial), hN.warm hW⟩⟩ rfl rfl hl.1 rfl (lv_room (Nat.le_of_ble_eq_true rfl)) dX8_now_1 ⟨Nat.le_of_ble_eq_true rfl, Nat.le_of_ble_eq_true rfl⟩) hS (fun q _ h => hFc q h) hFc (fun r_1 u_2 t H1 locs ht hvm hw_3 hB hz1 hk1 hS => ?_)
  try dsimp only at hw_3
  obtain ⟨hP1, hK1, hD1⟩ := hB
  rw [ht] at hP1
  have hK1 := va_K.moved hvm.symm hK1
  obtain ⟨hP, hD⟩ := va_join (wr := [(h0, .inr (8, [.ref hRows, .ref hMer, .ref hEra, .ref hTape, .ref hRea, .ref hTra, .ref hWor, .ref hPla, .ref hMod, .ref hHe1, .ref hHe2, .int 0, .int 0, .int 0, .int 0, .int (-1), .int 0]))]) (w1 := []) hP hD [] [0] rfl rfl (by decide) (by decide) hk1 hFc hP1 hD1
  have hK := (hK.sub (tys' := []) [] rfl).app hK1
  generalize H1 = H at hP hS ⊢
  have hP : va_P (dC, dI) vwCl [(h0, .inr (8, [.ref hRows, .ref hMer, .ref hEra, .ref hTape, .ref hRea, .ref hTra, .ref hWor, .ref hPla, .ref hMod, .ref hHe1, .ref hHe2, .int 0, .int 0, .int 0, .int 0, .int (-1), .int 0]))] H := hP
  have hD : va_D A [(h0, .inr (8, [.ref hRows, .ref hMer, .ref hEra, .ref hTape, .ref hRea, .ref hTra, .ref hWor, .ref hPla, .ref hMod, .ref hHe1, .ref hHe2, .int 0, .int 0, .int 0, .int 0, .int (-1), .int 0]))] := hD
  have hK : va_K (dC, dI) vwCl [] s := hK
  refine lv_if_eq (tgt := 15) hx hb dX8_now_4 (by decide) (fun c_4 => ?_) (fun c_4 => ?_)
  · have dc_4 : r_1.toInt = 0 := jI_eq c_4 rfl (by decide)
    refine lv_aload_n hx hb dX8_now_15 rfl (lv_at hl 0 rfl) ?_
    refine lv_iconst (v := (-1)) hx hb dX8_now_16 (by decide) ?_
    have hk_5 : ((-1) : Int32).toInt = (-1) := by decide
    have hk_6 : (0 : Int32).toInt = 0 := by decide
    have hPc := hP.sub (ws' := [(h0, .inr (8, [.ref hRows, .ref hMer, .ref hEra, .ref hTape, .ref hRea, .ref hTra, .ref hWor, .ref hPla, .ref hMod, .ref hHe1, .ref hHe2, .int 0, .int 0, .int 0, .int 0, .int (-1), .int 0]))]) [0] rfl
    have hDc := hD.sub (ws' := [(h0, .inr (8, [.ref hRows, .ref hMer, .ref hEra, .ref hTape, .ref hRea, .ref hTra, .ref hWor, .ref hPla, .ref hMod, .ref hHe1, .ref hHe2, .int 0, .int 0, .int 0, .int 0, .int (-1), .int 0]))]) [0] (by decide) rfl
    have hKc := hK.sub (tys' := []) [] rfl
    have hFc := va_free (wc := [(h0, .inr (8, [.ref hRows, .ref hMer, .ref hEra, .ref hTape, .ref hRea, .ref hTra, .ref hWor, .ref hPla, .ref hMod, .ref hHe1, .ref hHe2, .int 0, .int 0, .int 0, .int 0, .int (-1), .int 0]))]) hD hS hA [0] rfl
    refine va_calli (va_runV (As := [.int (-1)]) (rest := []) ⟨hx, hb, hml, hown, hts⟩ (c_X8_settle l dC dI H.size h0 hRows hMer hEra hTape hRea hTra hWor hPla hMod hHe1 hHe2 0 0 0 0 (-1) 0 (-1) ) (cwV 1 hts gX8_now_X8_settle rfl rfl rfl (by decide +kernel) ⟨Nat.le_of_ble_eq_true rfl, Nat.le_of_ble_eq_true rfl⟩) ⟨fun a U g mk q => by obtain ⟨q0, q1, qP, qK, qD, qN⟩ := q; exact ⟨q0, q1, qP, va_K.moved (u := U) (U := U.calling g mk a) (Vm.Alike.refl U.vm) qK, qD, qN.same rfl⟩, va_recv hKc hPc (ci := 8) (q0 := 0) rfl rfl, fun U hU hW => ⟨rfl, by rw [hU], by rw [hU]; exact hPc, va_K.moved hW.alike hKc, hDc.weaken (fun _ _ _ _ => trivial), hN.warm hW⟩⟩ rfl rfl hl.1 rfl (lv_room (Nat.le_of_ble_eq_true rfl)) dX8_now_17 ⟨Nat.le_of_ble_eq_true rfl, Nat.le_of_ble_eq_true rfl⟩) hS (fun q _ h => hFc q h) hFc (fun r_7 u_8 t H1 locs ht hvm hw_9 hB hz1 hk1 hS => ?_)
    obtain ⟨w_10, rfl⟩ : ∃ z, z = u_8 := ⟨_, rfl⟩
    try dsimp only at hw_9
    obtain ⟨hP1, hK1, hD1⟩ := hB
    rw [ht] at hP1
    have hK1 := va_K.moved hvm.symm hK1
    obtain ⟨hP, hD⟩ := va_join (wr := []) (w1 := [(h0, .inr (8, [.ref hRows, .ref hMer, .ref hEra, .ref hTape, .ref hRea, .ref hTra, .ref hWor, .ref hPla, .ref hMod, .ref hHe1, .ref hHe2, .int 0, .int 0, .int 0, .int 0, .int (-1), .int w_10]))]) hP hD [0] [] rfl rfl (by decide) (by decide) hk1 hFc hP1 hD1
    have hK := (hK.sub (tys' := []) [] rfl).app hK1
    generalize H1 = H at hP hS ⊢
    have hP : va_P (dC, dI) vwCl [(h0, .inr (8, [.ref hRows, .ref hMer, .ref hEra, .ref hTape, .ref hRea, .ref hTra, .ref hWor, .ref hPla, .ref hMod, .ref hHe1, .ref hHe2, .int 0, .int 0, .int 0, .int 0, .int (-1), .int w_10]))] H := hP
    have hD : va_D A [(h0, .inr (8, [.ref hRows, .ref hMer, .ref hEra, .ref hTape, .ref hRea, .ref hTra, .ref hWor, .ref hPla, .ref hMod, .ref hHe1, .ref hHe2, .int 0, .int 0, .int 0, .int 0, .int (-1), .int w_10]))] := hD
    have hK : va_K (dC, dI) vwCl [] s := hK
    obtain rfl : (-1) = r_7 := hw_9.symm
    have hans : ((-1) : Int32).toInt = (-1) := (by decide)
    exact W.iret (v := (-1)) hx hb hr (fun t ht hW => ⟨⟨(-1), (), rfl, by first | omega | (dsimp only; omega), trivial⟩, hS.F ht⟩) hS.2.2 dX8_now_20
  · have dc_4 : ¬ r_1.toInt = 0 := jI_ne c_4 rfl (by decide)
    refine lv_iload_n hx hb dX8_now_7 rfl (lv_at hl 1 rfl) ?_
    refine lv_aload_n hx hb dX8_now_8 rfl (lv_at hl 0 rfl) ?_
    refine va_get (D := (dC, dI)) (ci := 8) (v := .int 0) (C := RX8) (T := TX8) (N := 17) hx hb hts hIX8 hown hK hP 0 rfl rfl 11 (by decide) (hts (.fieldLink RX8 83 "TraitHouse" "now" "I") (by decide +kernel)) (fun _ h9 => h9) rfl dX8_now_9 ?_
    refine lv_icmp_ge (tgt := 21) hx hb dX8_now_12 (by decide) (fun c_11 => ?_) (fun c_11 => ?_)
    · have dc_11 : 0 ≤ a.toInt := jI_le c_11 (by decide) rfl
      refine lv_aload_n hx hb dX8_now_21 rfl (lv_at hl 0 rfl) ?_
      refine lv_iload_n hx hb dX8_now_22 rfl (lv_at hl 1 rfl) ?_
      refine va_put (D := (dC, dI)) (ci := 8) (v := .int a) (ty := .int) (C := RX8) (T := TX8) (N := 17) hx hb hts hIX8 tyX8 tyX8_ok nmX8 hown hK hP hD hS 0 rfl rfl 11 (by decide) (hts (.fieldLink RX8 83 "TraitHouse" "now" "I") (by decide +kernel)) (fun _ h9 => h9) rfl (by decide +kernel) rfl rfl (Nat.le_of_ble_eq_true rfl) dX8_now_23 (fun H locs hP hD hS => ?_)
      have hP : va_P (dC, dI) vwCl [(h0, .inr (8, [.ref hRows, .ref hMer, .ref hEra, .ref hTape, .ref hRea, .ref hTra, .ref hWor, .ref hPla, .ref hMod, .ref hHe1, .ref hHe2, .int a, .int 0, .int 0, .int 0, .int (-1), .int 0]))] H := hP
      have hD : va_D A [(h0, .inr (8, [.ref hRows, .ref hMer, .ref hEra, .ref hTape, .ref hRea, .ref hTra, .ref hWor, .ref hPla, .ref hMod, .ref hHe1, .ref hHe2, .int a, .int 0, .int 0, .int 0, .int (-1), .int 0]))] := hD
      refine lv_aload_n hx hb dX8_now_26 rfl (lv_at hl 0 rfl) ?_
      refine lv_iconst (v := 0) hx hb dX8_now_27 (by decide) ?_
      have hk_12 : (0 : Int32).toInt = 0 := by decide
      have hk_13 : ((-1) : Int32).toInt = (-1) := by decide
      have hPc := hP.sub (ws' := [(h0, .inr (8, [.ref hRows, .ref hMer, .ref hEra, .ref hTape, .ref hRea, .ref hTra, .ref hWor, .ref hPla, .ref hMod, .ref hHe1, .ref hHe2, .int a, .int 0, .int 0, .int 0, .int (-1), .int 0]))]) [0] rfl
      have hDc := hD.sub (ws' := [(h0, .inr (8, [.ref hRows, .ref hMer, .ref hEra, .ref hTape, .ref hRea, .ref hTra, .ref hWor, .ref hPla, .ref hMod, .ref hHe1, .ref hHe2, .int a, .int 0, .int 0, .int 0, .int (-1), .int 0]))]) [0] (by decide) rfl
      have hKc := hK.sub (tys' := []) [] rfl
      have hFc := va_free (wc := [(h0, .inr (8, [.ref hRows, .ref hMer, .ref hEra, .ref hTape, .ref hRea, .ref hTra, .ref hWor, .ref hPla, .ref hMod, .ref hHe1, .ref hHe2, .int a, .int 0, .int 0, .int 0, .int (-1), .int 0]))]) hD hS hA [0] rfl
      refine va_calli (va_runV (As := [.int 0]) (rest := []) ⟨hx, hb, hml, hown, hts⟩ (c_X8_settle l dC dI H.size h0 hRows hMer hEra hTape hRea hTra hWor hPla hMod hHe1 hHe2 a 0 0 0 (-1) 0 0 ) (cwV 1 hts gX8_now_X8_settle rfl rfl rfl (by decide +kernel) ⟨Nat.le_of_ble_eq_true rfl, Nat.le_of_ble_eq_true rfl⟩) ⟨fun a U g mk q => by obtain ⟨q0, q1, qP, qK, qD, qN⟩ := q; exact ⟨q0, q1, qP, va_K.moved (u := U) (U := U.calling g mk a) (Vm.Alike.refl U.vm) qK, qD, qN.same rfl⟩, va_recv hKc hPc (ci := 8) (q0 := 0) rfl rfl, fun U hU hW => ⟨rfl, by rw [hU], by rw [hU]; exact hPc, va_K.moved hW.alike hKc, hDc.weaken (fun _ _ _ _ => trivial), hN.warm hW⟩⟩ rfl rfl hl.1 rfl (lv_room (Nat.le_of_ble_eq_true rfl)) dX8_now_28 ⟨Nat.le_of_ble_eq_true rfl, Nat.le_of_ble_eq_true rfl⟩) hS (fun q _ h => hFc q h) hFc (fun r_14 u_15 t H1 locs ht hvm hw_16 hB hz1 hk1 hS => ?_)
      obtain ⟨w_17, rfl⟩ : ∃ z, z = u_15 := ⟨_, rfl⟩
      try dsimp only at hw_16
      obtain ⟨hP1, hK1, hD1⟩ := hB
      rw [ht] at hP1
      have hK1 := va_K.moved hvm.symm hK1
      obtain ⟨hP, hD⟩ := va_join (wr := []) (w1 := [(h0, .inr (8, [.ref hRows, .ref hMer, .ref hEra, .ref hTape, .ref hRea, .ref hTra, .ref hWor, .ref hPla, .ref hMod, .ref hHe1, .ref hHe2, .int a, .int 0, .int 0, .int 0, .int (-1), .int w_17]))]) hP hD [0] [] rfl rfl (by decide) (by decide) hk1 hFc hP1 hD1
      have hK := (hK.sub (tys' := []) [] rfl).app hK1
      generalize H1 = H at hP hS ⊢
      have hP : va_P (dC, dI) vwCl [(h0, .inr (8, [.ref hRows, .ref hMer, .ref hEra, .ref hTape, .ref hRea, .ref hTra, .ref hWor, .ref hPla, .ref hMod, .ref hHe1, .ref hHe2, .int a, .int 0, .int 0, .int 0, .int (-1), .int w_17]))] H := hP
      have hD : va_D A [(h0, .inr (8, [.ref hRows, .ref hMer, .ref hEra, .ref hTape, .ref hRea, .ref hTra, .ref hWor, .ref hPla, .ref hMod, .ref hHe1, .ref hHe2, .int a, .int 0, .int 0, .int 0, .int (-1), .int w_17]))] := hD
      have hK : va_K (dC, dI) vwCl [] s := hK
      obtain rfl : 0 = r_14 := hw_16.symm
      have hans : (0 : Int32).toInt = 0 := (by decide)
      exact W.iret (v := 0) hx hb hr (fun t ht hW => ⟨⟨0, (), rfl, by first | omega | (dsimp only; omega), trivial⟩, hS.F ht⟩) hS.2.2 dX8_now_31
    · have dc_11 : a.toInt < 0 := jI_nle c_11 (by decide) rfl
      exfalso; omega
end
section
theorem dX3_isFull_0 : decode cX3_isFull 0 = .ok (.aload_n 0, 1) := by decide +kernel
theorem dX3_isFull_1 : decode cX3_isFull 1 = .ok (.getfield 27, 3) := by decide +kernel
theorem dX3_isFull_4 : decode cX3_isFull 4 = .ok (.sipush 400, 3) := by decide +kernel
theorem dX3_isFull_7 : decode cX3_isFull 7 = .ok (.if_icmp .lt 7, 3) := by decide +kernel
theorem dX3_isFull_14 : decode cX3_isFull 14 = .ok (.iconst 0, 1) := by decide +kernel
theorem dX3_isFull_15 : decode cX3_isFull 15 = .ok (.ireturn, 1) := by decide +kernel
theorem dX3_add_0 : decode cX3_add 0 = .ok (.aload_n 0, 1) := by decide +kernel
set_option maxRecDepth 20000 in
theorem ggX3_add_X3_isFull : GoodIn wsX3_add wsX3_isFull := goodIn_r _ [12, 2, 13, 14, 15, 16, 17, 18, 19] (by decide +kernel) (by decide +kernel)
set_option maxRecDepth 20000 in
theorem gX3_add_X3_isFull : GoodIn wsX3_add (wsV RX3 31 RX3 yX3_isFull wsX3_isFull) := goodIn_app (goodIn_of _ (by decide +kernel)) ggX3_add_X3_isFull
theorem dX3_add_1 : decode cX3_add 1 = .ok (.invokevirtual 31, 3) := by decide +kernel
theorem dX3_add_4 : decode cX3_add 4 = .ok (.ifCond .eq 6, 3) := by decide +kernel
theorem dX3_add_10 : decode cX3_add 10 = .ok (.aload_n 0, 1) := by decide +kernel
theorem dX3_add_11 : decode cX3_add 11 = .ok (.getfield 9, 3) := by decide +kernel
theorem dX3_add_14 : decode cX3_add 14 = .ok (.aload_n 0, 1) := by decide +kernel
theorem dX3_add_15 : decode cX3_add 15 = .ok (.getfield 27, 3) := by decide +kernel
theorem dX3_add_18 : decode cX3_add 18 = .ok (.iload_n 1, 1) := by decide +kernel
theorem dX3_add_19 : decode cX3_add 19 = .ok (.iastore, 1) := by decide +kernel
theorem dX3_add_20 : decode cX3_add 20 = .ok (.aload_n 0, 1) := by decide +kernel
theorem dX3_add_21 : decode cX3_add 21 = .ok (.getfield 15, 3) := by decide +kernel
theorem dX3_add_24 : decode cX3_add 24 = .ok (.aload_n 0, 1) := by decide +kernel
theorem dX3_add_25 : decode cX3_add 25 = .ok (.getfield 27, 3) := by decide +kernel
theorem dX3_add_28 : decode cX3_add 28 = .ok (.iload_n 2, 1) := by decide +kernel
theorem dX3_add_29 : decode cX3_add 29 = .ok (.iastore, 1) := by decide +kernel
theorem dX3_add_30 : decode cX3_add 30 = .ok (.aload_n 0, 1) := by decide +kernel
theorem dX3_add_31 : decode cX3_add 31 = .ok (.getfield 18, 3) := by decide +kernel
theorem dX3_add_34 : decode cX3_add 34 = .ok (.aload_n 0, 1) := by decide +kernel
theorem dX3_add_35 : decode cX3_add 35 = .ok (.getfield 27, 3) := by decide +kernel
theorem dX3_add_38 : decode cX3_add 38 = .ok (.iload_n 3, 1) := by decide +kernel
theorem dX3_add_39 : decode cX3_add 39 = .ok (.iastore, 1) := by decide +kernel
theorem dX3_add_40 : decode cX3_add 40 = .ok (.aload_n 0, 1) := by decide +kernel
theorem dX3_add_41 : decode cX3_add 41 = .ok (.getfield 21, 3) := by decide +kernel
theorem dX3_add_44 : decode cX3_add 44 = .ok (.aload_n 0, 1) := by decide +kernel
theorem dX3_add_45 : decode cX3_add 45 = .ok (.getfield 27, 3) := by decide +kernel
theorem dX3_add_48 : decode cX3_add 48 = .ok (.iload 4, 2) := by decide +kernel
theorem dX3_add_50 : decode cX3_add 50 = .ok (.iastore, 1) := by decide +kernel
theorem dX3_add_51 : decode cX3_add 51 = .ok (.aload_n 0, 1) := by decide +kernel
theorem dX3_add_52 : decode cX3_add 52 = .ok (.getfield 24, 3) := by decide +kernel
theorem dX3_add_55 : decode cX3_add 55 = .ok (.aload_n 0, 1) := by decide +kernel
theorem dX3_add_56 : decode cX3_add 56 = .ok (.getfield 27, 3) := by decide +kernel
theorem dX3_add_59 : decode cX3_add 59 = .ok (.iload 5, 2) := by decide +kernel
theorem dX3_add_61 : decode cX3_add 61 = .ok (.iastore, 1) := by decide +kernel
theorem dX3_add_62 : decode cX3_add 62 = .ok (.aload_n 0, 1) := by decide +kernel
theorem dX3_add_63 : decode cX3_add 63 = .ok (.dup, 1) := by decide +kernel
theorem dX3_add_64 : decode cX3_add 64 = .ok (.getfield 27, 3) := by decide +kernel
theorem dX3_add_67 : decode cX3_add 67 = .ok (.iconst 1, 1) := by decide +kernel
theorem dX3_add_68 : decode cX3_add 68 = .ok (.iadd, 1) := by decide +kernel
theorem dX3_add_69 : decode cX3_add 69 = .ok (.putfield 27, 3) := by decide +kernel
theorem dX3_add_72 : decode cX3_add 72 = .ok (.aload_n 0, 1) := by decide +kernel
theorem dX3_add_73 : decode cX3_add 73 = .ok (.dup, 1) := by decide +kernel
theorem dX3_add_74 : decode cX3_add 74 = .ok (.getfield 35, 3) := by decide +kernel
theorem dX3_add_77 : decode cX3_add 77 = .ok (.iconst 1, 1) := by decide +kernel
theorem dX3_add_78 : decode cX3_add 78 = .ok (.iadd, 1) := by decide +kernel
theorem dX3_add_79 : decode cX3_add 79 = .ok (.putfield 35, 3) := by decide +kernel
theorem dX3_add_82 : decode cX3_add 82 = .ok (.aload_n 0, 1) := by decide +kernel
theorem dX3_add_83 : decode cX3_add 83 = .ok (.getfield 35, 3) := by decide +kernel
theorem dX3_add_86 : decode cX3_add 86 = .ok (.iconst 1, 1) := by decide +kernel
theorem dX3_add_87 : decode cX3_add 87 = .ok (.isub, 1) := by decide +kernel
theorem dX3_add_88 : decode cX3_add 88 = .ok (.ireturn, 1) := by decide +kernel
theorem dX8_addRow_0 : decode cX8_addRow 0 = .ok (.iload_n 2, 1) := by decide +kernel
set_option maxRecDepth 20000 in
theorem ggX8_addRow_X8_isStream : GoodIn wsX8_addRow wsX8_isStream := goodIn_r _ [6] (by decide +kernel) (by decide +kernel)
set_option maxRecDepth 20000 in
theorem gX8_addRow_X8_isStream : GoodIn wsX8_addRow (va_wsS RX8 94 yX8_isStream wsX8_isStream) := goodIn_app (goodIn_of _ (by decide +kernel)) ggX8_addRow_X8_isStream
theorem dX8_addRow_1 : decode cX8_addRow 1 = .ok (.invokestatic 94, 3) := by decide +kernel
theorem dX8_addRow_4 : decode cX8_addRow 4 = .ok (.ifCond .eq 32, 3) := by decide +kernel
theorem dX8_addRow_36 : decode cX8_addRow 36 = .ok (.iconst (-1), 1) := by decide +kernel
theorem dX8_addRow_37 : decode cX8_addRow 37 = .ok (.ireturn, 1) := by decide +kernel
theorem dX8_addRow_7 : decode cX8_addRow 7 = .ok (.iload_n 3, 1) := by decide +kernel
set_option maxRecDepth 20000 in
theorem ggX8_addRow_X8_isMoment : GoodIn wsX8_addRow wsX8_isMoment := goodIn_r _ [9, 10] (by decide +kernel) (by decide +kernel)
set_option maxRecDepth 20000 in
theorem gX8_addRow_X8_isMoment : GoodIn wsX8_addRow (va_wsS RX8 79 yX8_isMoment wsX8_isMoment) := goodIn_app (goodIn_of _ (by decide +kernel)) ggX8_addRow_X8_isMoment
theorem dX8_addRow_8 : decode cX8_addRow 8 = .ok (.invokestatic 79, 3) := by decide +kernel
theorem dX8_addRow_11 : decode cX8_addRow 11 = .ok (.ifCond .eq 25, 3) := by decide +kernel
theorem dX8_addRow_14 : decode cX8_addRow 14 = .ok (.iload 4, 2) := by decide +kernel
theorem dX8_addRow_16 : decode cX8_addRow 16 = .ok (.invokestatic 79, 3) := by decide +kernel
theorem dX8_addRow_19 : decode cX8_addRow 19 = .ok (.ifCond .eq 17, 3) := by decide +kernel
theorem dX8_addRow_22 : decode cX8_addRow 22 = .ok (.iload 4, 2) := by decide +kernel
theorem dX8_addRow_24 : decode cX8_addRow 24 = .ok (.iload_n 3, 1) := by decide +kernel
theorem dX8_addRow_25 : decode cX8_addRow 25 = .ok (.if_icmp .lt 11, 3) := by decide +kernel
theorem dX8_addRow_28 : decode cX8_addRow 28 = .ok (.iload 5, 2) := by decide +kernel
set_option maxRecDepth 20000 in
theorem ggX8_addRow_X8_isRowValue : GoodIn wsX8_addRow wsX8_isRowValue := goodIn_r _ [13, 14, 15] (by decide +kernel) (by decide +kernel)
set_option maxRecDepth 20000 in
theorem gX8_addRow_X8_isRowValue : GoodIn wsX8_addRow (va_wsS RX8 97 yX8_isRowValue wsX8_isRowValue) := goodIn_app (goodIn_of _ (by decide +kernel)) ggX8_addRow_X8_isRowValue
theorem dX8_addRow_30 : decode cX8_addRow 30 = .ok (.invokestatic 97, 3) := by decide +kernel
theorem dX8_addRow_33 : decode cX8_addRow 33 = .ok (.ifCond .ne 5, 3) := by decide +kernel
theorem dX8_addRow_38 : decode cX8_addRow 38 = .ok (.iload_n 1, 1) := by decide +kernel
set_option maxRecDepth 20000 in
theorem ggX8_addRow_X8_isPerson : GoodIn wsX8_addRow wsX8_isPerson := goodIn_r _ [18] (by decide +kernel) (by decide +kernel)
set_option maxRecDepth 20000 in
theorem gX8_addRow_X8_isPerson : GoodIn wsX8_addRow (va_wsS RX8 100 yX8_isPerson wsX8_isPerson) := goodIn_app (goodIn_of _ (by decide +kernel)) ggX8_addRow_X8_isPerson
theorem dX8_addRow_39 : decode cX8_addRow 39 = .ok (.invokestatic 100, 3) := by decide +kernel
theorem dX8_addRow_42 : decode cX8_addRow 42 = .ok (.ifCond .ne 6, 3) := by decide +kernel
theorem dX8_addRow_48 : decode cX8_addRow 48 = .ok (.aload_n 0, 1) := by decide +kernel
theorem dX8_addRow_49 : decode cX8_addRow 49 = .ok (.getfield 10, 3) := by decide +kernel
set_option maxRecDepth 20000 in
theorem ggX8_addRow_X3_isFull : GoodIn wsX8_addRow wsX3_isFull := goodIn_r _ [22, 23, 51, 52, 53, 54, 55, 56, 57] (by decide +kernel) (by decide +kernel)
set_option maxRecDepth 20000 in
theorem gX8_addRow_X3_isFull_n103 : GoodIn wsX8_addRow (wsX3_isFull) := ggX8_addRow_X3_isFull
theorem dX8_addRow_52 : decode cX8_addRow 52 = .ok (.invokevirtual 103, 3) := by decide +kernel
theorem dX8_addRow_55 : decode cX8_addRow 55 = .ok (.ifCond .eq 6, 3) := by decide +kernel
theorem dX8_addRow_61 : decode cX8_addRow 61 = .ok (.aload_n 0, 1) := by decide +kernel
theorem dX8_addRow_62 : decode cX8_addRow 62 = .ok (.getfield 23, 3) := by decide +kernel
theorem dX8_addRow_65 : decode cX8_addRow 65 = .ok (.iload_n 1, 1) := by decide +kernel
theorem dX8_addRow_66 : decode cX8_addRow 66 = .ok (.baload, 1) := by decide +kernel
theorem dX8_addRow_67 : decode cX8_addRow 67 = .ok (.ifCond .eq 6, 3) := by decide +kernel
theorem dX8_addRow_73 : decode cX8_addRow 73 = .ok (.aload_n 0, 1) := by decide +kernel
theorem dX8_addRow_74 : decode cX8_addRow 74 = .ok (.getfield 10, 3) := by decide +kernel
theorem dX8_addRow_77 : decode cX8_addRow 77 = .ok (.iload_n 1, 1) := by decide +kernel
theorem dX8_addRow_78 : decode cX8_addRow 78 = .ok (.iload_n 2, 1) := by decide +kernel
theorem dX8_addRow_79 : decode cX8_addRow 79 = .ok (.iload_n 3, 1) := by decide +kernel
theorem dX8_addRow_80 : decode cX8_addRow 80 = .ok (.iload 4, 2) := by decide +kernel
theorem dX8_addRow_82 : decode cX8_addRow 82 = .ok (.iload 5, 2) := by decide +kernel
set_option maxRecDepth 20000 in
theorem ggX8_addRow_X3_add : GoodIn wsX8_addRow wsX3_add := goodIn_r _ [26, 27, 23, 28, 29, 30, 31, 32, 33, 19, 21, 20, 22, 51, 52, 53, 54, 55, 56, 57] (by decide +kernel) (by decide +kernel)
set_option maxRecDepth 20000 in
theorem gX8_addRow_X3_add_n107 : GoodIn wsX8_addRow (wsX3_add) := ggX8_addRow_X3_add
theorem dX8_addRow_84 : decode cX8_addRow 84 = .ok (.invokevirtual 107, 3) := by decide +kernel
theorem dX8_addRow_87 : decode cX8_addRow 87 = .ok (.ireturn, 1) := by decide +kernel
theorem dX8_addRow_45 : decode cX8_addRow 45 = .ok (.bipush (-2), 2) := by decide +kernel
theorem dX8_addRow_47 : decode cX8_addRow 47 = .ok (.ireturn, 1) := by decide +kernel
theorem dX8_row_0 : decode cX8_row 0 = .ok (.aload_n 0, 1) := by decide +kernel
theorem dX8_row_1 : decode cX8_row 1 = .ok (.aload_n 0, 1) := by decide +kernel
theorem dX8_row_2 : decode cX8_row 2 = .ok (.iload_n 1, 1) := by decide +kernel
theorem dX8_row_3 : decode cX8_row 3 = .ok (.iload_n 2, 1) := by decide +kernel
theorem dX8_row_4 : decode cX8_row 4 = .ok (.iload_n 3, 1) := by decide +kernel
theorem dX8_row_5 : decode cX8_row 5 = .ok (.iload 4, 2) := by decide +kernel
theorem dX8_row_7 : decode cX8_row 7 = .ok (.iload 5, 2) := by decide +kernel
set_option maxRecDepth 20000 in
theorem ggX8_row_X8_addRow : GoodIn wsX8_row wsX8_addRow := goodIn_r _ [5, 6, 7, 8, 9, 4, 10, 11, 12, 13, 14, 15, 16, 17, 18, 19, 20, 21, 22, 23, 24, 25, 26, 27, 28, 29, 30, 31, 32, 33, 34, 35, 36, 37, 47, 48, 49, 50, 51, 52, 53, 54, 55, 56, 57, 58, 59, 60, 61, 62, 63, 64, 65, 66, 67, 68, 69, 70] (by decide +kernel) (by decide +kernel)
set_option maxRecDepth 20000 in
theorem gX8_row_X8_addRow : GoodIn wsX8_row (wsV RX8 90 RX8 yX8_addRow wsX8_addRow) := goodIn_app (goodIn_of _ (by decide +kernel)) ggX8_row_X8_addRow
theorem dX8_row_9 : decode cX8_row 9 = .ok (.invokevirtual 90, 3) := by decide +kernel
set_option maxRecDepth 20000 in
theorem ggX8_row_X8_settle : GoodIn wsX8_row wsX8_settle := goodIn_r _ [41, 42, 43, 44, 45, 46, 47, 48, 49, 50, 51, 52, 53, 54, 55, 56, 57, 58, 59, 60, 61, 62, 63] (by decide +kernel) (by decide +kernel)
set_option maxRecDepth 20000 in
theorem gX8_row_X8_settle : GoodIn wsX8_row (wsV RX8 86 RX8 yX8_settle wsX8_settle) := goodIn_app (goodIn_of _ (by decide +kernel)) ggX8_row_X8_settle
theorem dX8_row_12 : decode cX8_row 12 = .ok (.invokevirtual 86, 3) := by decide +kernel
theorem dX8_row_15 : decode cX8_row 15 = .ok (.ireturn, 1) := by decide +kernel
set_option maxHeartbeats 4000000 in
set_option maxRecDepth 100000 in
theorem c_X3_isFull (l : Launch) (dC : Nat → ClassId) (dI : Nat → Nat → Nat) (sz : Nat) (hRows : Nat) (aP : Nat) (aS : Nat) (aM : Nat) (aK : Nat) (aV : Nat)  : Met l yX3_isFull wsX3_isFull ({ frames := 0, cells := 0, slots := 0, locals := 0 }) (va_Pc [.ref hRows] (fun U => U.heap.size = sz ∧ va_P (dC, dI) vwCl [(hRows, .inr (3, [.ref aP, .ref aS, .ref aM, .ref aK, .ref aV, .int 0, .int 0]))] U.heap ∧ va_K (dC, dI) vwCl [] U ∧ va_D (fun _ => True) [(hRows, .inr (3, [.ref aP, .ref aS, .ref aM, .ref aK, .ref aV, .int 0, .int 0]))] ∧ nw_ok U)) (va_Qi (fun (r : Int32) (_ : Unit) => r = 0) (fun (_ : Unit) (t : State) => va_P (dC, dI) vwCl [(hRows, .inr (3, [.ref aP, .ref aS, .ref aM, .ref aK, .ref aV, .int 0, .int 0]))] t.heap ∧ va_K (dC, dI) vwCl [] t ∧ va_D (va_A [(hRows, .inr (3, [.ref aP, .ref aS, .ref aM, .ref aK, .ref aV, .int 0, .int 0]))] sz) [(hRows, .inr (3, [.ref aP, .ref aS, .ref aM, .ref aK, .ref aV, .int 0, .int 0]))]) (va_A [(hRows, .inr (3, [.ref aP, .ref aS, .ref aM, .ref aK, .ref aV, .int 0, .int 0]))] sz)) 0 0 (va_A [(hRows, .inr (3, [.ref aP, .ref aS, .ref aM, .ref aK, .ref aV, .int 0, .int 0]))] sz) := by
  refine Met.ofW (cc := cX3_isFull) (maxL := 1) (ret := (some .boolean)) (by decide) rfl ?_
  intro p e s m args below meth c s₁ B hml hv
  obtain ⟨rfl, hsz, hP, hK, hD0, hN⟩ := hv
  have hx := B.exec
  have hb := B.bytes
  have hr := B.returns
  have hts := atoms_spec (ws := wsX3_isFull) B.pre
  have hown : s.vm.findClass RX3 = some m.cls := findClass_of_methodNamed B.named
  have hlocks := B.notSynchronized
  subst hsz
  have hD := hD0.self (sz := s.heap.size)
  generalize hAe : va_A [(hRows, .inr (3, [.ref aP, .ref aS, .ref aM, .ref aK, .ref aV, .int 0, .int 0]))] s.heap.size = A at hD ⊢
  have hA : ∀ q : Nat, s.heap.size ≤ q → A q := fun q h => by rw [← hAe]; exact Or.inr h
  have hS : va_S A s.heap s.heap [] := va_S.rf
  have hP : va_P (dC, dI) vwCl [(hRows, .inr (3, [.ref aP, .ref aS, .ref aM, .ref aK, .ref aV, .int 0, .int 0]))] s.heap := hP
  have hIX3 : ∀ w ∈ u_ws RX3 TX3 7, w ∈ wsX3_isFull := by decide +kernel
  have hl := lv_entry ([.ref hRows]) (n := 1) (Nat.le_of_ble_eq_true rfl)
  rw [lg_entry_eq]
  generalize (lg_sl ([.ref hRows]) ++ List.replicate (1 - (lg_sl ([.ref hRows])).length) Slot.unset).toArray = ls at hl ⊢
  have hl : lv_has ls 1 [(0, .ref hRows)] := hl
  refine lv_aload_n hx hb dX3_isFull_0 rfl (lv_at hl 0 rfl) ?_
  refine va_get (D := (dC, dI)) (ci := 3) (v := .int 0) (C := RX3) (T := TX3) (N := 7) hx hb hts hIX3 hown hK hP 0 rfl rfl 5 (by decide) (hts (.fieldLink RX3 27 "TraitHouse$Rows" "size" "I") (by decide +kernel)) (fun _ h9 => h9) rfl dX3_isFull_1 ?_
  refine lv_sipush (v := 400) hx hb dX3_isFull_4 (by decide) ?_
  refine lv_icmp_lt (tgt := 14) hx hb dX3_isFull_7 (by decide) (fun c_1 => ?_) (fun c_1 => absurd (by decide) c_1)
  refine lv_iconst (v := 0) hx hb dX3_isFull_14 (by decide) ?_
  have hP9 := hP.sub (ws' := [(hRows, .inr (3, [.ref aP, .ref aS, .ref aM, .ref aK, .ref aV, .int 0, .int 0]))]) [0] rfl
  have hD9 := hD.sub (ws' := [(hRows, .inr (3, [.ref aP, .ref aS, .ref aM, .ref aK, .ref aV, .int 0, .int 0]))]) [0] (by decide) rfl
  have hK9 := hK.sub (tys' := []) [] rfl
  exact W.zret (v := 0) hx hb hr (by decide) (fun t ht hW => ⟨⟨0, (), rfl, rfl, by rw [ht]; exact hP9, va_K.moved hW.alike hK9, hD9⟩, hS.F ht⟩) hS.2.2 dX3_isFull_15

set_option maxHeartbeats 4000000 in
set_option maxRecDepth 100000 in
theorem c_X3_add (l : Launch) (dC : Nat → ClassId) (dI : Nat → Nat → Nat) (sz : Nat) (hRows : Nat) (aP : Nat) (aS : Nat) (aM : Nat) (aK : Nat) (aV : Nat) (cP : ClassId) (cS : ClassId) (cM : ClassId) (cK : ClassId) (cV : ClassId) (pp : Int32) (st : Int32) (mo : Int32) (kn : Int32) (va : Int32)  : Met l yX3_add wsX3_add ({ frames := 1, cells := 0, slots := 0, locals := 20 }) (va_Pc [.ref hRows, .int pp, .int st, .int mo, .int kn, .int va] (fun U => U.heap.size = sz ∧ va_P (dC, dI) vwCl [(hRows, .inr (3, [.ref aP, .ref aS, .ref aM, .ref aK, .ref aV, .int 0, .int 0])), (aP, .inl (cP, 400, .inl (fun _ => 0))), (aS, .inl (cS, 400, .inl (fun _ => 0))), (aM, .inl (cM, 400, .inl (fun _ => 0))), (aK, .inl (cK, 400, .inl (fun _ => 0))), (aV, .inl (cV, 400, .inl (fun _ => 0)))] U.heap ∧ va_K (dC, dI) vwCl [(cP, .int), (cS, .int), (cM, .int), (cK, .int), (cV, .int)] U ∧ va_D (fun _ => True) [(hRows, .inr (3, [.ref aP, .ref aS, .ref aM, .ref aK, .ref aV, .int 0, .int 0])), (aP, .inl (cP, 400, .inl (fun _ => 0))), (aS, .inl (cS, 400, .inl (fun _ => 0))), (aM, .inl (cM, 400, .inl (fun _ => 0))), (aK, .inl (cK, 400, .inl (fun _ => 0))), (aV, .inl (cV, 400, .inl (fun _ => 0)))] ∧ nw_ok U)) (va_Qi (fun (r : Int32) (_ : Unit) => r = 0) (fun (_ : Unit) (t : State) => True) (va_A [(hRows, .inr (3, [.ref aP, .ref aS, .ref aM, .ref aK, .ref aV, .int 0, .int 0])), (aP, .inl (cP, 400, .inl (fun _ => 0))), (aS, .inl (cS, 400, .inl (fun _ => 0))), (aM, .inl (cM, 400, .inl (fun _ => 0))), (aK, .inl (cK, 400, .inl (fun _ => 0))), (aV, .inl (cV, 400, .inl (fun _ => 0)))] sz)) 0 0 (va_A [(hRows, .inr (3, [.ref aP, .ref aS, .ref aM, .ref aK, .ref aV, .int 0, .int 0])), (aP, .inl (cP, 400, .inl (fun _ => 0))), (aS, .inl (cS, 400, .inl (fun _ => 0))), (aM, .inl (cM, 400, .inl (fun _ => 0))), (aK, .inl (cK, 400, .inl (fun _ => 0))), (aV, .inl (cV, 400, .inl (fun _ => 0)))] sz) := by
  refine Met.ofW (cc := cX3_add) (maxL := 6) (ret := (some .int)) (by decide) rfl ?_
  intro p e s m args below meth c s₁ B hml hv
  obtain ⟨rfl, hsz, hP, hK, hD0, hN⟩ := hv
  have hx := B.exec
  have hb := B.bytes
  have hr := B.returns
  have hts := atoms_spec (ws := wsX3_add) B.pre
  have hown : s.vm.findClass RX3 = some m.cls := findClass_of_methodNamed B.named
  have hlocks := B.notSynchronized
  subst hsz
  have hD := hD0.self (sz := s.heap.size)
  generalize hAe : va_A [(hRows, .inr (3, [.ref aP, .ref aS, .ref aM, .ref aK, .ref aV, .int 0, .int 0])), (aP, .inl (cP, 400, .inl (fun _ => 0))), (aS, .inl (cS, 400, .inl (fun _ => 0))), (aM, .inl (cM, 400, .inl (fun _ => 0))), (aK, .inl (cK, 400, .inl (fun _ => 0))), (aV, .inl (cV, 400, .inl (fun _ => 0)))] s.heap.size = A at hD ⊢
  have hA : ∀ q : Nat, s.heap.size ≤ q → A q := fun q h => by rw [← hAe]; exact Or.inr h
  have hS : va_S A s.heap s.heap [] := va_S.rf
  have hP : va_P (dC, dI) vwCl [(hRows, .inr (3, [.ref aP, .ref aS, .ref aM, .ref aK, .ref aV, .int 0, .int 0])), (aP, .inl (cP, 400, .inl (fun _ => 0))), (aS, .inl (cS, 400, .inl (fun _ => 0))), (aM, .inl (cM, 400, .inl (fun _ => 0))), (aK, .inl (cK, 400, .inl (fun _ => 0))), (aV, .inl (cV, 400, .inl (fun _ => 0)))] s.heap := hP
  have hIX3 : ∀ w ∈ u_ws RX3 TX3 7, w ∈ wsX3_add := by decide +kernel
  have hl := lv_entry ([.ref hRows, .int pp, .int st, .int mo, .int kn, .int va]) (n := 6) (Nat.le_of_ble_eq_true rfl)
  rw [lg_entry_eq]
  generalize (lg_sl ([.ref hRows, .int pp, .int st, .int mo, .int kn, .int va]) ++ List.replicate (6 - (lg_sl ([.ref hRows, .int pp, .int st, .int mo, .int kn, .int va])).length) Slot.unset).toArray = ls at hl ⊢
  have hl : lv_has ls 6 [(0, .ref hRows), (1, .int pp), (2, .int st), (3, .int mo), (4, .int kn), (5, .int va)] := hl
  refine lv_aload_n hx hb dX3_add_0 rfl (lv_at hl 0 rfl) ?_
  have hPc := hP.sub (ws' := [(hRows, .inr (3, [.ref aP, .ref aS, .ref aM, .ref aK, .ref aV, .int 0, .int 0]))]) [0] rfl
  have hDc := hD.sub (ws' := [(hRows, .inr (3, [.ref aP, .ref aS, .ref aM, .ref aK, .ref aV, .int 0, .int 0]))]) [0] (by decide) rfl
  have hKc := hK.sub (tys' := []) [] rfl
  have hFc := va_free (wc := [(hRows, .inr (3, [.ref aP, .ref aS, .ref aM, .ref aK, .ref aV, .int 0, .int 0]))]) hD hS hA [0] rfl
  refine va_calli (va_runV (As := []) (rest := []) ⟨hx, hb, hml, hown, hts⟩ (c_X3_isFull l dC dI s.heap.size hRows aP aS aM aK aV ) (cwV 0 hts gX3_add_X3_isFull rfl rfl rfl (by decide +kernel) ⟨Nat.le_of_ble_eq_true rfl, Nat.le_of_ble_eq_true rfl⟩) ⟨fun a U g mk q => by obtain ⟨q0, q1, qP, qK, qD, qN⟩ := q; exact ⟨q0, q1, qP, va_K.moved (u := U) (U := U.calling g mk a) (Vm.Alike.refl U.vm) qK, qD, qN.same rfl⟩, va_recv hKc hPc (ci := 3) (q0 := 0) rfl rfl, fun U hU hW => ⟨rfl, by rw [hU], by rw [hU]; exact hPc, va_K.moved hW.alike hKc, hDc.weaken (fun _ _ _ _ => trivial), hN.warm hW⟩⟩ rfl rfl hl.1 rfl (lv_room (Nat.le_of_ble_eq_true rfl)) dX3_add_1 ⟨Nat.le_of_ble_eq_true rfl, Nat.le_of_ble_eq_true rfl⟩) hS (fun q _ h => hFc q h) hFc (fun r_1 u_2 t H1 locs ht hvm hw_3 hB hz1 hk1 hS => ?_)
  try dsimp only at hw_3
  obtain ⟨hP1, hK1, hD1⟩ := hB
  rw [ht] at hP1
  have hK1 := va_K.moved hvm.symm hK1
  obtain ⟨hP, hD⟩ := va_join (wr := [(aP, .inl (cP, 400, .inl (fun _ => 0))), (aS, .inl (cS, 400, .inl (fun _ => 0))), (aM, .inl (cM, 400, .inl (fun _ => 0))), (aK, .inl (cK, 400, .inl (fun _ => 0))), (aV, .inl (cV, 400, .inl (fun _ => 0)))]) (w1 := [(hRows, .inr (3, [.ref aP, .ref aS, .ref aM, .ref aK, .ref aV, .int 0, .int 0]))]) hP hD [0] [1, 2, 3, 4, 5] rfl rfl (by decide) (by decide) hk1 hFc hP1 hD1
  have hK := (hK.sub (tys' := [(cP, .int), (cS, .int), (cM, .int), (cK, .int), (cV, .int)]) [0, 1, 2, 3, 4] rfl).app hK1
  generalize H1 = H at hP hS ⊢
  have hP : va_P (dC, dI) vwCl [(aP, .inl (cP, 400, .inl (fun _ => 0))), (aS, .inl (cS, 400, .inl (fun _ => 0))), (aM, .inl (cM, 400, .inl (fun _ => 0))), (aK, .inl (cK, 400, .inl (fun _ => 0))), (aV, .inl (cV, 400, .inl (fun _ => 0))), (hRows, .inr (3, [.ref aP, .ref aS, .ref aM, .ref aK, .ref aV, .int 0, .int 0]))] H := hP
  have hD : va_D A [(aP, .inl (cP, 400, .inl (fun _ => 0))), (aS, .inl (cS, 400, .inl (fun _ => 0))), (aM, .inl (cM, 400, .inl (fun _ => 0))), (aK, .inl (cK, 400, .inl (fun _ => 0))), (aV, .inl (cV, 400, .inl (fun _ => 0))), (hRows, .inr (3, [.ref aP, .ref aS, .ref aM, .ref aK, .ref aV, .int 0, .int 0]))] := hD
  have hK : va_K (dC, dI) vwCl [(cP, .int), (cS, .int), (cM, .int), (cK, .int), (cV, .int)] s := hK
  obtain rfl : 0 = r_1 := hw_3.symm
  refine lv_if_eq (tgt := 10) hx hb dX3_add_4 (by decide) (fun c_4 => ?_) (fun c_4 => absurd (by decide) c_4)
  refine lv_aload_n hx hb dX3_add_10 rfl (lv_at hl 0 rfl) ?_
  refine va_get (D := (dC, dI)) (ci := 3) (v := .ref aP) (C := RX3) (T := TX3) (N := 7) hx hb hts hIX3 hown hK hP 5 rfl rfl 0 (by decide) (hts (.fieldLink RX3 9 "TraitHouse$Rows" "people" "[I") (by decide +kernel)) (fun _ h9 => h9) rfl dX3_add_11 ?_
  refine lv_aload_n hx hb dX3_add_14 rfl (lv_at hl 0 rfl) ?_
  refine va_get (D := (dC, dI)) (ci := 3) (v := .int 0) (C := RX3) (T := TX3) (N := 7) hx hb hts hIX3 hown hK hP 5 rfl rfl 5 (by decide) (hts (.fieldLink RX3 27 "TraitHouse$Rows" "size" "I") (by decide +kernel)) (fun _ h9 => h9) rfl dX3_add_15 ?_
  refine lv_iload_n hx hb dX3_add_18 rfl (lv_at hl 1 rfl) ?_
  have h_5 : vp_in 0 400 := (vp_in_iff.mpr ⟨by decide, by decide⟩)
  refine va_iast hx hb hK hP hD hS 0 0 rfl rfl h_5 dX3_add_19 (fun H locs hP hD hS => ?_)
  have hP : va_P (dC, dI) vwCl [(aP, .inl (cP, 400, .inl (upd (fun _ => 0) (0 : Int32).toNatClampNeg pp))), (aS, .inl (cS, 400, .inl (fun _ => 0))), (aM, .inl (cM, 400, .inl (fun _ => 0))), (aK, .inl (cK, 400, .inl (fun _ => 0))), (aV, .inl (cV, 400, .inl (fun _ => 0))), (hRows, .inr (3, [.ref aP, .ref aS, .ref aM, .ref aK, .ref aV, .int 0, .int 0]))] H := hP
  have hD : va_D A [(aP, .inl (cP, 400, .inl (upd (fun _ => 0) (0 : Int32).toNatClampNeg pp))), (aS, .inl (cS, 400, .inl (fun _ => 0))), (aM, .inl (cM, 400, .inl (fun _ => 0))), (aK, .inl (cK, 400, .inl (fun _ => 0))), (aV, .inl (cV, 400, .inl (fun _ => 0))), (hRows, .inr (3, [.ref aP, .ref aS, .ref aM, .ref aK, .ref aV, .int 0, .int 0]))] := hD
  obtain ⟨g_6, eg_6⟩ : ∃ g : Nat → Int32, g = upd (fun _ => 0) (0 : Int32).toNatClampNeg pp := ⟨_, rfl⟩
  rw [← eg_6] at hP hD
  refine lv_aload_n hx hb dX3_add_20 rfl (lv_at hl 0 rfl) ?_
  refine va_get (D := (dC, dI)) (ci := 3) (v := .ref aS) (C := RX3) (T := TX3) (N := 7) hx hb hts hIX3 hown hK hP 5 rfl rfl 1 (by decide) (hts (.fieldLink RX3 15 "TraitHouse$Rows" "streams" "[I") (by decide +kernel)) (fun _ h9 => h9) rfl dX3_add_21 ?_
  refine lv_aload_n hx hb dX3_add_24 rfl (lv_at hl 0 rfl) ?_
  refine va_get (D := (dC, dI)) (ci := 3) (v := .int 0) (C := RX3) (T := TX3) (N := 7) hx hb hts hIX3 hown hK hP 5 rfl rfl 5 (by decide) (hts (.fieldLink RX3 27 "TraitHouse$Rows" "size" "I") (by decide +kernel)) (fun _ h9 => h9) rfl dX3_add_25 ?_
  refine lv_iload_n hx hb dX3_add_28 rfl (lv_at hl 2 rfl) ?_
  have h_7 : vp_in 0 400 := (vp_in_iff.mpr ⟨by decide, by decide⟩)
  refine va_iast hx hb hK hP hD hS 1 1 rfl rfl h_7 dX3_add_29 (fun H locs hP hD hS => ?_)
  have hP : va_P (dC, dI) vwCl [(aP, .inl (cP, 400, .inl g_6)), (aS, .inl (cS, 400, .inl (upd (fun _ => 0) (0 : Int32).toNatClampNeg st))), (aM, .inl (cM, 400, .inl (fun _ => 0))), (aK, .inl (cK, 400, .inl (fun _ => 0))), (aV, .inl (cV, 400, .inl (fun _ => 0))), (hRows, .inr (3, [.ref aP, .ref aS, .ref aM, .ref aK, .ref aV, .int 0, .int 0]))] H := hP
  have hD : va_D A [(aP, .inl (cP, 400, .inl g_6)), (aS, .inl (cS, 400, .inl (upd (fun _ => 0) (0 : Int32).toNatClampNeg st))), (aM, .inl (cM, 400, .inl (fun _ => 0))), (aK, .inl (cK, 400, .inl (fun _ => 0))), (aV, .inl (cV, 400, .inl (fun _ => 0))), (hRows, .inr (3, [.ref aP, .ref aS, .ref aM, .ref aK, .ref aV, .int 0, .int 0]))] := hD
  obtain ⟨g_8, eg_8⟩ : ∃ g : Nat → Int32, g = upd (fun _ => 0) (0 : Int32).toNatClampNeg st := ⟨_, rfl⟩
  rw [← eg_8] at hP hD
  refine lv_aload_n hx hb dX3_add_30 rfl (lv_at hl 0 rfl) ?_
  refine va_get (D := (dC, dI)) (ci := 3) (v := .ref aM) (C := RX3) (T := TX3) (N := 7) hx hb hts hIX3 hown hK hP 5 rfl rfl 2 (by decide) (hts (.fieldLink RX3 18 "TraitHouse$Rows" "moments" "[I") (by decide +kernel)) (fun _ h9 => h9) rfl dX3_add_31 ?_
  refine lv_aload_n hx hb dX3_add_34 rfl (lv_at hl 0 rfl) ?_
  refine va_get (D := (dC, dI)) (ci := 3) (v := .int 0) (C := RX3) (T := TX3) (N := 7) hx hb hts hIX3 hown hK hP 5 rfl rfl 5 (by decide) (hts (.fieldLink RX3 27 "TraitHouse$Rows" "size" "I") (by decide +kernel)) (fun _ h9 => h9) rfl dX3_add_35 ?_
  refine lv_iload_n hx hb dX3_add_38 rfl (lv_at hl 3 rfl) ?_
  have h_9 : vp_in 0 400 := (vp_in_iff.mpr ⟨by decide, by decide⟩)
  refine va_iast hx hb hK hP hD hS 2 2 rfl rfl h_9 dX3_add_39 (fun H locs hP hD hS => ?_)
  have hP : va_P (dC, dI) vwCl [(aP, .inl (cP, 400, .inl g_6)), (aS, .inl (cS, 400, .inl g_8)), (aM, .inl (cM, 400, .inl (upd (fun _ => 0) (0 : Int32).toNatClampNeg mo))), (aK, .inl (cK, 400, .inl (fun _ => 0))), (aV, .inl (cV, 400, .inl (fun _ => 0))), (hRows, .inr (3, [.ref aP, .ref aS, .ref aM, .ref aK, .ref aV, .int 0, .int 0]))] H := hP
  have hD : va_D A [(aP, .inl (cP, 400, .inl g_6)), (aS, .inl (cS, 400, .inl g_8)), (aM, .inl (cM, 400, .inl (upd (fun _ => 0) (0 : Int32).toNatClampNeg mo))), (aK, .inl (cK, 400, .inl (fun _ => 0))), (aV, .inl (cV, 400, .inl (fun _ => 0))), (hRows, .inr (3, [.ref aP, .ref aS, .ref aM, .ref aK, .ref aV, .int 0, .int 0]))] := hD
  obtain ⟨g_10, eg_10⟩ : ∃ g : Nat → Int32, g = upd (fun _ => 0) (0 : Int32).toNatClampNeg mo := ⟨_, rfl⟩
  rw [← eg_10] at hP hD
  refine lv_aload_n hx hb dX3_add_40 rfl (lv_at hl 0 rfl) ?_
  refine va_get (D := (dC, dI)) (ci := 3) (v := .ref aK) (C := RX3) (T := TX3) (N := 7) hx hb hts hIX3 hown hK hP 5 rfl rfl 3 (by decide) (hts (.fieldLink RX3 21 "TraitHouse$Rows" "knowns" "[I") (by decide +kernel)) (fun _ h9 => h9) rfl dX3_add_41 ?_
  refine lv_aload_n hx hb dX3_add_44 rfl (lv_at hl 0 rfl) ?_
  refine va_get (D := (dC, dI)) (ci := 3) (v := .int 0) (C := RX3) (T := TX3) (N := 7) hx hb hts hIX3 hown hK hP 5 rfl rfl 5 (by decide) (hts (.fieldLink RX3 27 "TraitHouse$Rows" "size" "I") (by decide +kernel)) (fun _ h9 => h9) rfl dX3_add_45 ?_
  refine lv_iload hx hb dX3_add_48 (lv_at hl 4 rfl) ?_
  have h_11 : vp_in 0 400 := (vp_in_iff.mpr ⟨by decide, by decide⟩)
  refine va_iast hx hb hK hP hD hS 3 3 rfl rfl h_11 dX3_add_50 (fun H locs hP hD hS => ?_)
  have hP : va_P (dC, dI) vwCl [(aP, .inl (cP, 400, .inl g_6)), (aS, .inl (cS, 400, .inl g_8)), (aM, .inl (cM, 400, .inl g_10)), (aK, .inl (cK, 400, .inl (upd (fun _ => 0) (0 : Int32).toNatClampNeg kn))), (aV, .inl (cV, 400, .inl (fun _ => 0))), (hRows, .inr (3, [.ref aP, .ref aS, .ref aM, .ref aK, .ref aV, .int 0, .int 0]))] H := hP
  have hD : va_D A [(aP, .inl (cP, 400, .inl g_6)), (aS, .inl (cS, 400, .inl g_8)), (aM, .inl (cM, 400, .inl g_10)), (aK, .inl (cK, 400, .inl (upd (fun _ => 0) (0 : Int32).toNatClampNeg kn))), (aV, .inl (cV, 400, .inl (fun _ => 0))), (hRows, .inr (3, [.ref aP, .ref aS, .ref aM, .ref aK, .ref aV, .int 0, .int 0]))] := hD
  obtain ⟨g_12, eg_12⟩ : ∃ g : Nat → Int32, g = upd (fun _ => 0) (0 : Int32).toNatClampNeg kn := ⟨_, rfl⟩
  rw [← eg_12] at hP hD
  refine lv_aload_n hx hb dX3_add_51 rfl (lv_at hl 0 rfl) ?_
  refine va_get (D := (dC, dI)) (ci := 3) (v := .ref aV) (C := RX3) (T := TX3) (N := 7) hx hb hts hIX3 hown hK hP 5 rfl rfl 4 (by decide) (hts (.fieldLink RX3 24 "TraitHouse$Rows" "values" "[I") (by decide +kernel)) (fun _ h9 => h9) rfl dX3_add_52 ?_
  refine lv_aload_n hx hb dX3_add_55 rfl (lv_at hl 0 rfl) ?_
  refine va_get (D := (dC, dI)) (ci := 3) (v := .int 0) (C := RX3) (T := TX3) (N := 7) hx hb hts hIX3 hown hK hP 5 rfl rfl 5 (by decide) (hts (.fieldLink RX3 27 "TraitHouse$Rows" "size" "I") (by decide +kernel)) (fun _ h9 => h9) rfl dX3_add_56 ?_
  refine lv_iload hx hb dX3_add_59 (lv_at hl 5 rfl) ?_
  have h_13 : vp_in 0 400 := (vp_in_iff.mpr ⟨by decide, by decide⟩)
  refine va_iast hx hb hK hP hD hS 4 4 rfl rfl h_13 dX3_add_61 (fun H locs hP hD hS => ?_)
  have hP : va_P (dC, dI) vwCl [(aP, .inl (cP, 400, .inl g_6)), (aS, .inl (cS, 400, .inl g_8)), (aM, .inl (cM, 400, .inl g_10)), (aK, .inl (cK, 400, .inl g_12)), (aV, .inl (cV, 400, .inl (upd (fun _ => 0) (0 : Int32).toNatClampNeg va))), (hRows, .inr (3, [.ref aP, .ref aS, .ref aM, .ref aK, .ref aV, .int 0, .int 0]))] H := hP
  have hD : va_D A [(aP, .inl (cP, 400, .inl g_6)), (aS, .inl (cS, 400, .inl g_8)), (aM, .inl (cM, 400, .inl g_10)), (aK, .inl (cK, 400, .inl g_12)), (aV, .inl (cV, 400, .inl (upd (fun _ => 0) (0 : Int32).toNatClampNeg va))), (hRows, .inr (3, [.ref aP, .ref aS, .ref aM, .ref aK, .ref aV, .int 0, .int 0]))] := hD
  obtain ⟨g_14, eg_14⟩ : ∃ g : Nat → Int32, g = upd (fun _ => 0) (0 : Int32).toNatClampNeg va := ⟨_, rfl⟩
  rw [← eg_14] at hP hD
  refine lv_aload_n hx hb dX3_add_62 rfl (lv_at hl 0 rfl) ?_
  refine lv_dup hx hb dX3_add_63 rfl ?_
  refine va_get (D := (dC, dI)) (ci := 3) (v := .int 0) (C := RX3) (T := TX3) (N := 7) hx hb hts hIX3 hown hK hP 5 rfl rfl 5 (by decide) (hts (.fieldLink RX3 27 "TraitHouse$Rows" "size" "I") (by decide +kernel)) (fun _ h9 => h9) rfl dX3_add_64 ?_
  refine lv_iconst (v := 1) hx hb dX3_add_67 (by decide) ?_
  refine lv_iadd hx hb dX3_add_68 ?_
  refine lv_topi (fun x_15 ex_15 => ?_)
  obtain rfl : x_15 = 1 := ex_15.trans (by decide)
  refine va_put (D := (dC, dI)) (ci := 3) (v := .int 1) (ty := .int) (C := RX3) (T := TX3) (N := 7) hx hb hts hIX3 tyX3 tyX3_ok nmX3 hown hK hP hD hS 5 rfl rfl 5 (by decide) (hts (.fieldLink RX3 27 "TraitHouse$Rows" "size" "I") (by decide +kernel)) (fun _ h9 => h9) rfl (by decide +kernel) rfl rfl (Nat.le_of_ble_eq_true rfl) dX3_add_69 (fun H locs hP hD hS => ?_)
  have hP : va_P (dC, dI) vwCl [(aP, .inl (cP, 400, .inl g_6)), (aS, .inl (cS, 400, .inl g_8)), (aM, .inl (cM, 400, .inl g_10)), (aK, .inl (cK, 400, .inl g_12)), (aV, .inl (cV, 400, .inl g_14)), (hRows, .inr (3, [.ref aP, .ref aS, .ref aM, .ref aK, .ref aV, .int 1, .int 0]))] H := hP
  have hD : va_D A [(aP, .inl (cP, 400, .inl g_6)), (aS, .inl (cS, 400, .inl g_8)), (aM, .inl (cM, 400, .inl g_10)), (aK, .inl (cK, 400, .inl g_12)), (aV, .inl (cV, 400, .inl g_14)), (hRows, .inr (3, [.ref aP, .ref aS, .ref aM, .ref aK, .ref aV, .int 1, .int 0]))] := hD
  refine lv_aload_n hx hb dX3_add_72 rfl (lv_at hl 0 rfl) ?_
  refine lv_dup hx hb dX3_add_73 rfl ?_
  refine va_get (D := (dC, dI)) (ci := 3) (v := .int 0) (C := RX3) (T := TX3) (N := 7) hx hb hts hIX3 hown hK hP 5 rfl rfl 6 (by decide) (hts (.fieldLink RX3 35 "TraitHouse$Rows" "nextNumber" "I") (by decide +kernel)) (fun _ h9 => h9) rfl dX3_add_74 ?_
  refine lv_iconst (v := 1) hx hb dX3_add_77 (by decide) ?_
  refine lv_iadd hx hb dX3_add_78 ?_
  refine lv_topi (fun x_16 ex_16 => ?_)
  obtain rfl : x_16 = 1 := ex_16.trans (by decide)
  refine va_put (D := (dC, dI)) (ci := 3) (v := .int 1) (ty := .int) (C := RX3) (T := TX3) (N := 7) hx hb hts hIX3 tyX3 tyX3_ok nmX3 hown hK hP hD hS 5 rfl rfl 6 (by decide) (hts (.fieldLink RX3 35 "TraitHouse$Rows" "nextNumber" "I") (by decide +kernel)) (fun _ h9 => h9) rfl (by decide +kernel) rfl rfl (Nat.le_of_ble_eq_true rfl) dX3_add_79 (fun H locs hP hD hS => ?_)
  have hP : va_P (dC, dI) vwCl [(aP, .inl (cP, 400, .inl g_6)), (aS, .inl (cS, 400, .inl g_8)), (aM, .inl (cM, 400, .inl g_10)), (aK, .inl (cK, 400, .inl g_12)), (aV, .inl (cV, 400, .inl g_14)), (hRows, .inr (3, [.ref aP, .ref aS, .ref aM, .ref aK, .ref aV, .int 1, .int 1]))] H := hP
  have hD : va_D A [(aP, .inl (cP, 400, .inl g_6)), (aS, .inl (cS, 400, .inl g_8)), (aM, .inl (cM, 400, .inl g_10)), (aK, .inl (cK, 400, .inl g_12)), (aV, .inl (cV, 400, .inl g_14)), (hRows, .inr (3, [.ref aP, .ref aS, .ref aM, .ref aK, .ref aV, .int 1, .int 1]))] := hD
  refine lv_aload_n hx hb dX3_add_82 rfl (lv_at hl 0 rfl) ?_
  refine va_get (D := (dC, dI)) (ci := 3) (v := .int 1) (C := RX3) (T := TX3) (N := 7) hx hb hts hIX3 hown hK hP 5 rfl rfl 6 (by decide) (hts (.fieldLink RX3 35 "TraitHouse$Rows" "nextNumber" "I") (by decide +kernel)) (fun _ h9 => h9) rfl dX3_add_83 ?_
  refine lv_iconst (v := 1) hx hb dX3_add_86 (by decide) ?_
  refine lv_isub hx hb dX3_add_87 ?_
  refine lv_topi (fun x_17 ex_17 => ?_)
  obtain rfl : x_17 = 0 := ex_17.trans (by decide)
  exact W.iret (v := 0) hx hb hr (fun t ht hW => ⟨⟨0, (), rfl, rfl, trivial⟩, hS.F ht⟩) hS.2.2 dX3_add_88

set_option maxHeartbeats 4000000 in
set_option maxRecDepth 100000 in
theorem c_X8_addRow (l : Launch) (dC : Nat → ClassId) (dI : Nat → Nat → Nat) (sz : Nat) (h0 : Nat) (hRows : Nat) (hMer : Nat) (hEra : Nat) (hTape : Nat) (hRea : Nat) (hTra : Nat) (hWor : Nat) (hPla : Nat) (hMod : Nat) (hHe1 : Nat) (hHe2 : Nat) (aP : Nat) (aS : Nat) (aM : Nat) (aK : Nat) (aV : Nat) (cP : ClassId) (cS : ClassId) (cM : ClassId) (cK : ClassId) (cV : ClassId) (cE : ClassId) (pp : Int32) (st : Int32) (mo : Int32) (kn : Int32) (va : Int32)  : Met l yX8_addRow wsX8_addRow ({ frames := 2, cells := 0, slots := 0, locals := 45 }) (va_Pc [.ref h0, .int pp, .int st, .int mo, .int kn, .int va] (fun U => U.heap.size = sz ∧ va_P (dC, dI) vwCl [(h0, .inr (8, [.ref hRows, .ref hMer, .ref hEra, .ref hTape, .ref hRea, .ref hTra, .ref hWor, .ref hPla, .ref hMod, .ref hHe1, .ref hHe2, .int 0, .int 0, .int 0, .int 0, .int (-1), .int 0])), (hRows, .inr (3, [.ref aP, .ref aS, .ref aM, .ref aK, .ref aV, .int 0, .int 0])), (aP, .inl (cP, 400, .inl (fun _ => 0))), (aS, .inl (cS, 400, .inl (fun _ => 0))), (aM, .inl (cM, 400, .inl (fun _ => 0))), (aK, .inl (cK, 400, .inl (fun _ => 0))), (aV, .inl (cV, 400, .inl (fun _ => 0))), (hEra, .inl (cE, 20, .inl (fun _ => 0)))] U.heap ∧ va_K (dC, dI) vwCl [(cP, .int), (cS, .int), (cM, .int), (cK, .int), (cV, .int), (cE, .boolean)] U ∧ va_D (fun _ => True) [(h0, .inr (8, [.ref hRows, .ref hMer, .ref hEra, .ref hTape, .ref hRea, .ref hTra, .ref hWor, .ref hPla, .ref hMod, .ref hHe1, .ref hHe2, .int 0, .int 0, .int 0, .int 0, .int (-1), .int 0])), (hRows, .inr (3, [.ref aP, .ref aS, .ref aM, .ref aK, .ref aV, .int 0, .int 0])), (aP, .inl (cP, 400, .inl (fun _ => 0))), (aS, .inl (cS, 400, .inl (fun _ => 0))), (aM, .inl (cM, 400, .inl (fun _ => 0))), (aK, .inl (cK, 400, .inl (fun _ => 0))), (aV, .inl (cV, 400, .inl (fun _ => 0))), (hEra, .inl (cE, 20, .inl (fun _ => 0)))] ∧ nw_ok U)) (va_Qi (fun (r : Int32) (_ : Unit) => (¬ (0 ≤ st.toInt ∧ st.toInt ≤ 5 ∧ 0 ≤ mo.toInt ∧ mo.toInt ≤ kn.toInt ∧ kn.toInt ≤ 100000 ∧ (-1000000) ≤ va.toInt ∧ va.toInt ≤ 1000000) → r.toInt = (-1)) ∧ ((0 ≤ st.toInt ∧ st.toInt ≤ 5 ∧ 0 ≤ mo.toInt ∧ mo.toInt ≤ kn.toInt ∧ kn.toInt ≤ 100000 ∧ (-1000000) ≤ va.toInt ∧ va.toInt ≤ 1000000) ∧ ¬ (0 ≤ pp.toInt ∧ pp.toInt ≤ 19) → r.toInt = (-2)) ∧ ((0 ≤ st.toInt ∧ st.toInt ≤ 5 ∧ 0 ≤ mo.toInt ∧ mo.toInt ≤ kn.toInt ∧ kn.toInt ≤ 100000 ∧ (-1000000) ≤ va.toInt ∧ va.toInt ≤ 1000000) ∧ 0 ≤ pp.toInt ∧ pp.toInt ≤ 19 → r.toInt = 0)) (fun (_ : Unit) (t : State) => va_P (dC, dI) vwCl [(h0, .inr (8, [.ref hRows, .ref hMer, .ref hEra, .ref hTape, .ref hRea, .ref hTra, .ref hWor, .ref hPla, .ref hMod, .ref hHe1, .ref hHe2, .int 0, .int 0, .int 0, .int 0, .int (-1), .int 0]))] t.heap ∧ va_K (dC, dI) vwCl [] t ∧ va_D (va_A [(h0, .inr (8, [.ref hRows, .ref hMer, .ref hEra, .ref hTape, .ref hRea, .ref hTra, .ref hWor, .ref hPla, .ref hMod, .ref hHe1, .ref hHe2, .int 0, .int 0, .int 0, .int 0, .int (-1), .int 0])), (hRows, .inr (3, [.ref aP, .ref aS, .ref aM, .ref aK, .ref aV, .int 0, .int 0])), (aP, .inl (cP, 400, .inl (fun _ => 0))), (aS, .inl (cS, 400, .inl (fun _ => 0))), (aM, .inl (cM, 400, .inl (fun _ => 0))), (aK, .inl (cK, 400, .inl (fun _ => 0))), (aV, .inl (cV, 400, .inl (fun _ => 0))), (hEra, .inl (cE, 20, .inl (fun _ => 0)))] sz) [(h0, .inr (8, [.ref hRows, .ref hMer, .ref hEra, .ref hTape, .ref hRea, .ref hTra, .ref hWor, .ref hPla, .ref hMod, .ref hHe1, .ref hHe2, .int 0, .int 0, .int 0, .int 0, .int (-1), .int 0]))]) (va_A [(h0, .inr (8, [.ref hRows, .ref hMer, .ref hEra, .ref hTape, .ref hRea, .ref hTra, .ref hWor, .ref hPla, .ref hMod, .ref hHe1, .ref hHe2, .int 0, .int 0, .int 0, .int 0, .int (-1), .int 0])), (hRows, .inr (3, [.ref aP, .ref aS, .ref aM, .ref aK, .ref aV, .int 0, .int 0])), (aP, .inl (cP, 400, .inl (fun _ => 0))), (aS, .inl (cS, 400, .inl (fun _ => 0))), (aM, .inl (cM, 400, .inl (fun _ => 0))), (aK, .inl (cK, 400, .inl (fun _ => 0))), (aV, .inl (cV, 400, .inl (fun _ => 0))), (hEra, .inl (cE, 20, .inl (fun _ => 0)))] sz)) 0 0 (va_A [(h0, .inr (8, [.ref hRows, .ref hMer, .ref hEra, .ref hTape, .ref hRea, .ref hTra, .ref hWor, .ref hPla, .ref hMod, .ref hHe1, .ref hHe2, .int 0, .int 0, .int 0, .int 0, .int (-1), .int 0])), (hRows, .inr (3, [.ref aP, .ref aS, .ref aM, .ref aK, .ref aV, .int 0, .int 0])), (aP, .inl (cP, 400, .inl (fun _ => 0))), (aS, .inl (cS, 400, .inl (fun _ => 0))), (aM, .inl (cM, 400, .inl (fun _ => 0))), (aK, .inl (cK, 400, .inl (fun _ => 0))), (aV, .inl (cV, 400, .inl (fun _ => 0))), (hEra, .inl (cE, 20, .inl (fun _ => 0)))] sz) := by
  refine Met.ofW (cc := cX8_addRow) (maxL := 6) (ret := (some .int)) (by decide) rfl ?_
  intro p e s m args below meth c s₁ B hml hv
  obtain ⟨rfl, hsz, hP, hK, hD0, hN⟩ := hv
  have hx := B.exec
  have hb := B.bytes
  have hr := B.returns
  have hts := atoms_spec (ws := wsX8_addRow) B.pre
  have hown : s.vm.findClass RX8 = some m.cls := findClass_of_methodNamed B.named
  have hlocks := B.notSynchronized
  subst hsz
  have hD := hD0.self (sz := s.heap.size)
  generalize hAe : va_A [(h0, .inr (8, [.ref hRows, .ref hMer, .ref hEra, .ref hTape, .ref hRea, .ref hTra, .ref hWor, .ref hPla, .ref hMod, .ref hHe1, .ref hHe2, .int 0, .int 0, .int 0, .int 0, .int (-1), .int 0])), (hRows, .inr (3, [.ref aP, .ref aS, .ref aM, .ref aK, .ref aV, .int 0, .int 0])), (aP, .inl (cP, 400, .inl (fun _ => 0))), (aS, .inl (cS, 400, .inl (fun _ => 0))), (aM, .inl (cM, 400, .inl (fun _ => 0))), (aK, .inl (cK, 400, .inl (fun _ => 0))), (aV, .inl (cV, 400, .inl (fun _ => 0))), (hEra, .inl (cE, 20, .inl (fun _ => 0)))] s.heap.size = A at hD ⊢
  have hA : ∀ q : Nat, s.heap.size ≤ q → A q := fun q h => by rw [← hAe]; exact Or.inr h
  have hS : va_S A s.heap s.heap [] := va_S.rf
  have hP : va_P (dC, dI) vwCl [(h0, .inr (8, [.ref hRows, .ref hMer, .ref hEra, .ref hTape, .ref hRea, .ref hTra, .ref hWor, .ref hPla, .ref hMod, .ref hHe1, .ref hHe2, .int 0, .int 0, .int 0, .int 0, .int (-1), .int 0])), (hRows, .inr (3, [.ref aP, .ref aS, .ref aM, .ref aK, .ref aV, .int 0, .int 0])), (aP, .inl (cP, 400, .inl (fun _ => 0))), (aS, .inl (cS, 400, .inl (fun _ => 0))), (aM, .inl (cM, 400, .inl (fun _ => 0))), (aK, .inl (cK, 400, .inl (fun _ => 0))), (aV, .inl (cV, 400, .inl (fun _ => 0))), (hEra, .inl (cE, 20, .inl (fun _ => 0)))] s.heap := hP
  have hIX8 : ∀ w ∈ u_ws RX8 TX8 17, w ∈ wsX8_addRow := by decide +kernel
  have hl := lv_entry ([.ref h0, .int pp, .int st, .int mo, .int kn, .int va]) (n := 6) (Nat.le_of_ble_eq_true rfl)
  rw [lg_entry_eq]
  generalize (lg_sl ([.ref h0, .int pp, .int st, .int mo, .int kn, .int va]) ++ List.replicate (6 - (lg_sl ([.ref h0, .int pp, .int st, .int mo, .int kn, .int va])).length) Slot.unset).toArray = ls at hl ⊢
  have hl : lv_has ls 6 [(0, .ref h0), (1, .int pp), (2, .int st), (3, .int mo), (4, .int kn), (5, .int va)] := hl
  refine lv_iload_n hx hb dX8_addRow_0 rfl (lv_at hl 2 rfl) ?_
  have hPc := hP.sub (ws' := []) [] rfl
  have hDc := hD.sub (ws' := []) [] (by decide) rfl
  have hKc := hK.sub (tys' := []) [] rfl
  have hFc := va_free (wc := []) hD hS hA [] rfl
  refine va_calli (va_runS (As := [.int st]) (rest := []) ⟨hx, hb, hml, hown, hts⟩ (c_X8_isStream l dC dI s.heap.size st ) (va_cwS 1 hts gX8_addRow_X8_isStream rfl rfl rfl (by decide +kernel) ⟨Nat.le_of_ble_eq_true rfl, Nat.le_of_ble_eq_true rfl⟩) ⟨fun a U g mk q => by obtain ⟨q0, q1, qP, qK, qD, qN⟩ := q; exact ⟨q0, q1, qP, va_K.moved (u := U) (U := U.calling g mk a) (Vm.Alike.refl U.vm) qK, qD, qN.same rfl⟩, fun U hU hW => ⟨rfl, by rw [hU], by rw [hU]; exact hPc, va_K.moved hW.alike hKc, hDc.weaken (fun _ _ _ _ => trivial), hN.warm hW⟩⟩ rfl rfl hl.1 rfl (lv_room (Nat.le_of_ble_eq_true rfl)) dX8_addRow_1 ⟨Nat.le_of_ble_eq_true rfl, Nat.le_of_ble_eq_true rfl⟩) hS (fun q _ h => hFc q h) hFc (fun r_1 u_2 t H1 locs ht hvm hw_3 hB hz1 hk1 hS => ?_)
  try dsimp only at hw_3
  obtain ⟨hP1, hK1, hD1⟩ := hB
  rw [ht] at hP1
  have hK1 := va_K.moved hvm.symm hK1
  obtain ⟨hP, hD⟩ := va_join (wr := [(h0, .inr (8, [.ref hRows, .ref hMer, .ref hEra, .ref hTape, .ref hRea, .ref hTra, .ref hWor, .ref hPla, .ref hMod, .ref hHe1, .ref hHe2, .int 0, .int 0, .int 0, .int 0, .int (-1), .int 0])), (hRows, .inr (3, [.ref aP, .ref aS, .ref aM, .ref aK, .ref aV, .int 0, .int 0])), (aP, .inl (cP, 400, .inl (fun _ => 0))), (aS, .inl (cS, 400, .inl (fun _ => 0))), (aM, .inl (cM, 400, .inl (fun _ => 0))), (aK, .inl (cK, 400, .inl (fun _ => 0))), (aV, .inl (cV, 400, .inl (fun _ => 0))), (hEra, .inl (cE, 20, .inl (fun _ => 0)))]) (w1 := []) hP hD [] [0, 1, 2, 3, 4, 5, 6, 7] rfl rfl (by decide) (by decide) hk1 hFc hP1 hD1
  have hK := (hK.sub (tys' := [(cP, .int), (cS, .int), (cM, .int), (cK, .int), (cV, .int), (cE, .boolean)]) [0, 1, 2, 3, 4, 5] rfl).app hK1
  generalize H1 = H at hP hS ⊢
  have hP : va_P (dC, dI) vwCl [(h0, .inr (8, [.ref hRows, .ref hMer, .ref hEra, .ref hTape, .ref hRea, .ref hTra, .ref hWor, .ref hPla, .ref hMod, .ref hHe1, .ref hHe2, .int 0, .int 0, .int 0, .int 0, .int (-1), .int 0])), (hRows, .inr (3, [.ref aP, .ref aS, .ref aM, .ref aK, .ref aV, .int 0, .int 0])), (aP, .inl (cP, 400, .inl (fun _ => 0))), (aS, .inl (cS, 400, .inl (fun _ => 0))), (aM, .inl (cM, 400, .inl (fun _ => 0))), (aK, .inl (cK, 400, .inl (fun _ => 0))), (aV, .inl (cV, 400, .inl (fun _ => 0))), (hEra, .inl (cE, 20, .inl (fun _ => 0)))] H := hP
  have hD : va_D A [(h0, .inr (8, [.ref hRows, .ref hMer, .ref hEra, .ref hTape, .ref hRea, .ref hTra, .ref hWor, .ref hPla, .ref hMod, .ref hHe1, .ref hHe2, .int 0, .int 0, .int 0, .int 0, .int (-1), .int 0])), (hRows, .inr (3, [.ref aP, .ref aS, .ref aM, .ref aK, .ref aV, .int 0, .int 0])), (aP, .inl (cP, 400, .inl (fun _ => 0))), (aS, .inl (cS, 400, .inl (fun _ => 0))), (aM, .inl (cM, 400, .inl (fun _ => 0))), (aK, .inl (cK, 400, .inl (fun _ => 0))), (aV, .inl (cV, 400, .inl (fun _ => 0))), (hEra, .inl (cE, 20, .inl (fun _ => 0)))] := hD
  have hK : va_K (dC, dI) vwCl [(cP, .int), (cS, .int), (cM, .int), (cK, .int), (cV, .int), (cE, .boolean)] s := hK
  refine lv_if_eq (tgt := 36) hx hb dX8_addRow_4 (by decide) (fun c_4 => ?_) (fun c_4 => ?_)
  · have dc_4 : r_1.toInt = 0 := jI_eq c_4 rfl (by decide)
    refine lv_iconst (v := (-1)) hx hb dX8_addRow_36 (by decide) ?_
    have hP9 := hP.sub (ws' := [(h0, .inr (8, [.ref hRows, .ref hMer, .ref hEra, .ref hTape, .ref hRea, .ref hTra, .ref hWor, .ref hPla, .ref hMod, .ref hHe1, .ref hHe2, .int 0, .int 0, .int 0, .int 0, .int (-1), .int 0]))]) [0] rfl
    have hD9 := hD.sub (ws' := [(h0, .inr (8, [.ref hRows, .ref hMer, .ref hEra, .ref hTape, .ref hRea, .ref hTra, .ref hWor, .ref hPla, .ref hMod, .ref hHe1, .ref hHe2, .int 0, .int 0, .int 0, .int 0, .int (-1), .int 0]))]) [0] (by decide) rfl
    have hK9 := hK.sub (tys' := []) [] rfl
    have hans : ((-1) : Int32).toInt = (-1) := (by decide)
    exact W.iret (v := (-1)) hx hb hr (fun t ht hW => ⟨⟨(-1), (), rfl, by first | omega | (dsimp only; omega), by rw [ht]; exact hP9, va_K.moved hW.alike hK9, hD9⟩, hS.F ht⟩) hS.2.2 dX8_addRow_37
  · have dc_4 : ¬ r_1.toInt = 0 := jI_ne c_4 rfl (by decide)
    refine lv_iload_n hx hb dX8_addRow_7 rfl (lv_at hl 3 rfl) ?_
    have hPc := hP.sub (ws' := []) [] rfl
    have hDc := hD.sub (ws' := []) [] (by decide) rfl
    have hKc := hK.sub (tys' := []) [] rfl
    have hFc := va_free (wc := []) hD hS hA [] rfl
    refine va_calli (va_runS (As := [.int mo]) (rest := []) ⟨hx, hb, hml, hown, hts⟩ (c_X8_isMoment l dC dI H.size mo ) (va_cwS 1 hts gX8_addRow_X8_isMoment rfl rfl rfl (by decide +kernel) ⟨Nat.le_of_ble_eq_true rfl, Nat.le_of_ble_eq_true rfl⟩) ⟨fun a U g mk q => by obtain ⟨q0, q1, qP, qK, qD, qN⟩ := q; exact ⟨q0, q1, qP, va_K.moved (u := U) (U := U.calling g mk a) (Vm.Alike.refl U.vm) qK, qD, qN.same rfl⟩, fun U hU hW => ⟨rfl, by rw [hU], by rw [hU]; exact hPc, va_K.moved hW.alike hKc, hDc.weaken (fun _ _ _ _ => trivial), hN.warm hW⟩⟩ rfl rfl hl.1 rfl (lv_room (Nat.le_of_ble_eq_true rfl)) dX8_addRow_8 ⟨Nat.le_of_ble_eq_true rfl, Nat.le_of_ble_eq_true rfl⟩) hS (fun q _ h => hFc q h) hFc (fun r_5 u_6 t H1 locs ht hvm hw_7 hB hz1 hk1 hS => ?_)
    try dsimp only at hw_7
    obtain ⟨hP1, hK1, hD1⟩ := hB
    rw [ht] at hP1
    have hK1 := va_K.moved hvm.symm hK1
    obtain ⟨hP, hD⟩ := va_join (wr := [(h0, .inr (8, [.ref hRows, .ref hMer, .ref hEra, .ref hTape, .ref hRea, .ref hTra, .ref hWor, .ref hPla, .ref hMod, .ref hHe1, .ref hHe2, .int 0, .int 0, .int 0, .int 0, .int (-1), .int 0])), (hRows, .inr (3, [.ref aP, .ref aS, .ref aM, .ref aK, .ref aV, .int 0, .int 0])), (aP, .inl (cP, 400, .inl (fun _ => 0))), (aS, .inl (cS, 400, .inl (fun _ => 0))), (aM, .inl (cM, 400, .inl (fun _ => 0))), (aK, .inl (cK, 400, .inl (fun _ => 0))), (aV, .inl (cV, 400, .inl (fun _ => 0))), (hEra, .inl (cE, 20, .inl (fun _ => 0)))]) (w1 := []) hP hD [] [0, 1, 2, 3, 4, 5, 6, 7] rfl rfl (by decide) (by decide) hk1 hFc hP1 hD1
    have hK := (hK.sub (tys' := [(cP, .int), (cS, .int), (cM, .int), (cK, .int), (cV, .int), (cE, .boolean)]) [0, 1, 2, 3, 4, 5] rfl).app hK1
    generalize H1 = H at hP hS ⊢
    have hP : va_P (dC, dI) vwCl [(h0, .inr (8, [.ref hRows, .ref hMer, .ref hEra, .ref hTape, .ref hRea, .ref hTra, .ref hWor, .ref hPla, .ref hMod, .ref hHe1, .ref hHe2, .int 0, .int 0, .int 0, .int 0, .int (-1), .int 0])), (hRows, .inr (3, [.ref aP, .ref aS, .ref aM, .ref aK, .ref aV, .int 0, .int 0])), (aP, .inl (cP, 400, .inl (fun _ => 0))), (aS, .inl (cS, 400, .inl (fun _ => 0))), (aM, .inl (cM, 400, .inl (fun _ => 0))), (aK, .inl (cK, 400, .inl (fun _ => 0))), (aV, .inl (cV, 400, .inl (fun _ => 0))), (hEra, .inl (cE, 20, .inl (fun _ => 0)))] H := hP
    have hD : va_D A [(h0, .inr (8, [.ref hRows, .ref hMer, .ref hEra, .ref hTape, .ref hRea, .ref hTra, .ref hWor, .ref hPla, .ref hMod, .ref hHe1, .ref hHe2, .int 0, .int 0, .int 0, .int 0, .int (-1), .int 0])), (hRows, .inr (3, [.ref aP, .ref aS, .ref aM, .ref aK, .ref aV, .int 0, .int 0])), (aP, .inl (cP, 400, .inl (fun _ => 0))), (aS, .inl (cS, 400, .inl (fun _ => 0))), (aM, .inl (cM, 400, .inl (fun _ => 0))), (aK, .inl (cK, 400, .inl (fun _ => 0))), (aV, .inl (cV, 400, .inl (fun _ => 0))), (hEra, .inl (cE, 20, .inl (fun _ => 0)))] := hD
    have hK : va_K (dC, dI) vwCl [(cP, .int), (cS, .int), (cM, .int), (cK, .int), (cV, .int), (cE, .boolean)] s := hK
    refine lv_if_eq (tgt := 36) hx hb dX8_addRow_11 (by decide) (fun c_8 => ?_) (fun c_8 => ?_)
    · have dc_8 : r_5.toInt = 0 := jI_eq c_8 rfl (by decide)
      refine lv_iconst (v := (-1)) hx hb dX8_addRow_36 (by decide) ?_
      have hP9 := hP.sub (ws' := [(h0, .inr (8, [.ref hRows, .ref hMer, .ref hEra, .ref hTape, .ref hRea, .ref hTra, .ref hWor, .ref hPla, .ref hMod, .ref hHe1, .ref hHe2, .int 0, .int 0, .int 0, .int 0, .int (-1), .int 0]))]) [0] rfl
      have hD9 := hD.sub (ws' := [(h0, .inr (8, [.ref hRows, .ref hMer, .ref hEra, .ref hTape, .ref hRea, .ref hTra, .ref hWor, .ref hPla, .ref hMod, .ref hHe1, .ref hHe2, .int 0, .int 0, .int 0, .int 0, .int (-1), .int 0]))]) [0] (by decide) rfl
      have hK9 := hK.sub (tys' := []) [] rfl
      have hans : ((-1) : Int32).toInt = (-1) := (by decide)
      exact W.iret (v := (-1)) hx hb hr (fun t ht hW => ⟨⟨(-1), (), rfl, by first | omega | (dsimp only; omega), by rw [ht]; exact hP9, va_K.moved hW.alike hK9, hD9⟩, hS.F ht⟩) hS.2.2 dX8_addRow_37
    · have dc_8 : ¬ r_5.toInt = 0 := jI_ne c_8 rfl (by decide)
      refine lv_iload hx hb dX8_addRow_14 (lv_at hl 4 rfl) ?_
      have hPc := hP.sub (ws' := []) [] rfl
      have hDc := hD.sub (ws' := []) [] (by decide) rfl
      have hKc := hK.sub (tys' := []) [] rfl
      have hFc := va_free (wc := []) hD hS hA [] rfl
      refine va_calli (va_runS (As := [.int kn]) (rest := []) ⟨hx, hb, hml, hown, hts⟩ (c_X8_isMoment l dC dI H.size kn ) (va_cwS 1 hts gX8_addRow_X8_isMoment rfl rfl rfl (by decide +kernel) ⟨Nat.le_of_ble_eq_true rfl, Nat.le_of_ble_eq_true rfl⟩) ⟨fun a U g mk q => by obtain ⟨q0, q1, qP, qK, qD, qN⟩ := q; exact ⟨q0, q1, qP, va_K.moved (u := U) (U := U.calling g mk a) (Vm.Alike.refl U.vm) qK, qD, qN.same rfl⟩, fun U hU hW => ⟨rfl, by rw [hU], by rw [hU]; exact hPc, va_K.moved hW.alike hKc, hDc.weaken (fun _ _ _ _ => trivial), hN.warm hW⟩⟩ rfl rfl hl.1 rfl (lv_room (Nat.le_of_ble_eq_true rfl)) dX8_addRow_16 ⟨Nat.le_of_ble_eq_true rfl, Nat.le_of_ble_eq_true rfl⟩) hS (fun q _ h => hFc q h) hFc (fun r_9 u_10 t H1 locs ht hvm hw_11 hB hz1 hk1 hS => ?_)
      try dsimp only at hw_11
      obtain ⟨hP1, hK1, hD1⟩ := hB
      rw [ht] at hP1
      have hK1 := va_K.moved hvm.symm hK1
      obtain ⟨hP, hD⟩ := va_join (wr := [(h0, .inr (8, [.ref hRows, .ref hMer, .ref hEra, .ref hTape, .ref hRea, .ref hTra, .ref hWor, .ref hPla, .ref hMod, .ref hHe1, .ref hHe2, .int 0, .int 0, .int 0, .int 0, .int (-1), .int 0])), (hRows, .inr (3, [.ref aP, .ref aS, .ref aM, .ref aK, .ref aV, .int 0, .int 0])), (aP, .inl (cP, 400, .inl (fun _ => 0))), (aS, .inl (cS, 400, .inl (fun _ => 0))), (aM, .inl (cM, 400, .inl (fun _ => 0))), (aK, .inl (cK, 400, .inl (fun _ => 0))), (aV, .inl (cV, 400, .inl (fun _ => 0))), (hEra, .inl (cE, 20, .inl (fun _ => 0)))]) (w1 := []) hP hD [] [0, 1, 2, 3, 4, 5, 6, 7] rfl rfl (by decide) (by decide) hk1 hFc hP1 hD1
      have hK := (hK.sub (tys' := [(cP, .int), (cS, .int), (cM, .int), (cK, .int), (cV, .int), (cE, .boolean)]) [0, 1, 2, 3, 4, 5] rfl).app hK1
      generalize H1 = H at hP hS ⊢
      have hP : va_P (dC, dI) vwCl [(h0, .inr (8, [.ref hRows, .ref hMer, .ref hEra, .ref hTape, .ref hRea, .ref hTra, .ref hWor, .ref hPla, .ref hMod, .ref hHe1, .ref hHe2, .int 0, .int 0, .int 0, .int 0, .int (-1), .int 0])), (hRows, .inr (3, [.ref aP, .ref aS, .ref aM, .ref aK, .ref aV, .int 0, .int 0])), (aP, .inl (cP, 400, .inl (fun _ => 0))), (aS, .inl (cS, 400, .inl (fun _ => 0))), (aM, .inl (cM, 400, .inl (fun _ => 0))), (aK, .inl (cK, 400, .inl (fun _ => 0))), (aV, .inl (cV, 400, .inl (fun _ => 0))), (hEra, .inl (cE, 20, .inl (fun _ => 0)))] H := hP
      have hD : va_D A [(h0, .inr (8, [.ref hRows, .ref hMer, .ref hEra, .ref hTape, .ref hRea, .ref hTra, .ref hWor, .ref hPla, .ref hMod, .ref hHe1, .ref hHe2, .int 0, .int 0, .int 0, .int 0, .int (-1), .int 0])), (hRows, .inr (3, [.ref aP, .ref aS, .ref aM, .ref aK, .ref aV, .int 0, .int 0])), (aP, .inl (cP, 400, .inl (fun _ => 0))), (aS, .inl (cS, 400, .inl (fun _ => 0))), (aM, .inl (cM, 400, .inl (fun _ => 0))), (aK, .inl (cK, 400, .inl (fun _ => 0))), (aV, .inl (cV, 400, .inl (fun _ => 0))), (hEra, .inl (cE, 20, .inl (fun _ => 0)))] := hD
      have hK : va_K (dC, dI) vwCl [(cP, .int), (cS, .int), (cM, .int), (cK, .int), (cV, .int), (cE, .boolean)] s := hK
      refine lv_if_eq (tgt := 36) hx hb dX8_addRow_19 (by decide) (fun c_12 => ?_) (fun c_12 => ?_)
      · have dc_12 : r_9.toInt = 0 := jI_eq c_12 rfl (by decide)
        refine lv_iconst (v := (-1)) hx hb dX8_addRow_36 (by decide) ?_
        have hP9 := hP.sub (ws' := [(h0, .inr (8, [.ref hRows, .ref hMer, .ref hEra, .ref hTape, .ref hRea, .ref hTra, .ref hWor, .ref hPla, .ref hMod, .ref hHe1, .ref hHe2, .int 0, .int 0, .int 0, .int 0, .int (-1), .int 0]))]) [0] rfl
        have hD9 := hD.sub (ws' := [(h0, .inr (8, [.ref hRows, .ref hMer, .ref hEra, .ref hTape, .ref hRea, .ref hTra, .ref hWor, .ref hPla, .ref hMod, .ref hHe1, .ref hHe2, .int 0, .int 0, .int 0, .int 0, .int (-1), .int 0]))]) [0] (by decide) rfl
        have hK9 := hK.sub (tys' := []) [] rfl
        have hans : ((-1) : Int32).toInt = (-1) := (by decide)
        exact W.iret (v := (-1)) hx hb hr (fun t ht hW => ⟨⟨(-1), (), rfl, by first | omega | (dsimp only; omega), by rw [ht]; exact hP9, va_K.moved hW.alike hK9, hD9⟩, hS.F ht⟩) hS.2.2 dX8_addRow_37
      · have dc_12 : ¬ r_9.toInt = 0 := jI_ne c_12 rfl (by decide)
        refine lv_iload hx hb dX8_addRow_22 (lv_at hl 4 rfl) ?_
        refine lv_iload_n hx hb dX8_addRow_24 rfl (lv_at hl 3 rfl) ?_
        refine lv_icmp_lt (tgt := 36) hx hb dX8_addRow_25 (by decide) (fun c_13 => ?_) (fun c_13 => ?_)
        · have dc_13 : kn.toInt < mo.toInt := jI_lt c_13 rfl rfl
          refine lv_iconst (v := (-1)) hx hb dX8_addRow_36 (by decide) ?_
          have hP9 := hP.sub (ws' := [(h0, .inr (8, [.ref hRows, .ref hMer, .ref hEra, .ref hTape, .ref hRea, .ref hTra, .ref hWor, .ref hPla, .ref hMod, .ref hHe1, .ref hHe2, .int 0, .int 0, .int 0, .int 0, .int (-1), .int 0]))]) [0] rfl
          have hD9 := hD.sub (ws' := [(h0, .inr (8, [.ref hRows, .ref hMer, .ref hEra, .ref hTape, .ref hRea, .ref hTra, .ref hWor, .ref hPla, .ref hMod, .ref hHe1, .ref hHe2, .int 0, .int 0, .int 0, .int 0, .int (-1), .int 0]))]) [0] (by decide) rfl
          have hK9 := hK.sub (tys' := []) [] rfl
          have hans : ((-1) : Int32).toInt = (-1) := (by decide)
          exact W.iret (v := (-1)) hx hb hr (fun t ht hW => ⟨⟨(-1), (), rfl, by first | omega | (dsimp only; omega), by rw [ht]; exact hP9, va_K.moved hW.alike hK9, hD9⟩, hS.F ht⟩) hS.2.2 dX8_addRow_37
        · have dc_13 : mo.toInt ≤ kn.toInt := jI_nlt c_13 rfl rfl
          refine lv_iload hx hb dX8_addRow_28 (lv_at hl 5 rfl) ?_
          have hPc := hP.sub (ws' := []) [] rfl
          have hDc := hD.sub (ws' := []) [] (by decide) rfl
          have hKc := hK.sub (tys' := []) [] rfl
          have hFc := va_free (wc := []) hD hS hA [] rfl
          refine va_calli (va_runS (As := [.int va]) (rest := []) ⟨hx, hb, hml, hown, hts⟩ (c_X8_isRowValue l dC dI H.size va ) (va_cwS 1 hts gX8_addRow_X8_isRowValue rfl rfl rfl (by decide +kernel) ⟨Nat.le_of_ble_eq_true rfl, Nat.le_of_ble_eq_true rfl⟩) ⟨fun a U g mk q => by obtain ⟨q0, q1, qP, qK, qD, qN⟩ := q; exact ⟨q0, q1, qP, va_K.moved (u := U) (U := U.calling g mk a) (Vm.Alike.refl U.vm) qK, qD, qN.same rfl⟩, fun U hU hW => ⟨rfl, by rw [hU], by rw [hU]; exact hPc, va_K.moved hW.alike hKc, hDc.weaken (fun _ _ _ _ => trivial), hN.warm hW⟩⟩ rfl rfl hl.1 rfl (lv_room (Nat.le_of_ble_eq_true rfl)) dX8_addRow_30 ⟨Nat.le_of_ble_eq_true rfl, Nat.le_of_ble_eq_true rfl⟩) hS (fun q _ h => hFc q h) hFc (fun r_14 u_15 t H1 locs ht hvm hw_16 hB hz1 hk1 hS => ?_)
          try dsimp only at hw_16
          obtain ⟨hP1, hK1, hD1⟩ := hB
          rw [ht] at hP1
          have hK1 := va_K.moved hvm.symm hK1
          obtain ⟨hP, hD⟩ := va_join (wr := [(h0, .inr (8, [.ref hRows, .ref hMer, .ref hEra, .ref hTape, .ref hRea, .ref hTra, .ref hWor, .ref hPla, .ref hMod, .ref hHe1, .ref hHe2, .int 0, .int 0, .int 0, .int 0, .int (-1), .int 0])), (hRows, .inr (3, [.ref aP, .ref aS, .ref aM, .ref aK, .ref aV, .int 0, .int 0])), (aP, .inl (cP, 400, .inl (fun _ => 0))), (aS, .inl (cS, 400, .inl (fun _ => 0))), (aM, .inl (cM, 400, .inl (fun _ => 0))), (aK, .inl (cK, 400, .inl (fun _ => 0))), (aV, .inl (cV, 400, .inl (fun _ => 0))), (hEra, .inl (cE, 20, .inl (fun _ => 0)))]) (w1 := []) hP hD [] [0, 1, 2, 3, 4, 5, 6, 7] rfl rfl (by decide) (by decide) hk1 hFc hP1 hD1
          have hK := (hK.sub (tys' := [(cP, .int), (cS, .int), (cM, .int), (cK, .int), (cV, .int), (cE, .boolean)]) [0, 1, 2, 3, 4, 5] rfl).app hK1
          generalize H1 = H at hP hS ⊢
          have hP : va_P (dC, dI) vwCl [(h0, .inr (8, [.ref hRows, .ref hMer, .ref hEra, .ref hTape, .ref hRea, .ref hTra, .ref hWor, .ref hPla, .ref hMod, .ref hHe1, .ref hHe2, .int 0, .int 0, .int 0, .int 0, .int (-1), .int 0])), (hRows, .inr (3, [.ref aP, .ref aS, .ref aM, .ref aK, .ref aV, .int 0, .int 0])), (aP, .inl (cP, 400, .inl (fun _ => 0))), (aS, .inl (cS, 400, .inl (fun _ => 0))), (aM, .inl (cM, 400, .inl (fun _ => 0))), (aK, .inl (cK, 400, .inl (fun _ => 0))), (aV, .inl (cV, 400, .inl (fun _ => 0))), (hEra, .inl (cE, 20, .inl (fun _ => 0)))] H := hP
          have hD : va_D A [(h0, .inr (8, [.ref hRows, .ref hMer, .ref hEra, .ref hTape, .ref hRea, .ref hTra, .ref hWor, .ref hPla, .ref hMod, .ref hHe1, .ref hHe2, .int 0, .int 0, .int 0, .int 0, .int (-1), .int 0])), (hRows, .inr (3, [.ref aP, .ref aS, .ref aM, .ref aK, .ref aV, .int 0, .int 0])), (aP, .inl (cP, 400, .inl (fun _ => 0))), (aS, .inl (cS, 400, .inl (fun _ => 0))), (aM, .inl (cM, 400, .inl (fun _ => 0))), (aK, .inl (cK, 400, .inl (fun _ => 0))), (aV, .inl (cV, 400, .inl (fun _ => 0))), (hEra, .inl (cE, 20, .inl (fun _ => 0)))] := hD
          have hK : va_K (dC, dI) vwCl [(cP, .int), (cS, .int), (cM, .int), (cK, .int), (cV, .int), (cE, .boolean)] s := hK
          refine lv_if_ne (tgt := 38) hx hb dX8_addRow_33 (by decide) (fun c_17 => ?_) (fun c_17 => ?_)
          · have dc_17 : ¬ r_14.toInt = 0 := jI_ne c_17 rfl (by decide)
            refine lv_iload_n hx hb dX8_addRow_38 rfl (lv_at hl 1 rfl) ?_
            have hPc := hP.sub (ws' := []) [] rfl
            have hDc := hD.sub (ws' := []) [] (by decide) rfl
            have hKc := hK.sub (tys' := []) [] rfl
            have hFc := va_free (wc := []) hD hS hA [] rfl
            refine va_calli (va_runS (As := [.int pp]) (rest := []) ⟨hx, hb, hml, hown, hts⟩ (c_X8_isPerson l dC dI H.size pp ) (va_cwS 1 hts gX8_addRow_X8_isPerson rfl rfl rfl (by decide +kernel) ⟨Nat.le_of_ble_eq_true rfl, Nat.le_of_ble_eq_true rfl⟩) ⟨fun a U g mk q => by obtain ⟨q0, q1, qP, qK, qD, qN⟩ := q; exact ⟨q0, q1, qP, va_K.moved (u := U) (U := U.calling g mk a) (Vm.Alike.refl U.vm) qK, qD, qN.same rfl⟩, fun U hU hW => ⟨rfl, by rw [hU], by rw [hU]; exact hPc, va_K.moved hW.alike hKc, hDc.weaken (fun _ _ _ _ => trivial), hN.warm hW⟩⟩ rfl rfl hl.1 rfl (lv_room (Nat.le_of_ble_eq_true rfl)) dX8_addRow_39 ⟨Nat.le_of_ble_eq_true rfl, Nat.le_of_ble_eq_true rfl⟩) hS (fun q _ h => hFc q h) hFc (fun r_18 u_19 t H1 locs ht hvm hw_20 hB hz1 hk1 hS => ?_)
            try dsimp only at hw_20
            obtain ⟨hP1, hK1, hD1⟩ := hB
            rw [ht] at hP1
            have hK1 := va_K.moved hvm.symm hK1
            obtain ⟨hP, hD⟩ := va_join (wr := [(h0, .inr (8, [.ref hRows, .ref hMer, .ref hEra, .ref hTape, .ref hRea, .ref hTra, .ref hWor, .ref hPla, .ref hMod, .ref hHe1, .ref hHe2, .int 0, .int 0, .int 0, .int 0, .int (-1), .int 0])), (hRows, .inr (3, [.ref aP, .ref aS, .ref aM, .ref aK, .ref aV, .int 0, .int 0])), (aP, .inl (cP, 400, .inl (fun _ => 0))), (aS, .inl (cS, 400, .inl (fun _ => 0))), (aM, .inl (cM, 400, .inl (fun _ => 0))), (aK, .inl (cK, 400, .inl (fun _ => 0))), (aV, .inl (cV, 400, .inl (fun _ => 0))), (hEra, .inl (cE, 20, .inl (fun _ => 0)))]) (w1 := []) hP hD [] [0, 1, 2, 3, 4, 5, 6, 7] rfl rfl (by decide) (by decide) hk1 hFc hP1 hD1
            have hK := (hK.sub (tys' := [(cP, .int), (cS, .int), (cM, .int), (cK, .int), (cV, .int), (cE, .boolean)]) [0, 1, 2, 3, 4, 5] rfl).app hK1
            generalize H1 = H at hP hS ⊢
            have hP : va_P (dC, dI) vwCl [(h0, .inr (8, [.ref hRows, .ref hMer, .ref hEra, .ref hTape, .ref hRea, .ref hTra, .ref hWor, .ref hPla, .ref hMod, .ref hHe1, .ref hHe2, .int 0, .int 0, .int 0, .int 0, .int (-1), .int 0])), (hRows, .inr (3, [.ref aP, .ref aS, .ref aM, .ref aK, .ref aV, .int 0, .int 0])), (aP, .inl (cP, 400, .inl (fun _ => 0))), (aS, .inl (cS, 400, .inl (fun _ => 0))), (aM, .inl (cM, 400, .inl (fun _ => 0))), (aK, .inl (cK, 400, .inl (fun _ => 0))), (aV, .inl (cV, 400, .inl (fun _ => 0))), (hEra, .inl (cE, 20, .inl (fun _ => 0)))] H := hP
            have hD : va_D A [(h0, .inr (8, [.ref hRows, .ref hMer, .ref hEra, .ref hTape, .ref hRea, .ref hTra, .ref hWor, .ref hPla, .ref hMod, .ref hHe1, .ref hHe2, .int 0, .int 0, .int 0, .int 0, .int (-1), .int 0])), (hRows, .inr (3, [.ref aP, .ref aS, .ref aM, .ref aK, .ref aV, .int 0, .int 0])), (aP, .inl (cP, 400, .inl (fun _ => 0))), (aS, .inl (cS, 400, .inl (fun _ => 0))), (aM, .inl (cM, 400, .inl (fun _ => 0))), (aK, .inl (cK, 400, .inl (fun _ => 0))), (aV, .inl (cV, 400, .inl (fun _ => 0))), (hEra, .inl (cE, 20, .inl (fun _ => 0)))] := hD
            have hK : va_K (dC, dI) vwCl [(cP, .int), (cS, .int), (cM, .int), (cK, .int), (cV, .int), (cE, .boolean)] s := hK
            refine lv_if_ne (tgt := 48) hx hb dX8_addRow_42 (by decide) (fun c_21 => ?_) (fun c_21 => ?_)
            · have dc_21 : ¬ r_18.toInt = 0 := jI_ne c_21 rfl (by decide)
              refine lv_aload_n hx hb dX8_addRow_48 rfl (lv_at hl 0 rfl) ?_
              refine va_get (D := (dC, dI)) (ci := 8) (v := .ref hRows) (C := RX8) (T := TX8) (N := 17) hx hb hts hIX8 hown hK hP 0 rfl rfl 0 (by decide) (hts (.fieldLink RX8 10 "TraitHouse" "rows" "LTraitHouse$Rows;") (by decide +kernel)) (fun _ h9 => h9) rfl dX8_addRow_49 ?_
              have hPc := hP.sub (ws' := [(hRows, .inr (3, [.ref aP, .ref aS, .ref aM, .ref aK, .ref aV, .int 0, .int 0]))]) [1] rfl
              have hDc := hD.sub (ws' := [(hRows, .inr (3, [.ref aP, .ref aS, .ref aM, .ref aK, .ref aV, .int 0, .int 0]))]) [1] (by decide) rfl
              have hKc := hK.sub (tys' := []) [] rfl
              have hFc := va_free (wc := [(hRows, .inr (3, [.ref aP, .ref aS, .ref aM, .ref aK, .ref aV, .int 0, .int 0]))]) hD hS hA [1] rfl
              refine va_calli (va_runVN (As := []) (rest := []) ⟨hx, hb, hml, hown, hts⟩ (c_X3_isFull l dC dI H.size hRows aP aS aM aK aV ) ⟨(va_cnB 0 hts gX8_addRow_X3_isFull_n103 rfl rfl rfl (nw_at hN 36 rfl) (hts (.initialized RX3) (by decide +kernel)) (by decide +kernel) ⟨Nat.le_of_ble_eq_true rfl, Nat.le_of_ble_eq_true rfl⟩), (hts (.instanceMethod yX3_isFull) (by decide +kernel)), (hts (.selects RX3 yX3_isFull yX3_isFull) (by decide +kernel))⟩ ⟨fun a U g mk q => by obtain ⟨q0, q1, qP, qK, qD, qN⟩ := q; exact ⟨q0, q1, qP, va_K.moved (u := U) (U := U.calling g mk a) (Vm.Alike.refl U.vm) qK, qD, qN.same rfl⟩, va_recv hKc hPc (ci := 3) (q0 := 0) rfl rfl, fun U hU hW => ⟨rfl, by rw [hU], by rw [hU]; exact hPc, va_K.moved hW.alike hKc, hDc.weaken (fun _ _ _ _ => trivial), hN.warm hW⟩⟩ rfl rfl hl.1 rfl (lv_room (Nat.le_of_ble_eq_true rfl)) dX8_addRow_52 ⟨Nat.le_of_ble_eq_true rfl, Nat.le_of_ble_eq_true rfl⟩) hS (fun q _ h => hFc q h) hFc (fun r_22 u_23 t H1 locs ht hvm hw_24 hB hz1 hk1 hS => ?_)
              try dsimp only at hw_24
              obtain ⟨hP1, hK1, hD1⟩ := hB
              rw [ht] at hP1
              have hK1 := va_K.moved hvm.symm hK1
              obtain ⟨hP, hD⟩ := va_join (wr := [(h0, .inr (8, [.ref hRows, .ref hMer, .ref hEra, .ref hTape, .ref hRea, .ref hTra, .ref hWor, .ref hPla, .ref hMod, .ref hHe1, .ref hHe2, .int 0, .int 0, .int 0, .int 0, .int (-1), .int 0])), (aP, .inl (cP, 400, .inl (fun _ => 0))), (aS, .inl (cS, 400, .inl (fun _ => 0))), (aM, .inl (cM, 400, .inl (fun _ => 0))), (aK, .inl (cK, 400, .inl (fun _ => 0))), (aV, .inl (cV, 400, .inl (fun _ => 0))), (hEra, .inl (cE, 20, .inl (fun _ => 0)))]) (w1 := [(hRows, .inr (3, [.ref aP, .ref aS, .ref aM, .ref aK, .ref aV, .int 0, .int 0]))]) hP hD [1] [0, 2, 3, 4, 5, 6, 7] rfl rfl (by decide) (by decide) hk1 hFc hP1 hD1
              have hK := (hK.sub (tys' := [(cP, .int), (cS, .int), (cM, .int), (cK, .int), (cV, .int), (cE, .boolean)]) [0, 1, 2, 3, 4, 5] rfl).app hK1
              generalize H1 = H at hP hS ⊢
              have hP : va_P (dC, dI) vwCl [(h0, .inr (8, [.ref hRows, .ref hMer, .ref hEra, .ref hTape, .ref hRea, .ref hTra, .ref hWor, .ref hPla, .ref hMod, .ref hHe1, .ref hHe2, .int 0, .int 0, .int 0, .int 0, .int (-1), .int 0])), (aP, .inl (cP, 400, .inl (fun _ => 0))), (aS, .inl (cS, 400, .inl (fun _ => 0))), (aM, .inl (cM, 400, .inl (fun _ => 0))), (aK, .inl (cK, 400, .inl (fun _ => 0))), (aV, .inl (cV, 400, .inl (fun _ => 0))), (hEra, .inl (cE, 20, .inl (fun _ => 0))), (hRows, .inr (3, [.ref aP, .ref aS, .ref aM, .ref aK, .ref aV, .int 0, .int 0]))] H := hP
              have hD : va_D A [(h0, .inr (8, [.ref hRows, .ref hMer, .ref hEra, .ref hTape, .ref hRea, .ref hTra, .ref hWor, .ref hPla, .ref hMod, .ref hHe1, .ref hHe2, .int 0, .int 0, .int 0, .int 0, .int (-1), .int 0])), (aP, .inl (cP, 400, .inl (fun _ => 0))), (aS, .inl (cS, 400, .inl (fun _ => 0))), (aM, .inl (cM, 400, .inl (fun _ => 0))), (aK, .inl (cK, 400, .inl (fun _ => 0))), (aV, .inl (cV, 400, .inl (fun _ => 0))), (hEra, .inl (cE, 20, .inl (fun _ => 0))), (hRows, .inr (3, [.ref aP, .ref aS, .ref aM, .ref aK, .ref aV, .int 0, .int 0]))] := hD
              have hK : va_K (dC, dI) vwCl [(cP, .int), (cS, .int), (cM, .int), (cK, .int), (cV, .int), (cE, .boolean)] s := hK
              obtain rfl : 0 = r_22 := hw_24.symm
              refine lv_if_eq (tgt := 61) hx hb dX8_addRow_55 (by decide) (fun c_25 => ?_) (fun c_25 => absurd (by decide) c_25)
              refine lv_aload_n hx hb dX8_addRow_61 rfl (lv_at hl 0 rfl) ?_
              refine va_get (D := (dC, dI)) (ci := 8) (v := .ref hEra) (C := RX8) (T := TX8) (N := 17) hx hb hts hIX8 hown hK hP 0 rfl rfl 2 (by decide) (hts (.fieldLink RX8 23 "TraitHouse" "erased" "[Z") (by decide +kernel)) (fun _ h9 => h9) rfl dX8_addRow_62 ?_
              refine lv_iload_n hx hb dX8_addRow_65 rfl (lv_at hl 1 rfl) ?_
              have h_26 : vp_in pp 20 := (vp_in_iff.mpr ⟨by omega, by omega⟩)
              refine va_zald hx hb hK hP 6 5 rfl rfl h_26 dX8_addRow_66 ?_
              refine lv_topi (fun x_27 ex_27 => ?_)
              obtain rfl : x_27 = 0 := ex_27
              refine lv_if_eq (tgt := 73) hx hb dX8_addRow_67 (by decide) (fun c_28 => ?_) (fun c_28 => absurd (by decide) c_28)
              refine lv_aload_n hx hb dX8_addRow_73 rfl (lv_at hl 0 rfl) ?_
              refine va_get (D := (dC, dI)) (ci := 8) (v := .ref hRows) (C := RX8) (T := TX8) (N := 17) hx hb hts hIX8 hown hK hP 0 rfl rfl 0 (by decide) (hts (.fieldLink RX8 10 "TraitHouse" "rows" "LTraitHouse$Rows;") (by decide +kernel)) (fun _ h9 => h9) rfl dX8_addRow_74 ?_
              refine lv_iload_n hx hb dX8_addRow_77 rfl (lv_at hl 1 rfl) ?_
              refine lv_iload_n hx hb dX8_addRow_78 rfl (lv_at hl 2 rfl) ?_
              refine lv_iload_n hx hb dX8_addRow_79 rfl (lv_at hl 3 rfl) ?_
              refine lv_iload hx hb dX8_addRow_80 (lv_at hl 4 rfl) ?_
              refine lv_iload hx hb dX8_addRow_82 (lv_at hl 5 rfl) ?_
              have hPc := hP.sub (ws' := [(hRows, .inr (3, [.ref aP, .ref aS, .ref aM, .ref aK, .ref aV, .int 0, .int 0])), (aP, .inl (cP, 400, .inl (fun _ => 0))), (aS, .inl (cS, 400, .inl (fun _ => 0))), (aM, .inl (cM, 400, .inl (fun _ => 0))), (aK, .inl (cK, 400, .inl (fun _ => 0))), (aV, .inl (cV, 400, .inl (fun _ => 0)))]) [7, 1, 2, 3, 4, 5] rfl
              have hDc := hD.sub (ws' := [(hRows, .inr (3, [.ref aP, .ref aS, .ref aM, .ref aK, .ref aV, .int 0, .int 0])), (aP, .inl (cP, 400, .inl (fun _ => 0))), (aS, .inl (cS, 400, .inl (fun _ => 0))), (aM, .inl (cM, 400, .inl (fun _ => 0))), (aK, .inl (cK, 400, .inl (fun _ => 0))), (aV, .inl (cV, 400, .inl (fun _ => 0)))]) [7, 1, 2, 3, 4, 5] (by decide) rfl
              have hKc := hK.sub (tys' := [(cP, .int), (cS, .int), (cM, .int), (cK, .int), (cV, .int)]) [0, 1, 2, 3, 4] rfl
              have hFc := va_free (wc := [(hRows, .inr (3, [.ref aP, .ref aS, .ref aM, .ref aK, .ref aV, .int 0, .int 0])), (aP, .inl (cP, 400, .inl (fun _ => 0))), (aS, .inl (cS, 400, .inl (fun _ => 0))), (aM, .inl (cM, 400, .inl (fun _ => 0))), (aK, .inl (cK, 400, .inl (fun _ => 0))), (aV, .inl (cV, 400, .inl (fun _ => 0)))]) hD hS hA [7, 1, 2, 3, 4, 5] rfl
              refine va_calli (va_runVN (As := [.int pp, .int st, .int mo, .int kn, .int va]) (rest := []) ⟨hx, hb, hml, hown, hts⟩ (c_X3_add l dC dI H.size hRows aP aS aM aK aV cP cS cM cK cV pp st mo kn va ) ⟨(va_cnB 5 hts gX8_addRow_X3_add_n107 rfl rfl rfl (nw_at hN 37 rfl) (hts (.initialized RX3) (by decide +kernel)) (by decide +kernel) ⟨Nat.le_of_ble_eq_true rfl, Nat.le_of_ble_eq_true rfl⟩), (hts (.instanceMethod yX3_add) (by decide +kernel)), (hts (.selects RX3 yX3_add yX3_add) (by decide +kernel))⟩ ⟨fun a U g mk q => by obtain ⟨q0, q1, qP, qK, qD, qN⟩ := q; exact ⟨q0, q1, qP, va_K.moved (u := U) (U := U.calling g mk a) (Vm.Alike.refl U.vm) qK, qD, qN.same rfl⟩, va_recv hKc hPc (ci := 3) (q0 := 0) rfl rfl, fun U hU hW => ⟨rfl, by rw [hU], by rw [hU]; exact hPc, va_K.moved hW.alike hKc, hDc.weaken (fun _ _ _ _ => trivial), hN.warm hW⟩⟩ rfl rfl hl.1 rfl (lv_room (Nat.le_of_ble_eq_true rfl)) dX8_addRow_84 ⟨Nat.le_of_ble_eq_true rfl, Nat.le_of_ble_eq_true rfl⟩) hS (fun q _ h => hFc q h) hFc (fun r_29 u_30 t H1 locs ht hvm hw_31 hB hz1 hk1 hS => ?_)
              try dsimp only at hw_31
              have hP1 : va_P (dC, dI) vwCl [] H1 := fun k q h => by simp at h
              have hD1 : va_D (va_A [(hRows, .inr (3, [.ref aP, .ref aS, .ref aM, .ref aK, .ref aV, .int 0, .int 0])), (aP, .inl (cP, 400, .inl (fun _ => 0))), (aS, .inl (cS, 400, .inl (fun _ => 0))), (aM, .inl (cM, 400, .inl (fun _ => 0))), (aK, .inl (cK, 400, .inl (fun _ => 0))), (aV, .inl (cV, 400, .inl (fun _ => 0)))] H.size) [] := ⟨fun i j p q h => by simp at h, fun k q h => by simp at h⟩
              have hK1 : va_K (dC, dI) vwCl [] s := hK.sub [] rfl
              obtain ⟨hP, hD⟩ := va_join (wr := [(h0, .inr (8, [.ref hRows, .ref hMer, .ref hEra, .ref hTape, .ref hRea, .ref hTra, .ref hWor, .ref hPla, .ref hMod, .ref hHe1, .ref hHe2, .int 0, .int 0, .int 0, .int 0, .int (-1), .int 0])), (hEra, .inl (cE, 20, .inl (fun _ => 0)))]) (w1 := []) hP hD [7, 1, 2, 3, 4, 5] [0, 6] rfl rfl (by decide) (by decide) hk1 hFc hP1 hD1
              have hK := (hK.sub (tys' := [(cP, .int), (cS, .int), (cM, .int), (cK, .int), (cV, .int), (cE, .boolean)]) [0, 1, 2, 3, 4, 5] rfl).app hK1
              generalize H1 = H at hP hS ⊢
              have hP : va_P (dC, dI) vwCl [(h0, .inr (8, [.ref hRows, .ref hMer, .ref hEra, .ref hTape, .ref hRea, .ref hTra, .ref hWor, .ref hPla, .ref hMod, .ref hHe1, .ref hHe2, .int 0, .int 0, .int 0, .int 0, .int (-1), .int 0])), (hEra, .inl (cE, 20, .inl (fun _ => 0)))] H := hP
              have hD : va_D A [(h0, .inr (8, [.ref hRows, .ref hMer, .ref hEra, .ref hTape, .ref hRea, .ref hTra, .ref hWor, .ref hPla, .ref hMod, .ref hHe1, .ref hHe2, .int 0, .int 0, .int 0, .int 0, .int (-1), .int 0])), (hEra, .inl (cE, 20, .inl (fun _ => 0)))] := hD
              have hK : va_K (dC, dI) vwCl [(cP, .int), (cS, .int), (cM, .int), (cK, .int), (cV, .int), (cE, .boolean)] s := hK
              obtain rfl : 0 = r_29 := hw_31.symm
              have hP9 := hP.sub (ws' := [(h0, .inr (8, [.ref hRows, .ref hMer, .ref hEra, .ref hTape, .ref hRea, .ref hTra, .ref hWor, .ref hPla, .ref hMod, .ref hHe1, .ref hHe2, .int 0, .int 0, .int 0, .int 0, .int (-1), .int 0]))]) [0] rfl
              have hD9 := hD.sub (ws' := [(h0, .inr (8, [.ref hRows, .ref hMer, .ref hEra, .ref hTape, .ref hRea, .ref hTra, .ref hWor, .ref hPla, .ref hMod, .ref hHe1, .ref hHe2, .int 0, .int 0, .int 0, .int 0, .int (-1), .int 0]))]) [0] (by decide) rfl
              have hK9 := hK.sub (tys' := []) [] rfl
              have hans : (0 : Int32).toInt = 0 := (by decide)
              exact W.iret (v := 0) hx hb hr (fun t ht hW => ⟨⟨0, (), rfl, by first | omega | (dsimp only; omega), by rw [ht]; exact hP9, va_K.moved hW.alike hK9, hD9⟩, hS.F ht⟩) hS.2.2 dX8_addRow_87
            · have dc_21 : r_18.toInt = 0 := jI_eq c_21 rfl (by decide)
              refine lv_bipush (v := (-2)) hx hb dX8_addRow_45 (by decide) ?_
              have hP9 := hP.sub (ws' := [(h0, .inr (8, [.ref hRows, .ref hMer, .ref hEra, .ref hTape, .ref hRea, .ref hTra, .ref hWor, .ref hPla, .ref hMod, .ref hHe1, .ref hHe2, .int 0, .int 0, .int 0, .int 0, .int (-1), .int 0]))]) [0] rfl
              have hD9 := hD.sub (ws' := [(h0, .inr (8, [.ref hRows, .ref hMer, .ref hEra, .ref hTape, .ref hRea, .ref hTra, .ref hWor, .ref hPla, .ref hMod, .ref hHe1, .ref hHe2, .int 0, .int 0, .int 0, .int 0, .int (-1), .int 0]))]) [0] (by decide) rfl
              have hK9 := hK.sub (tys' := []) [] rfl
              have hans : ((-2) : Int32).toInt = (-2) := (by decide)
              exact W.iret (v := (-2)) hx hb hr (fun t ht hW => ⟨⟨(-2), (), rfl, by first | omega | (dsimp only; omega), by rw [ht]; exact hP9, va_K.moved hW.alike hK9, hD9⟩, hS.F ht⟩) hS.2.2 dX8_addRow_47
          · have dc_17 : r_14.toInt = 0 := jI_eq c_17 rfl (by decide)
            refine lv_iconst (v := (-1)) hx hb dX8_addRow_36 (by decide) ?_
            have hP9 := hP.sub (ws' := [(h0, .inr (8, [.ref hRows, .ref hMer, .ref hEra, .ref hTape, .ref hRea, .ref hTra, .ref hWor, .ref hPla, .ref hMod, .ref hHe1, .ref hHe2, .int 0, .int 0, .int 0, .int 0, .int (-1), .int 0]))]) [0] rfl
            have hD9 := hD.sub (ws' := [(h0, .inr (8, [.ref hRows, .ref hMer, .ref hEra, .ref hTape, .ref hRea, .ref hTra, .ref hWor, .ref hPla, .ref hMod, .ref hHe1, .ref hHe2, .int 0, .int 0, .int 0, .int 0, .int (-1), .int 0]))]) [0] (by decide) rfl
            have hK9 := hK.sub (tys' := []) [] rfl
            have hans : ((-1) : Int32).toInt = (-1) := (by decide)
            exact W.iret (v := (-1)) hx hb hr (fun t ht hW => ⟨⟨(-1), (), rfl, by first | omega | (dsimp only; omega), by rw [ht]; exact hP9, va_K.moved hW.alike hK9, hD9⟩, hS.F ht⟩) hS.2.2 dX8_addRow_37

set_option maxHeartbeats 4000000 in
set_option maxRecDepth 100000 in
theorem c_X8_row (l : Launch) (dC : Nat → ClassId) (dI : Nat → Nat → Nat) (sz : Nat) (h0 : Nat) (hRows : Nat) (hMer : Nat) (hEra : Nat) (hTape : Nat) (hRea : Nat) (hTra : Nat) (hWor : Nat) (hPla : Nat) (hMod : Nat) (hHe1 : Nat) (hHe2 : Nat) (aP : Nat) (aS : Nat) (aM : Nat) (aK : Nat) (aV : Nat) (cP : ClassId) (cS : ClassId) (cM : ClassId) (cK : ClassId) (cV : ClassId) (cE : ClassId) (pp : Int32) (st : Int32) (mo : Int32) (kn : Int32) (va : Int32)  : Met l yX8_row wsX8_row ({ frames := 3, cells := 0, slots := 0, locals := 70 }) (va_Pc [.ref h0, .int pp, .int st, .int mo, .int kn, .int va] (fun U => U.heap.size = sz ∧ va_P (dC, dI) vwCl [(h0, .inr (8, [.ref hRows, .ref hMer, .ref hEra, .ref hTape, .ref hRea, .ref hTra, .ref hWor, .ref hPla, .ref hMod, .ref hHe1, .ref hHe2, .int 0, .int 0, .int 0, .int 0, .int (-1), .int 0])), (hRows, .inr (3, [.ref aP, .ref aS, .ref aM, .ref aK, .ref aV, .int 0, .int 0])), (aP, .inl (cP, 400, .inl (fun _ => 0))), (aS, .inl (cS, 400, .inl (fun _ => 0))), (aM, .inl (cM, 400, .inl (fun _ => 0))), (aK, .inl (cK, 400, .inl (fun _ => 0))), (aV, .inl (cV, 400, .inl (fun _ => 0))), (hEra, .inl (cE, 20, .inl (fun _ => 0)))] U.heap ∧ va_K (dC, dI) vwCl [(cP, .int), (cS, .int), (cM, .int), (cK, .int), (cV, .int), (cE, .boolean)] U ∧ va_D (fun _ => True) [(h0, .inr (8, [.ref hRows, .ref hMer, .ref hEra, .ref hTape, .ref hRea, .ref hTra, .ref hWor, .ref hPla, .ref hMod, .ref hHe1, .ref hHe2, .int 0, .int 0, .int 0, .int 0, .int (-1), .int 0])), (hRows, .inr (3, [.ref aP, .ref aS, .ref aM, .ref aK, .ref aV, .int 0, .int 0])), (aP, .inl (cP, 400, .inl (fun _ => 0))), (aS, .inl (cS, 400, .inl (fun _ => 0))), (aM, .inl (cM, 400, .inl (fun _ => 0))), (aK, .inl (cK, 400, .inl (fun _ => 0))), (aV, .inl (cV, 400, .inl (fun _ => 0))), (hEra, .inl (cE, 20, .inl (fun _ => 0)))] ∧ nw_ok U)) (va_Qi (fun (r : Int32) (_ : Unit) => (¬ (0 ≤ st.toInt ∧ st.toInt ≤ 5 ∧ 0 ≤ mo.toInt ∧ mo.toInt ≤ kn.toInt ∧ kn.toInt ≤ 100000 ∧ (-1000000) ≤ va.toInt ∧ va.toInt ≤ 1000000) → r.toInt = (-1)) ∧ ((0 ≤ st.toInt ∧ st.toInt ≤ 5 ∧ 0 ≤ mo.toInt ∧ mo.toInt ≤ kn.toInt ∧ kn.toInt ≤ 100000 ∧ (-1000000) ≤ va.toInt ∧ va.toInt ≤ 1000000) ∧ ¬ (0 ≤ pp.toInt ∧ pp.toInt ≤ 19) → r.toInt = (-2)) ∧ ((0 ≤ st.toInt ∧ st.toInt ≤ 5 ∧ 0 ≤ mo.toInt ∧ mo.toInt ≤ kn.toInt ∧ kn.toInt ≤ 100000 ∧ (-1000000) ≤ va.toInt ∧ va.toInt ≤ 1000000) ∧ 0 ≤ pp.toInt ∧ pp.toInt ≤ 19 → r.toInt = 0)) (fun (_ : Unit) (t : State) => True) (va_A [(h0, .inr (8, [.ref hRows, .ref hMer, .ref hEra, .ref hTape, .ref hRea, .ref hTra, .ref hWor, .ref hPla, .ref hMod, .ref hHe1, .ref hHe2, .int 0, .int 0, .int 0, .int 0, .int (-1), .int 0])), (hRows, .inr (3, [.ref aP, .ref aS, .ref aM, .ref aK, .ref aV, .int 0, .int 0])), (aP, .inl (cP, 400, .inl (fun _ => 0))), (aS, .inl (cS, 400, .inl (fun _ => 0))), (aM, .inl (cM, 400, .inl (fun _ => 0))), (aK, .inl (cK, 400, .inl (fun _ => 0))), (aV, .inl (cV, 400, .inl (fun _ => 0))), (hEra, .inl (cE, 20, .inl (fun _ => 0)))] sz)) 0 0 (va_A [(h0, .inr (8, [.ref hRows, .ref hMer, .ref hEra, .ref hTape, .ref hRea, .ref hTra, .ref hWor, .ref hPla, .ref hMod, .ref hHe1, .ref hHe2, .int 0, .int 0, .int 0, .int 0, .int (-1), .int 0])), (hRows, .inr (3, [.ref aP, .ref aS, .ref aM, .ref aK, .ref aV, .int 0, .int 0])), (aP, .inl (cP, 400, .inl (fun _ => 0))), (aS, .inl (cS, 400, .inl (fun _ => 0))), (aM, .inl (cM, 400, .inl (fun _ => 0))), (aK, .inl (cK, 400, .inl (fun _ => 0))), (aV, .inl (cV, 400, .inl (fun _ => 0))), (hEra, .inl (cE, 20, .inl (fun _ => 0)))] sz) := by
  refine Met.ofW (cc := cX8_row) (maxL := 6) (ret := (some .int)) (by decide) rfl ?_
  intro p e s m args below meth c s₁ B hml hv
  obtain ⟨rfl, hsz, hP, hK, hD0, hN⟩ := hv
  have hx := B.exec
  have hb := B.bytes
  have hr := B.returns
  have hts := atoms_spec (ws := wsX8_row) B.pre
  have hown : s.vm.findClass RX8 = some m.cls := findClass_of_methodNamed B.named
  have hlocks := B.notSynchronized
  subst hsz
  have hD := hD0.self (sz := s.heap.size)
  generalize hAe : va_A [(h0, .inr (8, [.ref hRows, .ref hMer, .ref hEra, .ref hTape, .ref hRea, .ref hTra, .ref hWor, .ref hPla, .ref hMod, .ref hHe1, .ref hHe2, .int 0, .int 0, .int 0, .int 0, .int (-1), .int 0])), (hRows, .inr (3, [.ref aP, .ref aS, .ref aM, .ref aK, .ref aV, .int 0, .int 0])), (aP, .inl (cP, 400, .inl (fun _ => 0))), (aS, .inl (cS, 400, .inl (fun _ => 0))), (aM, .inl (cM, 400, .inl (fun _ => 0))), (aK, .inl (cK, 400, .inl (fun _ => 0))), (aV, .inl (cV, 400, .inl (fun _ => 0))), (hEra, .inl (cE, 20, .inl (fun _ => 0)))] s.heap.size = A at hD ⊢
  have hA : ∀ q : Nat, s.heap.size ≤ q → A q := fun q h => by rw [← hAe]; exact Or.inr h
  have hS : va_S A s.heap s.heap [] := va_S.rf
  have hP : va_P (dC, dI) vwCl [(h0, .inr (8, [.ref hRows, .ref hMer, .ref hEra, .ref hTape, .ref hRea, .ref hTra, .ref hWor, .ref hPla, .ref hMod, .ref hHe1, .ref hHe2, .int 0, .int 0, .int 0, .int 0, .int (-1), .int 0])), (hRows, .inr (3, [.ref aP, .ref aS, .ref aM, .ref aK, .ref aV, .int 0, .int 0])), (aP, .inl (cP, 400, .inl (fun _ => 0))), (aS, .inl (cS, 400, .inl (fun _ => 0))), (aM, .inl (cM, 400, .inl (fun _ => 0))), (aK, .inl (cK, 400, .inl (fun _ => 0))), (aV, .inl (cV, 400, .inl (fun _ => 0))), (hEra, .inl (cE, 20, .inl (fun _ => 0)))] s.heap := hP
  have hl := lv_entry ([.ref h0, .int pp, .int st, .int mo, .int kn, .int va]) (n := 6) (Nat.le_of_ble_eq_true rfl)
  rw [lg_entry_eq]
  generalize (lg_sl ([.ref h0, .int pp, .int st, .int mo, .int kn, .int va]) ++ List.replicate (6 - (lg_sl ([.ref h0, .int pp, .int st, .int mo, .int kn, .int va])).length) Slot.unset).toArray = ls at hl ⊢
  have hl : lv_has ls 6 [(0, .ref h0), (1, .int pp), (2, .int st), (3, .int mo), (4, .int kn), (5, .int va)] := hl
  refine lv_aload_n hx hb dX8_row_0 rfl (lv_at hl 0 rfl) ?_
  refine lv_aload_n hx hb dX8_row_1 rfl (lv_at hl 0 rfl) ?_
  refine lv_iload_n hx hb dX8_row_2 rfl (lv_at hl 1 rfl) ?_
  refine lv_iload_n hx hb dX8_row_3 rfl (lv_at hl 2 rfl) ?_
  refine lv_iload_n hx hb dX8_row_4 rfl (lv_at hl 3 rfl) ?_
  refine lv_iload hx hb dX8_row_5 (lv_at hl 4 rfl) ?_
  refine lv_iload hx hb dX8_row_7 (lv_at hl 5 rfl) ?_
  have hPc := hP.sub (ws' := [(h0, .inr (8, [.ref hRows, .ref hMer, .ref hEra, .ref hTape, .ref hRea, .ref hTra, .ref hWor, .ref hPla, .ref hMod, .ref hHe1, .ref hHe2, .int 0, .int 0, .int 0, .int 0, .int (-1), .int 0])), (hRows, .inr (3, [.ref aP, .ref aS, .ref aM, .ref aK, .ref aV, .int 0, .int 0])), (aP, .inl (cP, 400, .inl (fun _ => 0))), (aS, .inl (cS, 400, .inl (fun _ => 0))), (aM, .inl (cM, 400, .inl (fun _ => 0))), (aK, .inl (cK, 400, .inl (fun _ => 0))), (aV, .inl (cV, 400, .inl (fun _ => 0))), (hEra, .inl (cE, 20, .inl (fun _ => 0)))]) [0, 1, 2, 3, 4, 5, 6, 7] rfl
  have hDc := hD.sub (ws' := [(h0, .inr (8, [.ref hRows, .ref hMer, .ref hEra, .ref hTape, .ref hRea, .ref hTra, .ref hWor, .ref hPla, .ref hMod, .ref hHe1, .ref hHe2, .int 0, .int 0, .int 0, .int 0, .int (-1), .int 0])), (hRows, .inr (3, [.ref aP, .ref aS, .ref aM, .ref aK, .ref aV, .int 0, .int 0])), (aP, .inl (cP, 400, .inl (fun _ => 0))), (aS, .inl (cS, 400, .inl (fun _ => 0))), (aM, .inl (cM, 400, .inl (fun _ => 0))), (aK, .inl (cK, 400, .inl (fun _ => 0))), (aV, .inl (cV, 400, .inl (fun _ => 0))), (hEra, .inl (cE, 20, .inl (fun _ => 0)))]) [0, 1, 2, 3, 4, 5, 6, 7] (by decide) rfl
  have hKc := hK.sub (tys' := [(cP, .int), (cS, .int), (cM, .int), (cK, .int), (cV, .int), (cE, .boolean)]) [0, 1, 2, 3, 4, 5] rfl
  have hFc := va_free (wc := [(h0, .inr (8, [.ref hRows, .ref hMer, .ref hEra, .ref hTape, .ref hRea, .ref hTra, .ref hWor, .ref hPla, .ref hMod, .ref hHe1, .ref hHe2, .int 0, .int 0, .int 0, .int 0, .int (-1), .int 0])), (hRows, .inr (3, [.ref aP, .ref aS, .ref aM, .ref aK, .ref aV, .int 0, .int 0])), (aP, .inl (cP, 400, .inl (fun _ => 0))), (aS, .inl (cS, 400, .inl (fun _ => 0))), (aM, .inl (cM, 400, .inl (fun _ => 0))), (aK, .inl (cK, 400, .inl (fun _ => 0))), (aV, .inl (cV, 400, .inl (fun _ => 0))), (hEra, .inl (cE, 20, .inl (fun _ => 0)))]) hD hS hA [0, 1, 2, 3, 4, 5, 6, 7] rfl
  refine va_calli (va_runV (As := [.int pp, .int st, .int mo, .int kn, .int va]) (rest := [.ref h0]) ⟨hx, hb, hml, hown, hts⟩ (c_X8_addRow l dC dI s.heap.size h0 hRows hMer hEra hTape hRea hTra hWor hPla hMod hHe1 hHe2 aP aS aM aK aV cP cS cM cK cV cE pp st mo kn va ) (cwV 5 hts gX8_row_X8_addRow rfl rfl rfl (by decide +kernel) ⟨Nat.le_of_ble_eq_true rfl, Nat.le_of_ble_eq_true rfl⟩) ⟨fun a U g mk q => by obtain ⟨q0, q1, qP, qK, qD, qN⟩ := q; exact ⟨q0, q1, qP, va_K.moved (u := U) (U := U.calling g mk a) (Vm.Alike.refl U.vm) qK, qD, qN.same rfl⟩, va_recv hKc hPc (ci := 8) (q0 := 0) rfl rfl, fun U hU hW => ⟨rfl, by rw [hU], by rw [hU]; exact hPc, va_K.moved hW.alike hKc, hDc.weaken (fun _ _ _ _ => trivial), hN.warm hW⟩⟩ rfl rfl hl.1 rfl (lv_room (Nat.le_of_ble_eq_true rfl)) dX8_row_9 ⟨Nat.le_of_ble_eq_true rfl, Nat.le_of_ble_eq_true rfl⟩) hS (fun q _ h => hFc q h) hFc (fun r_1 u_2 t H1 locs ht hvm hw_3 hB hz1 hk1 hS => ?_)
  try dsimp only at hw_3
  obtain ⟨hP1, hK1, hD1⟩ := hB
  rw [ht] at hP1
  have hK1 := va_K.moved hvm.symm hK1
  obtain ⟨hP, hD⟩ := va_join (wr := []) (w1 := [(h0, .inr (8, [.ref hRows, .ref hMer, .ref hEra, .ref hTape, .ref hRea, .ref hTra, .ref hWor, .ref hPla, .ref hMod, .ref hHe1, .ref hHe2, .int 0, .int 0, .int 0, .int 0, .int (-1), .int 0]))]) hP hD [0, 1, 2, 3, 4, 5, 6, 7] [] rfl rfl (by decide) (by decide) hk1 hFc hP1 hD1
  have hK := (hK.sub (tys' := [(cP, .int), (cS, .int), (cM, .int), (cK, .int), (cV, .int), (cE, .boolean)]) [0, 1, 2, 3, 4, 5] rfl).app hK1
  generalize H1 = H at hP hS ⊢
  have hP : va_P (dC, dI) vwCl [(h0, .inr (8, [.ref hRows, .ref hMer, .ref hEra, .ref hTape, .ref hRea, .ref hTra, .ref hWor, .ref hPla, .ref hMod, .ref hHe1, .ref hHe2, .int 0, .int 0, .int 0, .int 0, .int (-1), .int 0]))] H := hP
  have hD : va_D A [(h0, .inr (8, [.ref hRows, .ref hMer, .ref hEra, .ref hTape, .ref hRea, .ref hTra, .ref hWor, .ref hPla, .ref hMod, .ref hHe1, .ref hHe2, .int 0, .int 0, .int 0, .int 0, .int (-1), .int 0]))] := hD
  have hK : va_K (dC, dI) vwCl [(cP, .int), (cS, .int), (cM, .int), (cK, .int), (cV, .int), (cE, .boolean)] s := hK
  have hk_4 : (0 : Int32).toInt = 0 := by decide
  have hk_5 : ((-1) : Int32).toInt = (-1) := by decide
  have hPc := hP.sub (ws' := [(h0, .inr (8, [.ref hRows, .ref hMer, .ref hEra, .ref hTape, .ref hRea, .ref hTra, .ref hWor, .ref hPla, .ref hMod, .ref hHe1, .ref hHe2, .int 0, .int 0, .int 0, .int 0, .int (-1), .int 0]))]) [0] rfl
  have hDc := hD.sub (ws' := [(h0, .inr (8, [.ref hRows, .ref hMer, .ref hEra, .ref hTape, .ref hRea, .ref hTra, .ref hWor, .ref hPla, .ref hMod, .ref hHe1, .ref hHe2, .int 0, .int 0, .int 0, .int 0, .int (-1), .int 0]))]) [0] (by decide) rfl
  have hKc := hK.sub (tys' := []) [] rfl
  have hFc := va_free (wc := [(h0, .inr (8, [.ref hRows, .ref hMer, .ref hEra, .ref hTape, .ref hRea, .ref hTra, .ref hWor, .ref hPla, .ref hMod, .ref hHe1, .ref hHe2, .int 0, .int 0, .int 0, .int 0, .int (-1), .int 0]))]) hD hS hA [0] rfl
  refine va_calli (va_runV (As := [.int r_1]) (rest := []) ⟨hx, hb, hml, hown, hts⟩ (c_X8_settle l dC dI H.size h0 hRows hMer hEra hTape hRea hTra hWor hPla hMod hHe1 hHe2 0 0 0 0 (-1) 0 r_1 ) (cwV 1 hts gX8_row_X8_settle rfl rfl rfl (by decide +kernel) ⟨Nat.le_of_ble_eq_true rfl, Nat.le_of_ble_eq_true rfl⟩) ⟨fun a U g mk q => by obtain ⟨q0, q1, qP, qK, qD, qN⟩ := q; exact ⟨q0, q1, qP, va_K.moved (u := U) (U := U.calling g mk a) (Vm.Alike.refl U.vm) qK, qD, qN.same rfl⟩, va_recv hKc hPc (ci := 8) (q0 := 0) rfl rfl, fun U hU hW => ⟨rfl, by rw [hU], by rw [hU]; exact hPc, va_K.moved hW.alike hKc, hDc.weaken (fun _ _ _ _ => trivial), hN.warm hW⟩⟩ rfl rfl hl.1 rfl (lv_room (Nat.le_of_ble_eq_true rfl)) dX8_row_12 ⟨Nat.le_of_ble_eq_true rfl, Nat.le_of_ble_eq_true rfl⟩) hS (fun q _ h => hFc q h) hFc (fun r_6 u_7 t H1 locs ht hvm hw_8 hB hz1 hk1 hS => ?_)
  obtain ⟨w_9, rfl⟩ : ∃ z, z = u_7 := ⟨_, rfl⟩
  try dsimp only at hw_8
  obtain ⟨hP1, hK1, hD1⟩ := hB
  rw [ht] at hP1
  have hK1 := va_K.moved hvm.symm hK1
  obtain ⟨hP, hD⟩ := va_join (wr := []) (w1 := [(h0, .inr (8, [.ref hRows, .ref hMer, .ref hEra, .ref hTape, .ref hRea, .ref hTra, .ref hWor, .ref hPla, .ref hMod, .ref hHe1, .ref hHe2, .int 0, .int 0, .int 0, .int 0, .int (-1), .int w_9]))]) hP hD [0] [] rfl rfl (by decide) (by decide) hk1 hFc hP1 hD1
  have hK := (hK.sub (tys' := [(cP, .int), (cS, .int), (cM, .int), (cK, .int), (cV, .int), (cE, .boolean)]) [0, 1, 2, 3, 4, 5] rfl).app hK1
  generalize H1 = H at hP hS ⊢
  have hP : va_P (dC, dI) vwCl [(h0, .inr (8, [.ref hRows, .ref hMer, .ref hEra, .ref hTape, .ref hRea, .ref hTra, .ref hWor, .ref hPla, .ref hMod, .ref hHe1, .ref hHe2, .int 0, .int 0, .int 0, .int 0, .int (-1), .int w_9]))] H := hP
  have hD : va_D A [(h0, .inr (8, [.ref hRows, .ref hMer, .ref hEra, .ref hTape, .ref hRea, .ref hTra, .ref hWor, .ref hPla, .ref hMod, .ref hHe1, .ref hHe2, .int 0, .int 0, .int 0, .int 0, .int (-1), .int w_9]))] := hD
  have hK : va_K (dC, dI) vwCl [(cP, .int), (cS, .int), (cM, .int), (cK, .int), (cV, .int), (cE, .boolean)] s := hK
  obtain rfl : r_1 = r_6 := hw_8.symm
  have hans : (r_1 : Int32).toInt = r_1.toInt := rfl
  exact W.iret (v := r_1) hx hb hr (fun t ht hW => ⟨⟨r_1, (), rfl, by first | omega | (dsimp only; omega), trivial⟩, hS.F ht⟩) hS.2.2 dX8_row_15
end
section
theorem dX0_isTold_0 : decode cX0_isTold 0 = .ok (.aload_n 0, 1) := by decide +kernel
theorem dX0_isTold_1 : decode cX0_isTold 1 = .ok (.getfield 9, 3) := by decide +kernel
theorem dX0_isTold_4 : decode cX0_isTold 4 = .ok (.iload_n 1, 1) := by decide +kernel
theorem dX0_isTold_5 : decode cX0_isTold 5 = .ok (.iaload, 1) := by decide +kernel
theorem dX0_isTold_6 : decode cX0_isTold 6 = .ok (.iconst (-1), 1) := by decide +kernel
theorem dX0_isTold_7 : decode cX0_isTold 7 = .ok (.if_icmp .eq 7, 3) := by decide +kernel
theorem dX0_isTold_14 : decode cX0_isTold 14 = .ok (.iconst 0, 1) := by decide +kernel
theorem dX0_isTold_15 : decode cX0_isTold 15 = .ok (.ireturn, 1) := by decide +kernel
theorem dX0_lastOf_0 : decode cX0_lastOf 0 = .ok (.iload_n 1, 1) := by decide +kernel
theorem dX0_lastOf_1 : decode cX0_lastOf 1 = .ok (.istore_n 3, 1) := by decide +kernel
theorem dX0_lastOf_2 : decode cX0_lastOf 2 = .ok (.iconst 0, 1) := by decide +kernel
theorem dX0_lastOf_3 : decode cX0_lastOf 3 = .ok (.istore 4, 2) := by decide +kernel
theorem dX0_lastOf_5 : decode cX0_lastOf 5 = .ok (.iload 4, 2) := by decide +kernel
theorem dX0_lastOf_7 : decode cX0_lastOf 7 = .ok (.bipush 20, 2) := by decide +kernel
theorem dX0_lastOf_9 : decode cX0_lastOf 9 = .ok (.if_icmp .ge 34, 3) := by decide +kernel
theorem dX0_lastOf_12 : decode cX0_lastOf 12 = .ok (.aload_n 0, 1) := by decide +kernel
theorem dX0_lastOf_13 : decode cX0_lastOf 13 = .ok (.iload_n 3, 1) := by decide +kernel
set_option maxRecDepth 20000 in
theorem ggX0_lastOf_X0_isTold : GoodIn wsX0_lastOf wsX0_isTold := goodIn_r _ [7, 2, 8, 9, 10] (by decide +kernel) (by decide +kernel)
set_option maxRecDepth 20000 in
theorem gX0_lastOf_X0_isTold : GoodIn wsX0_lastOf (wsV RX0 28 RX0 yX0_isTold wsX0_isTold) := goodIn_app (goodIn_of _ (by decide +kernel)) ggX0_lastOf_X0_isTold
theorem dX0_lastOf_14 : decode cX0_lastOf 14 = .ok (.invokevirtual 28, 3) := by decide +kernel
theorem dX0_lastOf_17 : decode cX0_lastOf 17 = .ok (.ifCond .eq 26, 3) := by decide +kernel
theorem dX0_lastOf_43 : decode cX0_lastOf 43 = .ok (.iload_n 3, 1) := by decide +kernel
theorem dX0_lastOf_44 : decode cX0_lastOf 44 = .ok (.ireturn, 1) := by decide +kernel
theorem dX0_add_0 : decode cX0_add 0 = .ok (.aload_n 0, 1) := by decide +kernel
theorem dX0_add_1 : decode cX0_add 1 = .ok (.getfield 9, 3) := by decide +kernel
theorem dX0_add_4 : decode cX0_add 4 = .ok (.iload_n 1, 1) := by decide +kernel
theorem dX0_add_5 : decode cX0_add 5 = .ok (.iload_n 2, 1) := by decide +kernel
theorem dX0_add_6 : decode cX0_add 6 = .ok (.iastore, 1) := by decide +kernel
theorem dX0_add_7 : decode cX0_add 7 = .ok (.aload_n 0, 1) := by decide +kernel
theorem dX0_add_8 : decode cX0_add 8 = .ok (.getfield 15, 3) := by decide +kernel
theorem dX0_add_11 : decode cX0_add 11 = .ok (.iload_n 1, 1) := by decide +kernel
theorem dX0_add_12 : decode cX0_add 12 = .ok (.iload_n 3, 1) := by decide +kernel
theorem dX0_add_13 : decode cX0_add 13 = .ok (.iastore, 1) := by decide +kernel
theorem dX0_add_14 : decode cX0_add 14 = .ok (.aload_n 0, 1) := by decide +kernel
theorem dX0_add_15 : decode cX0_add 15 = .ok (.dup, 1) := by decide +kernel
theorem dX0_add_16 : decode cX0_add 16 = .ok (.getfield 24, 3) := by decide +kernel
theorem dX0_add_19 : decode cX0_add 19 = .ok (.iconst 1, 1) := by decide +kernel
theorem dX0_add_20 : decode cX0_add 20 = .ok (.iadd, 1) := by decide +kernel
theorem dX0_add_21 : decode cX0_add 21 = .ok (.putfield 24, 3) := by decide +kernel
theorem dX0_add_24 : decode cX0_add 24 = .ok (.aload_n 0, 1) := by decide +kernel
theorem dX0_add_25 : decode cX0_add 25 = .ok (.getfield 24, 3) := by decide +kernel
theorem dX0_add_28 : decode cX0_add 28 = .ok (.ireturn, 1) := by decide +kernel
theorem dX8_addMerge_0 : decode cX8_addMerge 0 = .ok (.iload_n 3, 1) := by decide +kernel
set_option maxRecDepth 20000 in
theorem ggX8_addMerge_X8_isMoment : GoodIn wsX8_addMerge wsX8_isMoment := goodIn_r _ [6, 2] (by decide +kernel) (by decide +kernel)
set_option maxRecDepth 20000 in
theorem gX8_addMerge_X8_isMoment : GoodIn wsX8_addMerge (va_wsS RX8 79 yX8_isMoment wsX8_isMoment) := goodIn_app (goodIn_of _ (by decide +kernel)) ggX8_addMerge_X8_isMoment
theorem dX8_addMerge_1 : decode cX8_addMerge 1 = .ok (.invokestatic 79, 3) := by decide +kernel
theorem dX8_addMerge_4 : decode cX8_addMerge 4 = .ok (.ifCond .ne 5, 3) := by decide +kernel
theorem dX8_addMerge_9 : decode cX8_addMerge 9 = .ok (.iload_n 1, 1) := by decide +kernel
set_option maxRecDepth 20000 in
theorem ggX8_addMerge_X8_isPerson : GoodIn wsX8_addMerge wsX8_isPerson := goodIn_r _ [9] (by decide +kernel) (by decide +kernel)
set_option maxRecDepth 20000 in
theorem gX8_addMerge_X8_isPerson : GoodIn wsX8_addMerge (va_wsS RX8 100 yX8_isPerson wsX8_isPerson) := goodIn_app (goodIn_of _ (by decide +kernel)) ggX8_addMerge_X8_isPerson
theorem dX8_addMerge_10 : decode cX8_addMerge 10 = .ok (.invokestatic 100, 3) := by decide +kernel
theorem dX8_addMerge_13 : decode cX8_addMerge 13 = .ok (.ifCond .eq 10, 3) := by decide +kernel
theorem dX8_addMerge_23 : decode cX8_addMerge 23 = .ok (.bipush (-2), 2) := by decide +kernel
theorem dX8_addMerge_25 : decode cX8_addMerge 25 = .ok (.ireturn, 1) := by decide +kernel
theorem dX8_addMerge_16 : decode cX8_addMerge 16 = .ok (.iload_n 2, 1) := by decide +kernel
theorem dX8_addMerge_17 : decode cX8_addMerge 17 = .ok (.invokestatic 100, 3) := by decide +kernel
theorem dX8_addMerge_20 : decode cX8_addMerge 20 = .ok (.ifCond .ne 6, 3) := by decide +kernel
theorem dX8_addMerge_26 : decode cX8_addMerge 26 = .ok (.aload_n 0, 1) := by decide +kernel
theorem dX8_addMerge_27 : decode cX8_addMerge 27 = .ok (.getfield 19, 3) := by decide +kernel
theorem dX8_addMerge_30 : decode cX8_addMerge 30 = .ok (.iload_n 1, 1) := by decide +kernel
set_option maxRecDepth 20000 in
theorem ggX8_addMerge_X0_isTold : GoodIn wsX8_addMerge wsX0_isTold := goodIn_r _ [13, 14, 41, 42, 43] (by decide +kernel) (by decide +kernel)
set_option maxRecDepth 20000 in
theorem gX8_addMerge_X0_isTold_n114 : GoodIn wsX8_addMerge (wsX0_isTold) := ggX8_addMerge_X0_isTold
theorem dX8_addMerge_31 : decode cX8_addMerge 31 = .ok (.invokevirtual 114, 3) := by decide +kernel
theorem dX8_addMerge_34 : decode cX8_addMerge 34 = .ok (.ifCond .ne 17, 3) := by decide +kernel
theorem dX8_addMerge_37 : decode cX8_addMerge 37 = .ok (.aload_n 0, 1) := by decide +kernel
theorem dX8_addMerge_38 : decode cX8_addMerge 38 = .ok (.getfield 19, 3) := by decide +kernel
theorem dX8_addMerge_41 : decode cX8_addMerge 41 = .ok (.iload_n 2, 1) := by decide +kernel
theorem dX8_addMerge_42 : decode cX8_addMerge 42 = .ok (.ldc 117, 2) := by decide +kernel
set_option maxRecDepth 20000 in
theorem ggX8_addMerge_X0_lastOf : GoodIn wsX8_addMerge wsX0_lastOf := goodIn_r _ [17, 18, 14, 19, 10, 12, 11, 13, 41, 42, 43] (by decide +kernel) (by decide +kernel)
set_option maxRecDepth 20000 in
theorem gX8_addMerge_X0_lastOf_n118 : GoodIn wsX8_addMerge (wsX0_lastOf) := ggX8_addMerge_X0_lastOf
theorem dX8_addMerge_44 : decode cX8_addMerge 44 = .ok (.invokevirtual 118, 3) := by decide +kernel
theorem dX8_addMerge_47 : decode cX8_addMerge 47 = .ok (.iload_n 1, 1) := by decide +kernel
theorem dX8_addMerge_48 : decode cX8_addMerge 48 = .ok (.if_icmp .ne 6, 3) := by decide +kernel
theorem dX8_addMerge_54 : decode cX8_addMerge 54 = .ok (.aload_n 0, 1) := by decide +kernel
theorem dX8_addMerge_55 : decode cX8_addMerge 55 = .ok (.getfield 19, 3) := by decide +kernel
theorem dX8_addMerge_58 : decode cX8_addMerge 58 = .ok (.iload_n 1, 1) := by decide +kernel
theorem dX8_addMerge_59 : decode cX8_addMerge 59 = .ok (.iload_n 2, 1) := by decide +kernel
theorem dX8_addMerge_60 : decode cX8_addMerge 60 = .ok (.iload_n 3, 1) := by decide +kernel
set_option maxRecDepth 20000 in
theorem ggX8_addMerge_X0_add : GoodIn wsX8_addMerge wsX0_add := goodIn_r _ [22, 14, 18, 23, 41, 42, 43] (by decide +kernel) (by decide +kernel)
set_option maxRecDepth 20000 in
theorem gX8_addMerge_X0_add_n122 : GoodIn wsX8_addMerge (wsX0_add) := ggX8_addMerge_X0_add
theorem dX8_addMerge_61 : decode cX8_addMerge 61 = .ok (.invokevirtual 122, 3) := by decide +kernel
theorem dX8_addMerge_64 : decode cX8_addMerge 64 = .ok (.ireturn, 1) := by decide +kernel
theorem dX8_addMerge_51 : decode cX8_addMerge 51 = .ok (.bipush (-4), 2) := by decide +kernel
theorem dX8_addMerge_53 : decode cX8_addMerge 53 = .ok (.ireturn, 1) := by decide +kernel
theorem dX8_addMerge_7 : decode cX8_addMerge 7 = .ok (.iconst (-1), 1) := by decide +kernel
theorem dX8_addMerge_8 : decode cX8_addMerge 8 = .ok (.ireturn, 1) := by decide +kernel
theorem dX8_merge_0 : decode cX8_merge 0 = .ok (.aload_n 0, 1) := by decide +kernel
theorem dX8_merge_1 : decode cX8_merge 1 = .ok (.aload_n 0, 1) := by decide +kernel
theorem dX8_merge_2 : decode cX8_merge 2 = .ok (.iload_n 1, 1) := by decide +kernel
theorem dX8_merge_3 : decode cX8_merge 3 = .ok (.iload_n 2, 1) := by decide +kernel
theorem dX8_merge_4 : decode cX8_merge 4 = .ok (.iload_n 3, 1) := by decide +kernel
set_option maxRecDepth 20000 in
theorem ggX8_merge_X8_addMerge : GoodIn wsX8_merge wsX8_addMerge := goodIn_r _ [5, 6, 7, 8, 9, 4, 10, 11, 12, 13, 14, 15, 16, 17, 18, 19, 20, 21, 22, 23, 24, 25, 26, 27, 37, 38, 39, 40, 41, 42, 43, 44, 45, 46, 47, 48, 49, 50, 51, 52, 53, 54, 55, 56] (by decide +kernel) (by decide +kernel)
set_option maxRecDepth 20000 in
theorem gX8_merge_X8_addMerge : GoodIn wsX8_merge (wsV RX8 110 RX8 yX8_addMerge wsX8_addMerge) := goodIn_app (goodIn_of _ (by decide +kernel)) ggX8_merge_X8_addMerge
theorem dX8_merge_5 : decode cX8_merge 5 = .ok (.invokevirtual 110, 3) := by decide +kernel
set_option maxRecDepth 20000 in
theorem ggX8_merge_X8_settle : GoodIn wsX8_merge wsX8_settle := goodIn_r _ [31, 32, 33, 34, 35, 36, 37, 38, 39, 40, 41, 42, 43, 44, 45, 46, 47, 48, 49, 50, 51, 52, 53] (by decide +kernel) (by decide +kernel)
set_option maxRecDepth 20000 in
theorem gX8_merge_X8_settle : GoodIn wsX8_merge (wsV RX8 86 RX8 yX8_settle wsX8_settle) := goodIn_app (goodIn_of _ (by decide +kernel)) ggX8_merge_X8_settle
theorem dX8_merge_8 : decode cX8_merge 8 = .ok (.invokevirtual 86, 3) := by decide +kernel
theorem dX8_merge_11 : decode cX8_merge 11 = .ok (.ireturn, 1) := by decide +kernel
theorem dX8_leads_0 : decode cX8_leads 0 = .ok (.iload_n 1, 1) := by decide +kernel
set_option maxRecDepth 20000 in
theorem ggX8_leads_X8_isPerson : GoodIn wsX8_leads wsX8_isPerson := goodIn_r _ [5] (by decide +kernel) (by decide +kernel)
set_option maxRecDepth 20000 in
theorem gX8_leads_X8_isPerson : GoodIn wsX8_leads (va_wsS RX8 100 yX8_isPerson wsX8_isPerson) := goodIn_app (goodIn_of _ (by decide +kernel)) ggX8_leads_X8_isPerson
theorem dX8_leads_1 : decode cX8_leads 1 = .ok (.invokestatic 100, 3) := by decide +kernel
theorem dX8_leads_4 : decode cX8_leads 4 = .ok (.ifCond .eq 10, 3) := by decide +kernel
theorem dX8_leads_14 : decode cX8_leads 14 = .ok (.iconst (-1), 1) := by decide +kernel
theorem dX8_leads_15 : decode cX8_leads 15 = .ok (.ireturn, 1) := by decide +kernel
theorem dX8_leads_7 : decode cX8_leads 7 = .ok (.iload_n 2, 1) := by decide +kernel
set_option maxRecDepth 20000 in
theorem ggX8_leads_X8_isMoment : GoodIn wsX8_leads wsX8_isMoment := goodIn_r _ [8, 9] (by decide +kernel) (by decide +kernel)
set_option maxRecDepth 20000 in
theorem gX8_leads_X8_isMoment : GoodIn wsX8_leads (va_wsS RX8 79 yX8_isMoment wsX8_isMoment) := goodIn_app (goodIn_of _ (by decide +kernel)) ggX8_leads_X8_isMoment
theorem dX8_leads_8 : decode cX8_leads 8 = .ok (.invokestatic 79, 3) := by decide +kernel
theorem dX8_leads_11 : decode cX8_leads 11 = .ok (.ifCond .ne 5, 3) := by decide +kernel
theorem dX8_leads_16 : decode cX8_leads 16 = .ok (.aload_n 0, 1) := by decide +kernel
theorem dX8_leads_17 : decode cX8_leads 17 = .ok (.getfield 19, 3) := by decide +kernel
theorem dX8_leads_20 : decode cX8_leads 20 = .ok (.iload_n 1, 1) := by decide +kernel
theorem dX8_leads_21 : decode cX8_leads 21 = .ok (.iload_n 2, 1) := by decide +kernel
set_option maxRecDepth 20000 in
theorem ggX8_leads_X0_lastOf : GoodIn wsX8_leads wsX0_lastOf := goodIn_r _ [13, 14, 15, 16, 17, 18, 11, 19, 37, 38, 39] (by decide +kernel) (by decide +kernel)
set_option maxRecDepth 20000 in
theorem gX8_leads_X0_lastOf_n118 : GoodIn wsX8_leads (wsX0_lastOf) := ggX8_leads_X0_lastOf
theorem dX8_leads_22 : decode cX8_leads 22 = .ok (.invokevirtual 118, 3) := by decide +kernel
theorem dX8_leads_25 : decode cX8_leads 25 = .ok (.ireturn, 1) := by decide +kernel
set_option maxHeartbeats 4000000 in
set_option maxRecDepth 100000 in
theorem c_X0_isTold (l : Launch) (dC : Nat → ClassId) (dI : Nat → Nat → Nat) (sz : Nat) (hMer : Nat) (aT : Nat) (aN : Nat) (cT : ClassId) (fT : Nat → Int32) (a : Int32) (hT : ∀ k : Nat, k < 20 → fT k = (-1)) (ha0 : 0 ≤ a.toInt) (ha1 : a.toInt ≤ 19) : Met l yX0_isTold wsX0_isTold ({ frames := 0, cells := 0, slots := 0, locals := 0 }) (va_Pc [.ref hMer, .int a] (fun U => U.heap.size = sz ∧ va_P (dC, dI) vwCl [(hMer, .inr (0, [.ref aT, .ref aN, .int 0])), (aT, .inl (cT, 20, .inl fT))] U.heap ∧ va_K (dC, dI) vwCl [(cT, .int)] U ∧ va_D (fun _ => True) [(hMer, .inr (0, [.ref aT, .ref aN, .int 0])), (aT, .inl (cT, 20, .inl fT))] ∧ nw_ok U)) (va_Qi (fun (r : Int32) (_ : Unit) => r = 0) (fun (_ : Unit) (t : State) => va_P (dC, dI) vwCl [(hMer, .inr (0, [.ref aT, .ref aN, .int 0])), (aT, .inl (cT, 20, .inl fT))] t.heap ∧ va_K (dC, dI) vwCl [(cT, .int)] t ∧ va_D (va_A [(hMer, .inr (0, [.ref aT, .ref aN, .int 0])), (aT, .inl (cT, 20, .inl fT))] sz) [(hMer, .inr (0, [.ref aT, .ref aN, .int 0])), (aT, .inl (cT, 20, .inl fT))]) (va_A [(hMer, .inr (0, [.ref aT, .ref aN, .int 0])), (aT, .inl (cT, 20, .inl fT))] sz)) 0 0 (va_A [(hMer, .inr (0, [.ref aT, .ref aN, .int 0])), (aT, .inl (cT, 20, .inl fT))] sz) := by
  refine Met.ofW (cc := cX0_isTold) (maxL := 2) (ret := (some .boolean)) (by decide) rfl ?_
  intro p e s m args below meth c s₁ B hml hv
  obtain ⟨rfl, hsz, hP, hK, hD0, hN⟩ := hv
  have hx := B.exec
  have hb := B.bytes
  have hr := B.returns
  have hts := atoms_spec (ws := wsX0_isTold) B.pre
  have hown : s.vm.findClass RX0 = some m.cls := findClass_of_methodNamed B.named
  have hlocks := B.notSynchronized
  subst hsz
  have hD := hD0.self (sz := s.heap.size)
  generalize hAe : va_A [(hMer, .inr (0, [.ref aT, .ref aN, .int 0])), (aT, .inl (cT, 20, .inl fT))] s.heap.size = A at hD ⊢
  have hA : ∀ q : Nat, s.heap.size ≤ q → A q := fun q h => by rw [← hAe]; exact Or.inr h
  have hS : va_S A s.heap s.heap [] := va_S.rf
  have hP : va_P (dC, dI) vwCl [(hMer, .inr (0, [.ref aT, .ref aN, .int 0])), (aT, .inl (cT, 20, .inl fT))] s.heap := hP
  have hIX0 : ∀ w ∈ u_ws RX0 TX0 3, w ∈ wsX0_isTold := by decide +kernel
  have hl := lv_entry ([.ref hMer, .int a]) (n := 2) (Nat.le_of_ble_eq_true rfl)
  rw [lg_entry_eq]
  generalize (lg_sl ([.ref hMer, .int a]) ++ List.replicate (2 - (lg_sl ([.ref hMer, .int a])).length) Slot.unset).toArray = ls at hl ⊢
  have hl : lv_has ls 2 [(0, .ref hMer), (1, .int a)] := hl
  refine lv_aload_n hx hb dX0_isTold_0 rfl (lv_at hl 0 rfl) ?_
  refine va_get (D := (dC, dI)) (ci := 0) (v := .ref aT) (C := RX0) (T := TX0) (N := 3) hx hb hts hIX0 hown hK hP 0 rfl rfl 0 (by decide) (hts (.fieldLink RX0 9 "TraitHouse$Merges" "targets" "[I") (by decide +kernel)) (fun _ h9 => h9) rfl dX0_isTold_1 ?_
  refine lv_iload_n hx hb dX0_isTold_4 rfl (lv_at hl 1 rfl) ?_
  have h_1 : vp_in a 20 := (vp_in_iff.mpr ⟨by omega, by omega⟩)
  refine va_iald hx hb hK hP 1 0 rfl rfl h_1 dX0_isTold_5 ?_
  refine lv_topi (fun x_2 ex_2 => ?_)
  obtain rfl : x_2 = (-1) := ex_2.trans (hT _ (jix h_1))
  refine lv_iconst (v := (-1)) hx hb dX0_isTold_6 (by decide) ?_
  refine lv_icmp_eq (tgt := 14) hx hb dX0_isTold_7 (by decide) (fun c_3 => ?_) (fun c_3 => absurd (by decide) c_3)
  refine lv_iconst (v := 0) hx hb dX0_isTold_14 (by decide) ?_
  have hP9 := hP.sub (ws' := [(hMer, .inr (0, [.ref aT, .ref aN, .int 0])), (aT, .inl (cT, 20, .inl fT))]) [0, 1] rfl
  have hD9 := hD.sub (ws' := [(hMer, .inr (0, [.ref aT, .ref aN, .int 0])), (aT, .inl (cT, 20, .inl fT))]) [0, 1] (by decide) rfl
  have hK9 := hK.sub (tys' := [(cT, .int)]) [0] rfl
  exact W.zret (v := 0) hx hb hr (by decide) (fun t ht hW => ⟨⟨0, (), rfl, rfl, by rw [ht]; exact hP9, va_K.moved hW.alike hK9, hD9⟩, hS.F ht⟩) hS.2.2 dX0_isTold_15

set_option maxHeartbeats 4000000 in
set_option maxRecDepth 100000 in
theorem c_X0_lastOf (l : Launch) (dC : Nat → ClassId) (dI : Nat → Nat → Nat) (sz : Nat) (hMer : Nat) (aT : Nat) (aN : Nat) (cT : ClassId) (cN : ClassId) (fT : Nat → Int32) (a : Int32) (kn : Int32) (hT : ∀ k : Nat, k < 20 → fT k = (-1)) (ha0 : 0 ≤ a.toInt) (ha1 : a.toInt ≤ 19) : Met l yX0_lastOf wsX0_lastOf ({ frames := 1, cells := 0, slots := 0, locals := 21 }) (va_Pc [.ref hMer, .int a, .int kn] (fun U => U.heap.size = sz ∧ va_P (dC, dI) vwCl [(hMer, .inr (0, [.ref aT, .ref aN, .int 0])), (aT, .inl (cT, 20, .inl fT)), (aN, .inl (cN, 20, .inl (fun _ => 0)))] U.heap ∧ va_K (dC, dI) vwCl [(cT, .int), (cN, .int)] U ∧ va_D (fun _ => True) [(hMer, .inr (0, [.ref aT, .ref aN, .int 0])), (aT, .inl (cT, 20, .inl fT)), (aN, .inl (cN, 20, .inl (fun _ => 0)))] ∧ nw_ok U)) (va_Qi (fun (r : Int32) (_ : Unit) => r = a) (fun (_ : Unit) (t : State) => va_P (dC, dI) vwCl [(hMer, .inr (0, [.ref aT, .ref aN, .int 0])), (aT, .inl (cT, 20, .inl fT)), (aN, .inl (cN, 20, .inl (fun _ => 0)))] t.heap ∧ va_K (dC, dI) vwCl [(cT, .int), (cN, .int)] t ∧ va_D (va_A [(hMer, .inr (0, [.ref aT, .ref aN, .int 0])), (aT, .inl (cT, 20, .inl fT)), (aN, .inl (cN, 20, .inl (fun _ => 0)))] sz) [(hMer, .inr (0, [.ref aT, .ref aN, .int 0])), (aT, .inl (cT, 20, .inl fT)), (aN, .inl (cN, 20, .inl (fun _ => 0)))]) (va_A [(hMer, .inr (0, [.ref aT, .ref aN, .int 0])), (aT, .inl (cT, 20, .inl fT)), (aN, .inl (cN, 20, .inl (fun _ => 0)))] sz)) 0 0 (va_A [(hMer, .inr (0, [.ref aT, .ref aN, .int 0])), (aT, .inl (cT, 20, .inl fT)), (aN, .inl (cN, 20, .inl (fun _ => 0)))] sz) := by
  refine Met.ofW (cc := cX0_lastOf) (maxL := 5) (ret := (some .int)) (by decide) rfl ?_
  intro p e s m args below meth c s₁ B hml hv
  obtain ⟨rfl, hsz, hP, hK, hD0, hN⟩ := hv
  have hx := B.exec
  have hb := B.bytes
  have hr := B.returns
  have hts := atoms_spec (ws := wsX0_lastOf) B.pre
  have hown : s.vm.findClass RX0 = some m.cls := findClass_of_methodNamed B.named
  have hlocks := B.notSynchronized
  subst hsz
  have hD := hD0.self (sz := s.heap.size)
  generalize hAe : va_A [(hMer, .inr (0, [.ref aT, .ref aN, .int 0])), (aT, .inl (cT, 20, .inl fT)), (aN, .inl (cN, 20, .inl (fun _ => 0)))] s.heap.size = A at hD ⊢
  have hA : ∀ q : Nat, s.heap.size ≤ q → A q := fun q h => by rw [← hAe]; exact Or.inr h
  have hS : va_S A s.heap s.heap [] := va_S.rf
  have hP : va_P (dC, dI) vwCl [(hMer, .inr (0, [.ref aT, .ref aN, .int 0])), (aT, .inl (cT, 20, .inl fT)), (aN, .inl (cN, 20, .inl (fun _ => 0)))] s.heap := hP
  have hl := lv_entry ([.ref hMer, .int a, .int kn]) (n := 5) (Nat.le_of_ble_eq_true rfl)
  rw [lg_entry_eq]
  generalize (lg_sl ([.ref hMer, .int a, .int kn]) ++ List.replicate (5 - (lg_sl ([.ref hMer, .int a, .int kn])).length) Slot.unset).toArray = ls at hl ⊢
  have hl : lv_has ls 5 [(0, .ref hMer), (1, .int a), (2, .int kn)] := hl
  refine lv_iload_n hx hb dX0_lastOf_0 rfl (lv_at hl 1 rfl) ?_
  refine lv_istore_n (lv' := [(3, .int a), (0, .ref hMer), (1, .int a), (2, .int kn)]) hx hb dX0_lastOf_1 rfl hl (by decide) rfl (fun ls hl => ?_)
  refine lv_iconst (v := 0) hx hb dX0_lastOf_2 (by decide) ?_
  refine lv_istore (lv' := [(4, .int 0), (3, .int a), (0, .ref hMer), (1, .int a), (2, .int kn)]) hx hb dX0_lastOf_3 hl (by decide) rfl (fun ls hl => ?_)
  refine lv_iload hx hb dX0_lastOf_5 (lv_at hl 0 rfl) ?_
  refine lv_bipush (v := 20) hx hb dX0_lastOf_7 (by decide) ?_
  refine lv_icmp_ge (tgt := 43) hx hb dX0_lastOf_9 (by decide) (fun c_1 => absurd c_1 (by decide)) (fun c_1 => ?_)
  refine lv_aload_n hx hb dX0_lastOf_12 rfl (lv_at hl 2 rfl) ?_
  refine lv_iload_n hx hb dX0_lastOf_13 rfl (lv_at hl 1 rfl) ?_
  have hk_2 : (0 : Int32).toInt = 0 := by decide
  have hPc := hP.sub (ws' := [(hMer, .inr (0, [.ref aT, .ref aN, .int 0])), (aT, .inl (cT, 20, .inl fT))]) [0, 1] rfl
  have hDc := hD.sub (ws' := [(hMer, .inr (0, [.ref aT, .ref aN, .int 0])), (aT, .inl (cT, 20, .inl fT))]) [0, 1] (by decide) rfl
  have hKc := hK.sub (tys' := [(cT, .int)]) [0] rfl
  have hFc := va_free (wc := [(hMer, .inr (0, [.ref aT, .ref aN, .int 0])), (aT, .inl (cT, 20, .inl fT))]) hD hS hA [0, 1] rfl
  refine va_calli (va_runV (As := [.int a]) (rest := []) ⟨hx, hb, hml, hown, hts⟩ (c_X0_isTold l dC dI s.heap.size hMer aT aN cT fT a hT ha0 ha1) (cwV 1 hts gX0_lastOf_X0_isTold rfl rfl rfl (by decide +kernel) ⟨Nat.le_of_ble_eq_true rfl, Nat.le_of_ble_eq_true rfl⟩) ⟨fun a U g mk q => by obtain ⟨q0, q1, qP, qK, qD, qN⟩ := q; exact ⟨q0, q1, qP, va_K.moved (u := U) (U := U.calling g mk a) (Vm.Alike.refl U.vm) qK, qD, qN.same rfl⟩, va_recv hKc hPc (ci := 0) (q0 := 0) rfl rfl, fun U hU hW => ⟨rfl, by rw [hU], by rw [hU]; exact hPc, va_K.moved hW.alike hKc, hDc.weaken (fun _ _ _ _ => trivial), hN.warm hW⟩⟩ rfl rfl hl.1 rfl (lv_room (Nat.le_of_ble_eq_true rfl)) dX0_lastOf_14 ⟨Nat.le_of_ble_eq_true rfl, Nat.le_of_ble_eq_true rfl⟩) hS (fun q _ h => hFc q h) hFc (fun r_3 u_4 t H1 locs ht hvm hw_5 hB hz1 hk1 hS => ?_)
  try dsimp only at hw_5
  obtain ⟨hP1, hK1, hD1⟩ := hB
  rw [ht] at hP1
  have hK1 := va_K.moved hvm.symm hK1
  obtain ⟨hP, hD⟩ := va_join (wr := [(aN, .inl (cN, 20, .inl (fun _ => 0)))]) (w1 := [(hMer, .inr (0, [.ref aT, .ref aN, .int 0])), (aT, .inl (cT, 20, .inl fT))]) hP hD [0, 1] [2] rfl rfl (by decide) (by decide) hk1 hFc hP1 hD1
  have hK := (hK.sub (tys' := [(cT, .int), (cN, .int)]) [0, 1] rfl).app hK1
  generalize H1 = H at hP hS ⊢
  have hP : va_P (dC, dI) vwCl [(aN, .inl (cN, 20, .inl (fun _ => 0))), (hMer, .inr (0, [.ref aT, .ref aN, .int 0])), (aT, .inl (cT, 20, .inl fT))] H := hP
  have hD : va_D A [(aN, .inl (cN, 20, .inl (fun _ => 0))), (hMer, .inr (0, [.ref aT, .ref aN, .int 0])), (aT, .inl (cT, 20, .inl fT))] := hD
  have hK : va_K (dC, dI) vwCl [(cT, .int), (cN, .int), (cT, .int)] s := hK
  obtain rfl : 0 = r_3 := hw_5.symm
  refine lv_if_eq (tgt := 43) hx hb dX0_lastOf_17 (by decide) (fun c_6 => ?_) (fun c_6 => absurd (by decide) c_6)
  refine lv_iload_n hx hb dX0_lastOf_43 rfl (lv_at hl 1 rfl) ?_
  have hP9 := hP.sub (ws' := [(hMer, .inr (0, [.ref aT, .ref aN, .int 0])), (aT, .inl (cT, 20, .inl fT)), (aN, .inl (cN, 20, .inl (fun _ => 0)))]) [1, 2, 0] rfl
  have hD9 := hD.sub (ws' := [(hMer, .inr (0, [.ref aT, .ref aN, .int 0])), (aT, .inl (cT, 20, .inl fT)), (aN, .inl (cN, 20, .inl (fun _ => 0)))]) [1, 2, 0] (by decide) rfl
  have hK9 := hK.sub (tys' := [(cT, .int), (cN, .int)]) [0, 1] rfl
  exact W.iret (v := a) hx hb hr (fun t ht hW => ⟨⟨a, (), rfl, rfl, by rw [ht]; exact hP9, va_K.moved hW.alike hK9, hD9⟩, hS.F ht⟩) hS.2.2 dX0_lastOf_44

set_option maxHeartbeats 4000000 in
set_option maxRecDepth 100000 in
theorem c_X0_add (l : Launch) (dC : Nat → ClassId) (dI : Nat → Nat → Nat) (sz : Nat) (hMer : Nat) (aT : Nat) (aN : Nat) (cT : ClassId) (cN : ClassId) (fT : Nat → Int32) (a : Int32) (b : Int32) (kn : Int32) (ha0 : 0 ≤ a.toInt) (ha1 : a.toInt ≤ 19) : Met l yX0_add wsX0_add ({ frames := 0, cells := 0, slots := 0, locals := 0 }) (va_Pc [.ref hMer, .int a, .int b, .int kn] (fun U => U.heap.size = sz ∧ va_P (dC, dI) vwCl [(hMer, .inr (0, [.ref aT, .ref aN, .int 0])), (aT, .inl (cT, 20, .inl fT)), (aN, .inl (cN, 20, .inl (fun _ => 0)))] U.heap ∧ va_K (dC, dI) vwCl [(cT, .int), (cN, .int)] U ∧ va_D (fun _ => True) [(hMer, .inr (0, [.ref aT, .ref aN, .int 0])), (aT, .inl (cT, 20, .inl fT)), (aN, .inl (cN, 20, .inl (fun _ => 0)))] ∧ nw_ok U)) (va_Qi (fun (r : Int32) (_ : Unit) => r = 1) (fun (_ : Unit) (t : State) => True) (va_A [(hMer, .inr (0, [.ref aT, .ref aN, .int 0])), (aT, .inl (cT, 20, .inl fT)), (aN, .inl (cN, 20, .inl (fun _ => 0)))] sz)) 0 0 (va_A [(hMer, .inr (0, [.ref aT, .ref aN, .int 0])), (aT, .inl (cT, 20, .inl fT)), (aN, .inl (cN, 20, .inl (fun _ => 0)))] sz) := by
  refine Met.ofW (cc := cX0_add) (maxL := 4) (ret := (some .int)) (by decide) rfl ?_
  intro p e s m args below meth c s₁ B hml hv
  obtain ⟨rfl, hsz, hP, hK, hD0, hN⟩ := hv
  have hx := B.exec
  have hb := B.bytes
  have hr := B.returns
  have hts := atoms_spec (ws := wsX0_add) B.pre
  have hown : s.vm.findClass RX0 = some m.cls := findClass_of_methodNamed B.named
  have hlocks := B.notSynchronized
  subst hsz
  have hD := hD0.self (sz := s.heap.size)
  generalize hAe : va_A [(hMer, .inr (0, [.ref aT, .ref aN, .int 0])), (aT, .inl (cT, 20, .inl fT)), (aN, .inl (cN, 20, .inl (fun _ => 0)))] s.heap.size = A at hD ⊢
  have hA : ∀ q : Nat, s.heap.size ≤ q → A q := fun q h => by rw [← hAe]; exact Or.inr h
  have hS : va_S A s.heap s.heap [] := va_S.rf
  have hP : va_P (dC, dI) vwCl [(hMer, .inr (0, [.ref aT, .ref aN, .int 0])), (aT, .inl (cT, 20, .inl fT)), (aN, .inl (cN, 20, .inl (fun _ => 0)))] s.heap := hP
  have hIX0 : ∀ w ∈ u_ws RX0 TX0 3, w ∈ wsX0_add := by decide +kernel
  have hl := lv_entry ([.ref hMer, .int a, .int b, .int kn]) (n := 4) (Nat.le_of_ble_eq_true rfl)
  rw [lg_entry_eq]
  generalize (lg_sl ([.ref hMer, .int a, .int b, .int kn]) ++ List.replicate (4 - (lg_sl ([.ref hMer, .int a, .int b, .int kn])).length) Slot.unset).toArray = ls at hl ⊢
  have hl : lv_has ls 4 [(0, .ref hMer), (1, .int a), (2, .int b), (3, .int kn)] := hl
  refine lv_aload_n hx hb dX0_add_0 rfl (lv_at hl 0 rfl) ?_
  refine va_get (D := (dC, dI)) (ci := 0) (v := .ref aT) (C := RX0) (T := TX0) (N := 3) hx hb hts hIX0 hown hK hP 0 rfl rfl 0 (by decide) (hts (.fieldLink RX0 9 "TraitHouse$Merges" "targets" "[I") (by decide +kernel)) (fun _ h9 => h9) rfl dX0_add_1 ?_
  refine lv_iload_n hx hb dX0_add_4 rfl (lv_at hl 1 rfl) ?_
  refine lv_iload_n hx hb dX0_add_5 rfl (lv_at hl 2 rfl) ?_
  have h_1 : vp_in a 20 := (vp_in_iff.mpr ⟨by omega, by omega⟩)
  refine va_iast hx hb hK hP hD hS 1 0 rfl rfl h_1 dX0_add_6 (fun H locs hP hD hS => ?_)
  have hP : va_P (dC, dI) vwCl [(hMer, .inr (0, [.ref aT, .ref aN, .int 0])), (aT, .inl (cT, 20, .inl (upd fT a.toNatClampNeg b))), (aN, .inl (cN, 20, .inl (fun _ => 0)))] H := hP
  have hD : va_D A [(hMer, .inr (0, [.ref aT, .ref aN, .int 0])), (aT, .inl (cT, 20, .inl (upd fT a.toNatClampNeg b))), (aN, .inl (cN, 20, .inl (fun _ => 0)))] := hD
  obtain ⟨g_2, eg_2⟩ : ∃ g : Nat → Int32, g = upd fT a.toNatClampNeg b := ⟨_, rfl⟩
  rw [← eg_2] at hP hD
  refine lv_aload_n hx hb dX0_add_7 rfl (lv_at hl 0 rfl) ?_
  refine va_get (D := (dC, dI)) (ci := 0) (v := .ref aN) (C := RX0) (T := TX0) (N := 3) hx hb hts hIX0 hown hK hP 0 rfl rfl 1 (by decide) (hts (.fieldLink RX0 15 "TraitHouse$Merges" "knowns" "[I") (by decide +kernel)) (fun _ h9 => h9) rfl dX0_add_8 ?_
  refine lv_iload_n hx hb dX0_add_11 rfl (lv_at hl 1 rfl) ?_
  refine lv_iload_n hx hb dX0_add_12 rfl (lv_at hl 3 rfl) ?_
  have h_3 : vp_in a 20 := (vp_in_iff.mpr ⟨by omega, by omega⟩)
  refine va_iast hx hb hK hP hD hS 2 1 rfl rfl h_3 dX0_add_13 (fun H locs hP hD hS => ?_)
  have hP : va_P (dC, dI) vwCl [(hMer, .inr (0, [.ref aT, .ref aN, .int 0])), (aT, .inl (cT, 20, .inl g_2)), (aN, .inl (cN, 20, .inl (upd (fun _ => 0) a.toNatClampNeg kn)))] H := hP
  have hD : va_D A [(hMer, .inr (0, [.ref aT, .ref aN, .int 0])), (aT, .inl (cT, 20, .inl g_2)), (aN, .inl (cN, 20, .inl (upd (fun _ => 0) a.toNatClampNeg kn)))] := hD
  obtain ⟨g_4, eg_4⟩ : ∃ g : Nat → Int32, g = upd (fun _ => 0) a.toNatClampNeg kn := ⟨_, rfl⟩
  rw [← eg_4] at hP hD
  refine lv_aload_n hx hb dX0_add_14 rfl (lv_at hl 0 rfl) ?_
  refine lv_dup hx hb dX0_add_15 rfl ?_
  refine va_get (D := (dC, dI)) (ci := 0) (v := .int 0) (C := RX0) (T := TX0) (N := 3) hx hb hts hIX0 hown hK hP 0 rfl rfl 2 (by decide) (hts (.fieldLink RX0 24 "TraitHouse$Merges" "size" "I") (by decide +kernel)) (fun _ h9 => h9) rfl dX0_add_16 ?_
  refine lv_iconst (v := 1) hx hb dX0_add_19 (by decide) ?_
  refine lv_iadd hx hb dX0_add_20 ?_
  refine lv_topi (fun x_5 ex_5 => ?_)
  obtain rfl : x_5 = 1 := ex_5.trans (by decide)
  refine va_put (D := (dC, dI)) (ci := 0) (v := .int 1) (ty := .int) (C := RX0) (T := TX0) (N := 3) hx hb hts hIX0 tyX0 tyX0_ok nmX0 hown hK hP hD hS 0 rfl rfl 2 (by decide) (hts (.fieldLink RX0 24 "TraitHouse$Merges" "size" "I") (by decide +kernel)) (fun _ h9 => h9) rfl (by decide +kernel) rfl rfl (Nat.le_of_ble_eq_true rfl) dX0_add_21 (fun H locs hP hD hS => ?_)
  have hP : va_P (dC, dI) vwCl [(hMer, .inr (0, [.ref aT, .ref aN, .int 1])), (aT, .inl (cT, 20, .inl g_2)), (aN, .inl (cN, 20, .inl g_4))] H := hP
  have hD : va_D A [(hMer, .inr (0, [.ref aT, .ref aN, .int 1])), (aT, .inl (cT, 20, .inl g_2)), (aN, .inl (cN, 20, .inl g_4))] := hD
  refine lv_aload_n hx hb dX0_add_24 rfl (lv_at hl 0 rfl) ?_
  refine va_get (D := (dC, dI)) (ci := 0) (v := .int 1) (C := RX0) (T := TX0) (N := 3) hx hb hts hIX0 hown hK hP 0 rfl rfl 2 (by decide) (hts (.fieldLink RX0 24 "TraitHouse$Merges" "size" "I") (by decide +kernel)) (fun _ h9 => h9) rfl dX0_add_25 ?_
  exact W.iret (v := 1) hx hb hr (fun t ht hW => ⟨⟨1, (), rfl, rfl, trivial⟩, hS.F ht⟩) hS.2.2 dX0_add_28

set_option maxHeartbeats 4000000 in
set_option maxRecDepth 100000 in
theorem c_X8_addMerge (l : Launch) (dC : Nat → ClassId) (dI : Nat → Nat → Nat) (sz : Nat) (h0 : Nat) (hRows : Nat) (hMer : Nat) (hEra : Nat) (hTape : Nat) (hRea : Nat) (hTra : Nat) (hWor : Nat) (hPla : Nat) (hMod : Nat) (hHe1 : Nat) (hHe2 : Nat) (aT : Nat) (aN : Nat) (cT : ClassId) (cN : ClassId) (fT : Nat → Int32) (a : Int32) (b : Int32) (kn : Int32) (hT : ∀ k : Nat, k < 20 → fT k = (-1)) : Met l yX8_addMerge wsX8_addMerge ({ frames := 2, cells := 0, slots := 0, locals := 45 }) (va_Pc [.ref h0, .int a, .int b, .int kn] (fun U => U.heap.size = sz ∧ va_P (dC, dI) vwCl [(h0, .inr (8, [.ref hRows, .ref hMer, .ref hEra, .ref hTape, .ref hRea, .ref hTra, .ref hWor, .ref hPla, .ref hMod, .ref hHe1, .ref hHe2, .int 0, .int 0, .int 0, .int 0, .int (-1), .int 0])), (hMer, .inr (0, [.ref aT, .ref aN, .int 0])), (aT, .inl (cT, 20, .inl fT)), (aN, .inl (cN, 20, .inl (fun _ => 0)))] U.heap ∧ va_K (dC, dI) vwCl [(cT, .int), (cN, .int)] U ∧ va_D (fun _ => True) [(h0, .inr (8, [.ref hRows, .ref hMer, .ref hEra, .ref hTape, .ref hRea, .ref hTra, .ref hWor, .ref hPla, .ref hMod, .ref hHe1, .ref hHe2, .int 0, .int 0, .int 0, .int 0, .int (-1), .int 0])), (hMer, .inr (0, [.ref aT, .ref aN, .int 0])), (aT, .inl (cT, 20, .inl fT)), (aN, .inl (cN, 20, .inl (fun _ => 0)))] ∧ nw_ok U)) (va_Qi (fun (r : Int32) (_ : Unit) => (¬ (0 ≤ kn.toInt ∧ kn.toInt ≤ 100000) → r.toInt = (-1)) ∧ ((0 ≤ kn.toInt ∧ kn.toInt ≤ 100000) ∧ ¬ (0 ≤ a.toInt ∧ a.toInt ≤ 19 ∧ 0 ≤ b.toInt ∧ b.toInt ≤ 19) → r.toInt = (-2)) ∧ ((0 ≤ kn.toInt ∧ kn.toInt ≤ 100000) ∧ (0 ≤ a.toInt ∧ a.toInt ≤ 19 ∧ 0 ≤ b.toInt ∧ b.toInt ≤ 19) ∧ a.toInt = b.toInt → r.toInt = (-4)) ∧ ((0 ≤ kn.toInt ∧ kn.toInt ≤ 100000) ∧ (0 ≤ a.toInt ∧ a.toInt ≤ 19 ∧ 0 ≤ b.toInt ∧ b.toInt ≤ 19) ∧ ¬ a.toInt = b.toInt → r.toInt = 1)) (fun (_ : Unit) (t : State) => va_P (dC, dI) vwCl [(h0, .inr (8, [.ref hRows, .ref hMer, .ref hEra, .ref hTape, .ref hRea, .ref hTra, .ref hWor, .ref hPla, .ref hMod, .ref hHe1, .ref hHe2, .int 0, .int 0, .int 0, .int 0, .int (-1), .int 0]))] t.heap ∧ va_K (dC, dI) vwCl [] t ∧ va_D (va_A [(h0, .inr (8, [.ref hRows, .ref hMer, .ref hEra, .ref hTape, .ref hRea, .ref hTra, .ref hWor, .ref hPla, .ref hMod, .ref hHe1, .ref hHe2, .int 0, .int 0, .int 0, .int 0, .int (-1), .int 0])), (hMer, .inr (0, [.ref aT, .ref aN, .int 0])), (aT, .inl (cT, 20, .inl fT)), (aN, .inl (cN, 20, .inl (fun _ => 0)))] sz) [(h0, .inr (8, [.ref hRows, .ref hMer, .ref hEra, .ref hTape, .ref hRea, .ref hTra, .ref hWor, .ref hPla, .ref hMod, .ref hHe1, .ref hHe2, .int 0, .int 0, .int 0, .int 0, .int (-1), .int 0]))]) (va_A [(h0, .inr (8, [.ref hRows, .ref hMer, .ref hEra, .ref hTape, .ref hRea, .ref hTra, .ref hWor, .ref hPla, .ref hMod, .ref hHe1, .ref hHe2, .int 0, .int 0, .int 0, .int 0, .int (-1), .int 0])), (hMer, .inr (0, [.ref aT, .ref aN, .int 0])), (aT, .inl (cT, 20, .inl fT)), (aN, .inl (cN, 20, .inl (fun _ => 0)))] sz)) 0 0 (va_A [(h0, .inr (8, [.ref hRows, .ref hMer, .ref hEra, .ref hTape, .ref hRea, .ref hTra, .ref hWor, .ref hPla, .ref hMod, .ref hHe1, .ref hHe2, .int 0, .int 0, .int 0, .int 0, .int (-1), .int 0])), (hMer, .inr (0, [.ref aT, .ref aN, .int 0])), (aT, .inl (cT, 20, .inl fT)), (aN, .inl (cN, 20, .inl (fun _ => 0)))] sz) := by
  refine Met.ofW (cc := cX8_addMerge) (maxL := 4) (ret := (some .int)) (by decide) rfl ?_
  intro p e s m args below meth c s₁ B hml hv
  obtain ⟨rfl, hsz, hP, hK, hD0, hN⟩ := hv
  have hx := B.exec
  have hb := B.bytes
  have hr := B.returns
  have hts := atoms_spec (ws := wsX8_addMerge) B.pre
  have hown : s.vm.findClass RX8 = some m.cls := findClass_of_methodNamed B.named
  have hlocks := B.notSynchronized
  subst hsz
  have hD := hD0.self (sz := s.heap.size)
  generalize hAe : va_A [(h0, .inr (8, [.ref hRows, .ref hMer, .ref hEra, .ref hTape, .ref hRea, .ref hTra, .ref hWor, .ref hPla, .ref hMod, .ref hHe1, .ref hHe2, .int 0, .int 0, .int 0, .int 0, .int (-1), .int 0])), (hMer, .inr (0, [.ref aT, .ref aN, .int 0])), (aT, .inl (cT, 20, .inl fT)), (aN, .inl (cN, 20, .inl (fun _ => 0)))] s.heap.size = A at hD ⊢
  have hA : ∀ q : Nat, s.heap.size ≤ q → A q := fun q h => by rw [← hAe]; exact Or.inr h
  have hS : va_S A s.heap s.heap [] := va_S.rf
  have hP : va_P (dC, dI) vwCl [(h0, .inr (8, [.ref hRows, .ref hMer, .ref hEra, .ref hTape, .ref hRea, .ref hTra, .ref hWor, .ref hPla, .ref hMod, .ref hHe1, .ref hHe2, .int 0, .int 0, .int 0, .int 0, .int (-1), .int 0])), (hMer, .inr (0, [.ref aT, .ref aN, .int 0])), (aT, .inl (cT, 20, .inl fT)), (aN, .inl (cN, 20, .inl (fun _ => 0)))] s.heap := hP
  have hIX8 : ∀ w ∈ u_ws RX8 TX8 17, w ∈ wsX8_addMerge := by decide +kernel
  have hl := lv_entry ([.ref h0, .int a, .int b, .int kn]) (n := 4) (Nat.le_of_ble_eq_true rfl)
  rw [lg_entry_eq]
  generalize (lg_sl ([.ref h0, .int a, .int b, .int kn]) ++ List.replicate (4 - (lg_sl ([.ref h0, .int a, .int b, .int kn])).length) Slot.unset).toArray = ls at hl ⊢
  have hl : lv_has ls 4 [(0, .ref h0), (1, .int a), (2, .int b), (3, .int kn)] := hl
  refine lv_iload_n hx hb dX8_addMerge_0 rfl (lv_at hl 3 rfl) ?_
  have hPc := hP.sub (ws' := []) [] rfl
  have hDc := hD.sub (ws' := []) [] (by decide) rfl
  have hKc := hK.sub (tys' := []) [] rfl
  have hFc := va_free (wc := []) hD hS hA [] rfl
  refine va_calli (va_runS (As := [.int kn]) (rest := []) ⟨hx, hb, hml, hown, hts⟩ (c_X8_isMoment l dC dI s.heap.size kn ) (va_cwS 1 hts gX8_addMerge_X8_isMoment rfl rfl rfl (by decide +kernel) ⟨Nat.le_of_ble_eq_true rfl, Nat.le_of_ble_eq_true rfl⟩) ⟨fun a U g mk q => by obtain ⟨q0, q1, qP, qK, qD, qN⟩ := q; exact ⟨q0, q1, qP, va_K.moved (u := U) (U := U.calling g mk a) (Vm.Alike.refl U.vm) qK, qD, qN.same rfl⟩, fun U hU hW => ⟨rfl, by rw [hU], by rw [hU]; exact hPc, va_K.moved hW.alike hKc, hDc.weaken (fun _ _ _ _ => trivial), hN.warm hW⟩⟩ rfl rfl hl.1 rfl (lv_room (Nat.le_of_ble_eq_true rfl)) dX8_addMerge_1 ⟨Nat.le_of_ble_eq_true rfl, Nat.le_of_ble_eq_true rfl⟩) hS (fun q _ h => hFc q h) hFc (fun r_1 u_2 t H1 locs ht hvm hw_3 hB hz1 hk1 hS => ?_)
  try dsimp only at hw_3
  obtain ⟨hP1, hK1, hD1⟩ := hB
  rw [ht] at hP1
  have hK1 := va_K.moved hvm.symm hK1
  obtain ⟨hP, hD⟩ := va_join (wr := [(h0, .inr (8, [.ref hRows, .ref hMer, .ref hEra, .ref hTape, .ref hRea, .ref hTra, .ref hWor, .ref hPla, .ref hMod, .ref hHe1, .ref hHe2, .int 0, .int 0, .int 0, .int 0, .int (-1), .int 0])), (hMer, .inr (0, [.ref aT, .ref aN, .int 0])), (aT, .inl (cT, 20, .inl fT)), (aN, .inl (cN, 20, .inl (fun _ => 0)))]) (w1 := []) hP hD [] [0, 1, 2, 3] rfl rfl (by decide) (by decide) hk1 hFc hP1 hD1
  have hK := (hK.sub (tys' := [(cT, .int), (cN, .int)]) [0, 1] rfl).app hK1
  generalize H1 = H at hP hS ⊢
  have hP : va_P (dC, dI) vwCl [(h0, .inr (8, [.ref hRows, .ref hMer, .ref hEra, .ref hTape, .ref hRea, .ref hTra, .ref hWor, .ref hPla, .ref hMod, .ref hHe1, .ref hHe2, .int 0, .int 0, .int 0, .int 0, .int (-1), .int 0])), (hMer, .inr (0, [.ref aT, .ref aN, .int 0])), (aT, .inl (cT, 20, .inl fT)), (aN, .inl (cN, 20, .inl (fun _ => 0)))] H := hP
  have hD : va_D A [(h0, .inr (8, [.ref hRows, .ref hMer, .ref hEra, .ref hTape, .ref hRea, .ref hTra, .ref hWor, .ref hPla, .ref hMod, .ref hHe1, .ref hHe2, .int 0, .int 0, .int 0, .int 0, .int (-1), .int 0])), (hMer, .inr (0, [.ref aT, .ref aN, .int 0])), (aT, .inl (cT, 20, .inl fT)), (aN, .inl (cN, 20, .inl (fun _ => 0)))] := hD
  have hK : va_K (dC, dI) vwCl [(cT, .int), (cN, .int)] s := hK
  refine lv_if_ne (tgt := 9) hx hb dX8_addMerge_4 (by decide) (fun c_4 => ?_) (fun c_4 => ?_)
  · have dc_4 : ¬ r_1.toInt = 0 := jI_ne c_4 rfl (by decide)
    refine lv_iload_n hx hb dX8_addMerge_9 rfl (lv_at hl 1 rfl) ?_
    have hPc := hP.sub (ws' := []) [] rfl
    have hDc := hD.sub (ws' := []) [] (by decide) rfl
    have hKc := hK.sub (tys' := []) [] rfl
    have hFc := va_free (wc := []) hD hS hA [] rfl
    refine va_calli (va_runS (As := [.int a]) (rest := []) ⟨hx, hb, hml, hown, hts⟩ (c_X8_isPerson l dC dI H.size a ) (va_cwS 1 hts gX8_addMerge_X8_isPerson rfl rfl rfl (by decide +kernel) ⟨Nat.le_of_ble_eq_true rfl, Nat.le_of_ble_eq_true rfl⟩) ⟨fun a U g mk q => by obtain ⟨q0, q1, qP, qK, qD, qN⟩ := q; exact ⟨q0, q1, qP, va_K.moved (u := U) (U := U.calling g mk a) (Vm.Alike.refl U.vm) qK, qD, qN.same rfl⟩, fun U hU hW => ⟨rfl, by rw [hU], by rw [hU]; exact hPc, va_K.moved hW.alike hKc, hDc.weaken (fun _ _ _ _ => trivial), hN.warm hW⟩⟩ rfl rfl hl.1 rfl (lv_room (Nat.le_of_ble_eq_true rfl)) dX8_addMerge_10 ⟨Nat.le_of_ble_eq_true rfl, Nat.le_of_ble_eq_true rfl⟩) hS (fun q _ h => hFc q h) hFc (fun r_5 u_6 t H1 locs ht hvm hw_7 hB hz1 hk1 hS => ?_)
    try dsimp only at hw_7
    obtain ⟨hP1, hK1, hD1⟩ := hB
    rw [ht] at hP1
    have hK1 := va_K.moved hvm.symm hK1
    obtain ⟨hP, hD⟩ := va_join (wr := [(h0, .inr (8, [.ref hRows, .ref hMer, .ref hEra, .ref hTape, .ref hRea, .ref hTra, .ref hWor, .ref hPla, .ref hMod, .ref hHe1, .ref hHe2, .int 0, .int 0, .int 0, .int 0, .int (-1), .int 0])), (hMer, .inr (0, [.ref aT, .ref aN, .int 0])), (aT, .inl (cT, 20, .inl fT)), (aN, .inl (cN, 20, .inl (fun _ => 0)))]) (w1 := []) hP hD [] [0, 1, 2, 3] rfl rfl (by decide) (by decide) hk1 hFc hP1 hD1
    have hK := (hK.sub (tys' := [(cT, .int), (cN, .int)]) [0, 1] rfl).app hK1
    generalize H1 = H at hP hS ⊢
    have hP : va_P (dC, dI) vwCl [(h0, .inr (8, [.ref hRows, .ref hMer, .ref hEra, .ref hTape, .ref hRea, .ref hTra, .ref hWor, .ref hPla, .ref hMod, .ref hHe1, .ref hHe2, .int 0, .int 0, .int 0, .int 0, .int (-1), .int 0])), (hMer, .inr (0, [.ref aT, .ref aN, .int 0])), (aT, .inl (cT, 20, .inl fT)), (aN, .inl (cN, 20, .inl (fun _ => 0)))] H := hP
    have hD : va_D A [(h0, .inr (8, [.ref hRows, .ref hMer, .ref hEra, .ref hTape, .ref hRea, .ref hTra, .ref hWor, .ref hPla, .ref hMod, .ref hHe1, .ref hHe2, .int 0, .int 0, .int 0, .int 0, .int (-1), .int 0])), (hMer, .inr (0, [.ref aT, .ref aN, .int 0])), (aT, .inl (cT, 20, .inl fT)), (aN, .inl (cN, 20, .inl (fun _ => 0)))] := hD
    have hK : va_K (dC, dI) vwCl [(cT, .int), (cN, .int)] s := hK
    refine lv_if_eq (tgt := 23) hx hb dX8_addMerge_13 (by decide) (fun c_8 => ?_) (fun c_8 => ?_)
    · have dc_8 : r_5.toInt = 0 := jI_eq c_8 rfl (by decide)
      refine lv_bipush (v := (-2)) hx hb dX8_addMerge_23 (by decide) ?_
      have hP9 := hP.sub (ws' := [(h0, .inr (8, [.ref hRows, .ref hMer, .ref hEra, .ref hTape, .ref hRea, .ref hTra, .ref hWor, .ref hPla, .ref hMod, .ref hHe1, .ref hHe2, .int 0, .int 0, .int 0, .int 0, .int (-1), .int 0]))]) [0] rfl
      have hD9 := hD.sub (ws' := [(h0, .inr (8, [.ref hRows, .ref hMer, .ref hEra, .ref hTape, .ref hRea, .ref hTra, .ref hWor, .ref hPla, .ref hMod, .ref hHe1, .ref hHe2, .int 0, .int 0, .int 0, .int 0, .int (-1), .int 0]))]) [0] (by decide) rfl
      have hK9 := hK.sub (tys' := []) [] rfl
      have hans : ((-2) : Int32).toInt = (-2) := (by decide)
      exact W.iret (v := (-2)) hx hb hr (fun t ht hW => ⟨⟨(-2), (), rfl, by first | omega | (dsimp only; omega), by rw [ht]; exact hP9, va_K.moved hW.alike hK9, hD9⟩, hS.F ht⟩) hS.2.2 dX8_addMerge_25
    · have dc_8 : ¬ r_5.toInt = 0 := jI_ne c_8 rfl (by decide)
      refine lv_iload_n hx hb dX8_addMerge_16 rfl (lv_at hl 2 rfl) ?_
      have hPc := hP.sub (ws' := []) [] rfl
      have hDc := hD.sub (ws' := []) [] (by decide) rfl
      have hKc := hK.sub (tys' := []) [] rfl
      have hFc := va_free (wc := []) hD hS hA [] rfl
      refine va_calli (va_runS (As := [.int b]) (rest := []) ⟨hx, hb, hml, hown, hts⟩ (c_X8_isPerson l dC dI H.size b ) (va_cwS 1 hts gX8_addMerge_X8_isPerson rfl rfl rfl (by decide +kernel) ⟨Nat.le_of_ble_eq_true rfl, Nat.le_of_ble_eq_true rfl⟩) ⟨fun a U g mk q => by obtain ⟨q0, q1, qP, qK, qD, qN⟩ := q; exact ⟨q0, q1, qP, va_K.moved (u := U) (U := U.calling g mk a) (Vm.Alike.refl U.vm) qK, qD, qN.same rfl⟩, fun U hU hW => ⟨rfl, by rw [hU], by rw [hU]; exact hPc, va_K.moved hW.alike hKc, hDc.weaken (fun _ _ _ _ => trivial), hN.warm hW⟩⟩ rfl rfl hl.1 rfl (lv_room (Nat.le_of_ble_eq_true rfl)) dX8_addMerge_17 ⟨Nat.le_of_ble_eq_true rfl, Nat.le_of_ble_eq_true rfl⟩) hS (fun q _ h => hFc q h) hFc (fun r_9 u_10 t H1 locs ht hvm hw_11 hB hz1 hk1 hS => ?_)
      try dsimp only at hw_11
      obtain ⟨hP1, hK1, hD1⟩ := hB
      rw [ht] at hP1
      have hK1 := va_K.moved hvm.symm hK1
      obtain ⟨hP, hD⟩ := va_join (wr := [(h0, .inr (8, [.ref hRows, .ref hMer, .ref hEra, .ref hTape, .ref hRea, .ref hTra, .ref hWor, .ref hPla, .ref hMod, .ref hHe1, .ref hHe2, .int 0, .int 0, .int 0, .int 0, .int (-1), .int 0])), (hMer, .inr (0, [.ref aT, .ref aN, .int 0])), (aT, .inl (cT, 20, .inl fT)), (aN, .inl (cN, 20, .inl (fun _ => 0)))]) (w1 := []) hP hD [] [0, 1, 2, 3] rfl rfl (by decide) (by decide) hk1 hFc hP1 hD1
      have hK := (hK.sub (tys' := [(cT, .int), (cN, .int)]) [0, 1] rfl).app hK1
      generalize H1 = H at hP hS ⊢
      have hP : va_P (dC, dI) vwCl [(h0, .inr (8, [.ref hRows, .ref hMer, .ref hEra, .ref hTape, .ref hRea, .ref hTra, .ref hWor, .ref hPla, .ref hMod, .ref hHe1, .ref hHe2, .int 0, .int 0, .int 0, .int 0, .int (-1), .int 0])), (hMer, .inr (0, [.ref aT, .ref aN, .int 0])), (aT, .inl (cT, 20, .inl fT)), (aN, .inl (cN, 20, .inl (fun _ => 0)))] H := hP
      have hD : va_D A [(h0, .inr (8, [.ref hRows, .ref hMer, .ref hEra, .ref hTape, .ref hRea, .ref hTra, .ref hWor, .ref hPla, .ref hMod, .ref hHe1, .ref hHe2, .int 0, .int 0, .int 0, .int 0, .int (-1), .int 0])), (hMer, .inr (0, [.ref aT, .ref aN, .int 0])), (aT, .inl (cT, 20, .inl fT)), (aN, .inl (cN, 20, .inl (fun _ => 0)))] := hD
      have hK : va_K (dC, dI) vwCl [(cT, .int), (cN, .int)] s := hK
      refine lv_if_ne (tgt := 26) hx hb dX8_addMerge_20 (by decide) (fun c_12 => ?_) (fun c_12 => ?_)
      · have dc_12 : ¬ r_9.toInt = 0 := jI_ne c_12 rfl (by decide)
        refine lv_aload_n hx hb dX8_addMerge_26 rfl (lv_at hl 0 rfl) ?_
        refine va_get (D := (dC, dI)) (ci := 8) (v := .ref hMer) (C := RX8) (T := TX8) (N := 17) hx hb hts hIX8 hown hK hP 0 rfl rfl 1 (by decide) (hts (.fieldLink RX8 19 "TraitHouse" "merges" "LTraitHouse$Merges;") (by decide +kernel)) (fun _ h9 => h9) rfl dX8_addMerge_27 ?_
        refine lv_iload_n hx hb dX8_addMerge_30 rfl (lv_at hl 1 rfl) ?_
        have hk_13 : (0 : Int32).toInt = 0 := by decide
        have hPc := hP.sub (ws' := [(hMer, .inr (0, [.ref aT, .ref aN, .int 0])), (aT, .inl (cT, 20, .inl fT))]) [1, 2] rfl
        have hDc := hD.sub (ws' := [(hMer, .inr (0, [.ref aT, .ref aN, .int 0])), (aT, .inl (cT, 20, .inl fT))]) [1, 2] (by decide) rfl
        have hKc := hK.sub (tys' := [(cT, .int)]) [0] rfl
        have hFc := va_free (wc := [(hMer, .inr (0, [.ref aT, .ref aN, .int 0])), (aT, .inl (cT, 20, .inl fT))]) hD hS hA [1, 2] rfl
        refine va_calli (va_runVN (As := [.int a]) (rest := []) ⟨hx, hb, hml, hown, hts⟩ (c_X0_isTold l dC dI H.size hMer aT aN cT fT a hT (by omega) (by omega)) ⟨(va_cnB 1 hts gX8_addMerge_X0_isTold_n114 rfl rfl rfl (nw_at hN 38 rfl) (hts (.initialized RX0) (by decide +kernel)) (by decide +kernel) ⟨Nat.le_of_ble_eq_true rfl, Nat.le_of_ble_eq_true rfl⟩), (hts (.instanceMethod yX0_isTold) (by decide +kernel)), (hts (.selects RX0 yX0_isTold yX0_isTold) (by decide +kernel))⟩ ⟨fun a U g mk q => by obtain ⟨q0, q1, qP, qK, qD, qN⟩ := q; exact ⟨q0, q1, qP, va_K.moved (u := U) (U := U.calling g mk a) (Vm.Alike.refl U.vm) qK, qD, qN.same rfl⟩, va_recv hKc hPc (ci := 0) (q0 := 0) rfl rfl, fun U hU hW => ⟨rfl, by rw [hU], by rw [hU]; exact hPc, va_K.moved hW.alike hKc, hDc.weaken (fun _ _ _ _ => trivial), hN.warm hW⟩⟩ rfl rfl hl.1 rfl (lv_room (Nat.le_of_ble_eq_true rfl)) dX8_addMerge_31 ⟨Nat.le_of_ble_eq_true rfl, Nat.le_of_ble_eq_true rfl⟩) hS (fun q _ h => hFc q h) hFc (fun r_14 u_15 t H1 locs ht hvm hw_16 hB hz1 hk1 hS => ?_)
        try dsimp only at hw_16
        obtain ⟨hP1, hK1, hD1⟩ := hB
        rw [ht] at hP1
        have hK1 := va_K.moved hvm.symm hK1
        obtain ⟨hP, hD⟩ := va_join (wr := [(h0, .inr (8, [.ref hRows, .ref hMer, .ref hEra, .ref hTape, .ref hRea, .ref hTra, .ref hWor, .ref hPla, .ref hMod, .ref hHe1, .ref hHe2, .int 0, .int 0, .int 0, .int 0, .int (-1), .int 0])), (aN, .inl (cN, 20, .inl (fun _ => 0)))]) (w1 := [(hMer, .inr (0, [.ref aT, .ref aN, .int 0])), (aT, .inl (cT, 20, .inl fT))]) hP hD [1, 2] [0, 3] rfl rfl (by decide) (by decide) hk1 hFc hP1 hD1
        have hK := (hK.sub (tys' := [(cT, .int), (cN, .int)]) [0, 1] rfl).app hK1
        generalize H1 = H at hP hS ⊢
        have hP : va_P (dC, dI) vwCl [(h0, .inr (8, [.ref hRows, .ref hMer, .ref hEra, .ref hTape, .ref hRea, .ref hTra, .ref hWor, .ref hPla, .ref hMod, .ref hHe1, .ref hHe2, .int 0, .int 0, .int 0, .int 0, .int (-1), .int 0])), (aN, .inl (cN, 20, .inl (fun _ => 0))), (hMer, .inr (0, [.ref aT, .ref aN, .int 0])), (aT, .inl (cT, 20, .inl fT))] H := hP
        have hD : va_D A [(h0, .inr (8, [.ref hRows, .ref hMer, .ref hEra, .ref hTape, .ref hRea, .ref hTra, .ref hWor, .ref hPla, .ref hMod, .ref hHe1, .ref hHe2, .int 0, .int 0, .int 0, .int 0, .int (-1), .int 0])), (aN, .inl (cN, 20, .inl (fun _ => 0))), (hMer, .inr (0, [.ref aT, .ref aN, .int 0])), (aT, .inl (cT, 20, .inl fT))] := hD
        have hK : va_K (dC, dI) vwCl [(cT, .int), (cN, .int), (cT, .int)] s := hK
        obtain rfl : 0 = r_14 := hw_16.symm
        refine lv_if_ne (tgt := 51) hx hb dX8_addMerge_34 (by decide) (fun c_17 => absurd c_17 (by decide)) (fun c_17 => ?_)
        refine lv_aload_n hx hb dX8_addMerge_37 rfl (lv_at hl 0 rfl) ?_
        refine va_get (D := (dC, dI)) (ci := 8) (v := .ref hMer) (C := RX8) (T := TX8) (N := 17) hx hb hts hIX8 hown hK hP 0 rfl rfl 1 (by decide) (hts (.fieldLink RX8 19 "TraitHouse" "merges" "LTraitHouse$Merges;") (by decide +kernel)) (fun _ h9 => h9) rfl dX8_addMerge_38 ?_
        refine lv_iload_n hx hb dX8_addMerge_41 rfl (lv_at hl 2 rfl) ?_
        refine lv_ldc hx hb hown (hts (.constant RX8 117 (100000)) (by decide +kernel)) dX8_addMerge_42 ?_
        have hk_18 : (100000 : Int32).toInt = 100000 := by decide
        have hk_19 : (0 : Int32).toInt = 0 := by decide
        have hPc := hP.sub (ws' := [(hMer, .inr (0, [.ref aT, .ref aN, .int 0])), (aT, .inl (cT, 20, .inl fT)), (aN, .inl (cN, 20, .inl (fun _ => 0)))]) [2, 3, 1] rfl
        have hDc := hD.sub (ws' := [(hMer, .inr (0, [.ref aT, .ref aN, .int 0])), (aT, .inl (cT, 20, .inl fT)), (aN, .inl (cN, 20, .inl (fun _ => 0)))]) [2, 3, 1] (by decide) rfl
        have hKc := hK.sub (tys' := [(cT, .int), (cN, .int)]) [0, 1] rfl
        have hFc := va_free (wc := [(hMer, .inr (0, [.ref aT, .ref aN, .int 0])), (aT, .inl (cT, 20, .inl fT)), (aN, .inl (cN, 20, .inl (fun _ => 0)))]) hD hS hA [2, 3, 1] rfl
        refine va_calli (va_runVN (As := [.int b, .int 100000]) (rest := []) ⟨hx, hb, hml, hown, hts⟩ (c_X0_lastOf l dC dI H.size hMer aT aN cT cN fT b 100000 hT (by omega) (by omega)) ⟨(va_cnB 2 hts gX8_addMerge_X0_lastOf_n118 rfl rfl rfl (nw_at hN 39 rfl) (hts (.initialized RX0) (by decide +kernel)) (by decide +kernel) ⟨Nat.le_of_ble_eq_true rfl, Nat.le_of_ble_eq_true rfl⟩), (hts (.instanceMethod yX0_lastOf) (by decide +kernel)), (hts (.selects RX0 yX0_lastOf yX0_lastOf) (by decide +kernel))⟩ ⟨fun a U g mk q => by obtain ⟨q0, q1, qP, qK, qD, qN⟩ := q; exact ⟨q0, q1, qP, va_K.moved (u := U) (U := U.calling g mk a) (Vm.Alike.refl U.vm) qK, qD, qN.same rfl⟩, va_recv hKc hPc (ci := 0) (q0 := 0) rfl rfl, fun U hU hW => ⟨rfl, by rw [hU], by rw [hU]; exact hPc, va_K.moved hW.alike hKc, hDc.weaken (fun _ _ _ _ => trivial), hN.warm hW⟩⟩ rfl rfl hl.1 rfl (lv_room (Nat.le_of_ble_eq_true rfl)) dX8_addMerge_44 ⟨Nat.le_of_ble_eq_true rfl, Nat.le_of_ble_eq_true rfl⟩) hS (fun q _ h => hFc q h) hFc (fun r_20 u_21 t H1 locs ht hvm hw_22 hB hz1 hk1 hS => ?_)
        try dsimp only at hw_22
        obtain ⟨hP1, hK1, hD1⟩ := hB
        rw [ht] at hP1
        have hK1 := va_K.moved hvm.symm hK1
        obtain ⟨hP, hD⟩ := va_join (wr := [(h0, .inr (8, [.ref hRows, .ref hMer, .ref hEra, .ref hTape, .ref hRea, .ref hTra, .ref hWor, .ref hPla, .ref hMod, .ref hHe1, .ref hHe2, .int 0, .int 0, .int 0, .int 0, .int (-1), .int 0]))]) (w1 := [(hMer, .inr (0, [.ref aT, .ref aN, .int 0])), (aT, .inl (cT, 20, .inl fT)), (aN, .inl (cN, 20, .inl (fun _ => 0)))]) hP hD [2, 3, 1] [0] rfl rfl (by decide) (by decide) hk1 hFc hP1 hD1
        have hK := (hK.sub (tys' := [(cT, .int), (cN, .int), (cT, .int)]) [0, 1, 2] rfl).app hK1
        generalize H1 = H at hP hS ⊢
        have hP : va_P (dC, dI) vwCl [(h0, .inr (8, [.ref hRows, .ref hMer, .ref hEra, .ref hTape, .ref hRea, .ref hTra, .ref hWor, .ref hPla, .ref hMod, .ref hHe1, .ref hHe2, .int 0, .int 0, .int 0, .int 0, .int (-1), .int 0])), (hMer, .inr (0, [.ref aT, .ref aN, .int 0])), (aT, .inl (cT, 20, .inl fT)), (aN, .inl (cN, 20, .inl (fun _ => 0)))] H := hP
        have hD : va_D A [(h0, .inr (8, [.ref hRows, .ref hMer, .ref hEra, .ref hTape, .ref hRea, .ref hTra, .ref hWor, .ref hPla, .ref hMod, .ref hHe1, .ref hHe2, .int 0, .int 0, .int 0, .int 0, .int (-1), .int 0])), (hMer, .inr (0, [.ref aT, .ref aN, .int 0])), (aT, .inl (cT, 20, .inl fT)), (aN, .inl (cN, 20, .inl (fun _ => 0)))] := hD
        have hK : va_K (dC, dI) vwCl [(cT, .int), (cN, .int), (cT, .int), (cT, .int), (cN, .int)] s := hK
        obtain rfl : b = r_20 := hw_22.symm
        refine lv_iload_n hx hb dX8_addMerge_47 rfl (lv_at hl 1 rfl) ?_
        refine lv_icmp_ne (tgt := 54) hx hb dX8_addMerge_48 (by decide) (fun c_23 => ?_) (fun c_23 => ?_)
        · have dc_23 : ¬ b.toInt = a.toInt := jI_ne c_23 rfl rfl
          refine lv_aload_n hx hb dX8_addMerge_54 rfl (lv_at hl 0 rfl) ?_
          refine va_get (D := (dC, dI)) (ci := 8) (v := .ref hMer) (C := RX8) (T := TX8) (N := 17) hx hb hts hIX8 hown hK hP 0 rfl rfl 1 (by decide) (hts (.fieldLink RX8 19 "TraitHouse" "merges" "LTraitHouse$Merges;") (by decide +kernel)) (fun _ h9 => h9) rfl dX8_addMerge_55 ?_
          refine lv_iload_n hx hb dX8_addMerge_58 rfl (lv_at hl 1 rfl) ?_
          refine lv_iload_n hx hb dX8_addMerge_59 rfl (lv_at hl 2 rfl) ?_
          refine lv_iload_n hx hb dX8_addMerge_60 rfl (lv_at hl 3 rfl) ?_
          have hk_24 : (0 : Int32).toInt = 0 := by decide
          have hPc := hP.sub (ws' := [(hMer, .inr (0, [.ref aT, .ref aN, .int 0])), (aT, .inl (cT, 20, .inl fT)), (aN, .inl (cN, 20, .inl (fun _ => 0)))]) [1, 2, 3] rfl
          have hDc := hD.sub (ws' := [(hMer, .inr (0, [.ref aT, .ref aN, .int 0])), (aT, .inl (cT, 20, .inl fT)), (aN, .inl (cN, 20, .inl (fun _ => 0)))]) [1, 2, 3] (by decide) rfl
          have hKc := hK.sub (tys' := [(cT, .int), (cN, .int)]) [0, 1] rfl
          have hFc := va_free (wc := [(hMer, .inr (0, [.ref aT, .ref aN, .int 0])), (aT, .inl (cT, 20, .inl fT)), (aN, .inl (cN, 20, .inl (fun _ => 0)))]) hD hS hA [1, 2, 3] rfl
          refine va_calli (va_runVN (As := [.int a, .int b, .int kn]) (rest := []) ⟨hx, hb, hml, hown, hts⟩ (c_X0_add l dC dI H.size hMer aT aN cT cN fT a b kn (by omega) (by omega)) ⟨(va_cnB 3 hts gX8_addMerge_X0_add_n122 rfl rfl rfl (nw_at hN 40 rfl) (hts (.initialized RX0) (by decide +kernel)) (by decide +kernel) ⟨Nat.le_of_ble_eq_true rfl, Nat.le_of_ble_eq_true rfl⟩), (hts (.instanceMethod yX0_add) (by decide +kernel)), (hts (.selects RX0 yX0_add yX0_add) (by decide +kernel))⟩ ⟨fun a U g mk q => by obtain ⟨q0, q1, qP, qK, qD, qN⟩ := q; exact ⟨q0, q1, qP, va_K.moved (u := U) (U := U.calling g mk a) (Vm.Alike.refl U.vm) qK, qD, qN.same rfl⟩, va_recv hKc hPc (ci := 0) (q0 := 0) rfl rfl, fun U hU hW => ⟨rfl, by rw [hU], by rw [hU]; exact hPc, va_K.moved hW.alike hKc, hDc.weaken (fun _ _ _ _ => trivial), hN.warm hW⟩⟩ rfl rfl hl.1 rfl (lv_room (Nat.le_of_ble_eq_true rfl)) dX8_addMerge_61 ⟨Nat.le_of_ble_eq_true rfl, Nat.le_of_ble_eq_true rfl⟩) hS (fun q _ h => hFc q h) hFc (fun r_25 u_26 t H1 locs ht hvm hw_27 hB hz1 hk1 hS => ?_)
          try dsimp only at hw_27
          have hP1 : va_P (dC, dI) vwCl [] H1 := fun k q h => by simp at h
          have hD1 : va_D (va_A [(hMer, .inr (0, [.ref aT, .ref aN, .int 0])), (aT, .inl (cT, 20, .inl fT)), (aN, .inl (cN, 20, .inl (fun _ => 0)))] H.size) [] := ⟨fun i j p q h => by simp at h, fun k q h => by simp at h⟩
          have hK1 : va_K (dC, dI) vwCl [] s := hK.sub [] rfl
          obtain ⟨hP, hD⟩ := va_join (wr := [(h0, .inr (8, [.ref hRows, .ref hMer, .ref hEra, .ref hTape, .ref hRea, .ref hTra, .ref hWor, .ref hPla, .ref hMod, .ref hHe1, .ref hHe2, .int 0, .int 0, .int 0, .int 0, .int (-1), .int 0]))]) (w1 := []) hP hD [1, 2, 3] [0] rfl rfl (by decide) (by decide) hk1 hFc hP1 hD1
          have hK := (hK.sub (tys' := [(cT, .int), (cN, .int), (cT, .int), (cT, .int), (cN, .int)]) [0, 1, 2, 3, 4] rfl).app hK1
          generalize H1 = H at hP hS ⊢
          have hP : va_P (dC, dI) vwCl [(h0, .inr (8, [.ref hRows, .ref hMer, .ref hEra, .ref hTape, .ref hRea, .ref hTra, .ref hWor, .ref hPla, .ref hMod, .ref hHe1, .ref hHe2, .int 0, .int 0, .int 0, .int 0, .int (-1), .int 0]))] H := hP
          have hD : va_D A [(h0, .inr (8, [.ref hRows, .ref hMer, .ref hEra, .ref hTape, .ref hRea, .ref hTra, .ref hWor, .ref hPla, .ref hMod, .ref hHe1, .ref hHe2, .int 0, .int 0, .int 0, .int 0, .int (-1), .int 0]))] := hD
          have hK : va_K (dC, dI) vwCl [(cT, .int), (cN, .int), (cT, .int), (cT, .int), (cN, .int)] s := hK
          obtain rfl : 1 = r_25 := hw_27.symm
          have hP9 := hP.sub (ws' := [(h0, .inr (8, [.ref hRows, .ref hMer, .ref hEra, .ref hTape, .ref hRea, .ref hTra, .ref hWor, .ref hPla, .ref hMod, .ref hHe1, .ref hHe2, .int 0, .int 0, .int 0, .int 0, .int (-1), .int 0]))]) [0] rfl
          have hD9 := hD.sub (ws' := [(h0, .inr (8, [.ref hRows, .ref hMer, .ref hEra, .ref hTape, .ref hRea, .ref hTra, .ref hWor, .ref hPla, .ref hMod, .ref hHe1, .ref hHe2, .int 0, .int 0, .int 0, .int 0, .int (-1), .int 0]))]) [0] (by decide) rfl
          have hK9 := hK.sub (tys' := []) [] rfl
          have hans : (1 : Int32).toInt = 1 := (by decide)
          exact W.iret (v := 1) hx hb hr (fun t ht hW => ⟨⟨1, (), rfl, by first | omega | (dsimp only; omega), by rw [ht]; exact hP9, va_K.moved hW.alike hK9, hD9⟩, hS.F ht⟩) hS.2.2 dX8_addMerge_64
        · have dc_23 : b.toInt = a.toInt := jI_eq c_23 rfl rfl
          refine lv_bipush (v := (-4)) hx hb dX8_addMerge_51 (by decide) ?_
          have hP9 := hP.sub (ws' := [(h0, .inr (8, [.ref hRows, .ref hMer, .ref hEra, .ref hTape, .ref hRea, .ref hTra, .ref hWor, .ref hPla, .ref hMod, .ref hHe1, .ref hHe2, .int 0, .int 0, .int 0, .int 0, .int (-1), .int 0]))]) [0] rfl
          have hD9 := hD.sub (ws' := [(h0, .inr (8, [.ref hRows, .ref hMer, .ref hEra, .ref hTape, .ref hRea, .ref hTra, .ref hWor, .ref hPla, .ref hMod, .ref hHe1, .ref hHe2, .int 0, .int 0, .int 0, .int 0, .int (-1), .int 0]))]) [0] (by decide) rfl
          have hK9 := hK.sub (tys' := []) [] rfl
          have hans : ((-4) : Int32).toInt = (-4) := (by decide)
          exact W.iret (v := (-4)) hx hb hr (fun t ht hW => ⟨⟨(-4), (), rfl, by first | omega | (dsimp only; omega), by rw [ht]; exact hP9, va_K.moved hW.alike hK9, hD9⟩, hS.F ht⟩) hS.2.2 dX8_addMerge_53
      · have dc_12 : r_9.toInt = 0 := jI_eq c_12 rfl (by decide)
        refine lv_bipush (v := (-2)) hx hb dX8_addMerge_23 (by decide) ?_
        have hP9 := hP.sub (ws' := [(h0, .inr (8, [.ref hRows, .ref hMer, .ref hEra, .ref hTape, .ref hRea, .ref hTra, .ref hWor, .ref hPla, .ref hMod, .ref hHe1, .ref hHe2, .int 0, .int 0, .int 0, .int 0, .int (-1), .int 0]))]) [0] rfl
        have hD9 := hD.sub (ws' := [(h0, .inr (8, [.ref hRows, .ref hMer, .ref hEra, .ref hTape, .ref hRea, .ref hTra, .ref hWor, .ref hPla, .ref hMod, .ref hHe1, .ref hHe2, .int 0, .int 0, .int 0, .int 0, .int (-1), .int 0]))]) [0] (by decide) rfl
        have hK9 := hK.sub (tys' := []) [] rfl
        have hans : ((-2) : Int32).toInt = (-2) := (by decide)
        exact W.iret (v := (-2)) hx hb hr (fun t ht hW => ⟨⟨(-2), (), rfl, by first | omega | (dsimp only; omega), by rw [ht]; exact hP9, va_K.moved hW.alike hK9, hD9⟩, hS.F ht⟩) hS.2.2 dX8_addMerge_25
  · have dc_4 : r_1.toInt = 0 := jI_eq c_4 rfl (by decide)
    refine lv_iconst (v := (-1)) hx hb dX8_addMerge_7 (by decide) ?_
    have hP9 := hP.sub (ws' := [(h0, .inr (8, [.ref hRows, .ref hMer, .ref hEra, .ref hTape, .ref hRea, .ref hTra, .ref hWor, .ref hPla, .ref hMod, .ref hHe1, .ref hHe2, .int 0, .int 0, .int 0, .int 0, .int (-1), .int 0]))]) [0] rfl
    have hD9 := hD.sub (ws' := [(h0, .inr (8, [.ref hRows, .ref hMer, .ref hEra, .ref hTape, .ref hRea, .ref hTra, .ref hWor, .ref hPla, .ref hMod, .ref hHe1, .ref hHe2, .int 0, .int 0, .int 0, .int 0, .int (-1), .int 0]))]) [0] (by decide) rfl
    have hK9 := hK.sub (tys' := []) [] rfl
    have hans : ((-1) : Int32).toInt = (-1) := (by decide)
    exact W.iret (v := (-1)) hx hb hr (fun t ht hW => ⟨⟨(-1), (), rfl, by first | omega | (dsimp only; omega), by rw [ht]; exact hP9, va_K.moved hW.alike hK9, hD9⟩, hS.F ht⟩) hS.2.2 dX8_addMerge_8

set_option maxHeartbeats 4000000 in
set_option maxRecDepth 100000 in
theorem c_X8_merge (l : Launch) (dC : Nat → ClassId) (dI : Nat → Nat → Nat) (sz : Nat) (h0 : Nat) (hRows : Nat) (hMer : Nat) (hEra : Nat) (hTape : Nat) (hRea : Nat) (hTra : Nat) (hWor : Nat) (hPla : Nat) (hMod : Nat) (hHe1 : Nat) (hHe2 : Nat) (aT : Nat) (aN : Nat) (cT : ClassId) (cN : ClassId) (fT : Nat → Int32) (a : Int32) (b : Int32) (kn : Int32) (hT : ∀ k : Nat, k < 20 → fT k = (-1)) : Met l yX8_merge wsX8_merge ({ frames := 3, cells := 0, slots := 0, locals := 68 }) (va_Pc [.ref h0, .int a, .int b, .int kn] (fun U => U.heap.size = sz ∧ va_P (dC, dI) vwCl [(h0, .inr (8, [.ref hRows, .ref hMer, .ref hEra, .ref hTape, .ref hRea, .ref hTra, .ref hWor, .ref hPla, .ref hMod, .ref hHe1, .ref hHe2, .int 0, .int 0, .int 0, .int 0, .int (-1), .int 0])), (hMer, .inr (0, [.ref aT, .ref aN, .int 0])), (aT, .inl (cT, 20, .inl fT)), (aN, .inl (cN, 20, .inl (fun _ => 0)))] U.heap ∧ va_K (dC, dI) vwCl [(cT, .int), (cN, .int)] U ∧ va_D (fun _ => True) [(h0, .inr (8, [.ref hRows, .ref hMer, .ref hEra, .ref hTape, .ref hRea, .ref hTra, .ref hWor, .ref hPla, .ref hMod, .ref hHe1, .ref hHe2, .int 0, .int 0, .int 0, .int 0, .int (-1), .int 0])), (hMer, .inr (0, [.ref aT, .ref aN, .int 0])), (aT, .inl (cT, 20, .inl fT)), (aN, .inl (cN, 20, .inl (fun _ => 0)))] ∧ nw_ok U)) (va_Qi (fun (r : Int32) (_ : Unit) => (¬ (0 ≤ kn.toInt ∧ kn.toInt ≤ 100000) → r.toInt = (-1)) ∧ ((0 ≤ kn.toInt ∧ kn.toInt ≤ 100000) ∧ ¬ (0 ≤ a.toInt ∧ a.toInt ≤ 19 ∧ 0 ≤ b.toInt ∧ b.toInt ≤ 19) → r.toInt = (-2)) ∧ ((0 ≤ kn.toInt ∧ kn.toInt ≤ 100000) ∧ (0 ≤ a.toInt ∧ a.toInt ≤ 19 ∧ 0 ≤ b.toInt ∧ b.toInt ≤ 19) ∧ a.toInt = b.toInt → r.toInt = (-4)) ∧ ((0 ≤ kn.toInt ∧ kn.toInt ≤ 100000) ∧ (0 ≤ a.toInt ∧ a.toInt ≤ 19 ∧ 0 ≤ b.toInt ∧ b.toInt ≤ 19) ∧ ¬ a.toInt = b.toInt → r.toInt = 1)) (fun (_ : Unit) (t : State) => True) (va_A [(h0, .inr (8, [.ref hRows, .ref hMer, .ref hEra, .ref hTape, .ref hRea, .ref hTra, .ref hWor, .ref hPla, .ref hMod, .ref hHe1, .ref hHe2, .int 0, .int 0, .int 0, .int 0, .int (-1), .int 0])), (hMer, .inr (0, [.ref aT, .ref aN, .int 0])), (aT, .inl (cT, 20, .inl fT)), (aN, .inl (cN, 20, .inl (fun _ => 0)))] sz)) 0 0 (va_A [(h0, .inr (8, [.ref hRows, .ref hMer, .ref hEra, .ref hTape, .ref hRea, .ref hTra, .ref hWor, .ref hPla, .ref hMod, .ref hHe1, .ref hHe2, .int 0, .int 0, .int 0, .int 0, .int (-1), .int 0])), (hMer, .inr (0, [.ref aT, .ref aN, .int 0])), (aT, .inl (cT, 20, .inl fT)), (aN, .inl (cN, 20, .inl (fun _ => 0)))] sz) := by
  refine Met.ofW (cc := cX8_merge) (maxL := 4) (ret := (some .int)) (by decide) rfl ?_
  intro p e s m args below meth c s₁ B hml hv
  obtain ⟨rfl, hsz, hP, hK, hD0, hN⟩ := hv
  have hx := B.exec
  have hb := B.bytes
  have hr := B.returns
  have hts := atoms_spec (ws := wsX8_merge) B.pre
  have hown : s.vm.findClass RX8 = some m.cls := findClass_of_methodNamed B.named
  have hlocks := B.notSynchronized
  subst hsz
  have hD := hD0.self (sz := s.heap.size)
  generalize hAe : va_A [(h0, .inr (8, [.ref hRows, .ref hMer, .ref hEra, .ref hTape, .ref hRea, .ref hTra, .ref hWor, .ref hPla, .ref hMod, .ref hHe1, .ref hHe2, .int 0, .int 0, .int 0, .int 0, .int (-1), .int 0])), (hMer, .inr (0, [.ref aT, .ref aN, .int 0])), (aT, .inl (cT, 20, .inl fT)), (aN, .inl (cN, 20, .inl (fun _ => 0)))] s.heap.size = A at hD ⊢
  have hA : ∀ q : Nat, s.heap.size ≤ q → A q := fun q h => by rw [← hAe]; exact Or.inr h
  have hS : va_S A s.heap s.heap [] := va_S.rf
  have hP : va_P (dC, dI) vwCl [(h0, .inr (8, [.ref hRows, .ref hMer, .ref hEra, .ref hTape, .ref hRea, .ref hTra, .ref hWor, .ref hPla, .ref hMod, .ref hHe1, .ref hHe2, .int 0, .int 0, .int 0, .int 0, .int (-1), .int 0])), (hMer, .inr (0, [.ref aT, .ref aN, .int 0])), (aT, .inl (cT, 20, .inl fT)), (aN, .inl (cN, 20, .inl (fun _ => 0)))] s.heap := hP
  have hl := lv_entry ([.ref h0, .int a, .int b, .int kn]) (n := 4) (Nat.le_of_ble_eq_true rfl)
  rw [lg_entry_eq]
  generalize (lg_sl ([.ref h0, .int a, .int b, .int kn]) ++ List.replicate (4 - (lg_sl ([.ref h0, .int a, .int b, .int kn])).length) Slot.unset).toArray = ls at hl ⊢
  have hl : lv_has ls 4 [(0, .ref h0), (1, .int a), (2, .int b), (3, .int kn)] := hl
  refine lv_aload_n hx hb dX8_merge_0 rfl (lv_at hl 0 rfl) ?_
  refine lv_aload_n hx hb dX8_merge_1 rfl (lv_at hl 0 rfl) ?_
  refine lv_iload_n hx hb dX8_merge_2 rfl (lv_at hl 1 rfl) ?_
  refine lv_iload_n hx hb dX8_merge_3 rfl (lv_at hl 2 rfl) ?_
  refine lv_iload_n hx hb dX8_merge_4 rfl (lv_at hl 3 rfl) ?_
  have hk_1 : (0 : Int32).toInt = 0 := by decide
  have hk_2 : ((-1) : Int32).toInt = (-1) := by decide
  have hPc := hP.sub (ws' := [(h0, .inr (8, [.ref hRows, .ref hMer, .ref hEra, .ref hTape, .ref hRea, .ref hTra, .ref hWor, .ref hPla, .ref hMod, .ref hHe1, .ref hHe2, .int 0, .int 0, .int 0, .int 0, .int (-1), .int 0])), (hMer, .inr (0, [.ref aT, .ref aN, .int 0])), (aT, .inl (cT, 20, .inl fT)), (aN, .inl (cN, 20, .inl (fun _ => 0)))]) [0, 1, 2, 3] rfl
  have hDc := hD.sub (ws' := [(h0, .inr (8, [.ref hRows, .ref hMer, .ref hEra, .ref hTape, .ref hRea, .ref hTra, .ref hWor, .ref hPla, .ref hMod, .ref hHe1, .ref hHe2, .int 0, .int 0, .int 0, .int 0, .int (-1), .int 0])), (hMer, .inr (0, [.ref aT, .ref aN, .int 0])), (aT, .inl (cT, 20, .inl fT)), (aN, .inl (cN, 20, .inl (fun _ => 0)))]) [0, 1, 2, 3] (by decide) rfl
  have hKc := hK.sub (tys' := [(cT, .int), (cN, .int)]) [0, 1] rfl
  have hFc := va_free (wc := [(h0, .inr (8, [.ref hRows, .ref hMer, .ref hEra, .ref hTape, .ref hRea, .ref hTra, .ref hWor, .ref hPla, .ref hMod, .ref hHe1, .ref hHe2, .int 0, .int 0, .int 0, .int 0, .int (-1), .int 0])), (hMer, .inr (0, [.ref aT, .ref aN, .int 0])), (aT, .inl (cT, 20, .inl fT)), (aN, .inl (cN, 20, .inl (fun _ => 0)))]) hD hS hA [0, 1, 2, 3] rfl
  refine va_calli (va_runV (As := [.int a, .int b, .int kn]) (rest := [.ref h0]) ⟨hx, hb, hml, hown, hts⟩ (c_X8_addMerge l dC dI s.heap.size h0 hRows hMer hEra hTape hRea hTra hWor hPla hMod hHe1 hHe2 aT aN cT cN fT a b kn hT) (cwV 3 hts gX8_merge_X8_addMerge rfl rfl rfl (by decide +kernel) ⟨Nat.le_of_ble_eq_true rfl, Nat.le_of_ble_eq_true rfl⟩) ⟨fun a U g mk q => by obtain ⟨q0, q1, qP, qK, qD, qN⟩ := q; exact ⟨q0, q1, qP, va_K.moved (u := U) (U := U.calling g mk a) (Vm.Alike.refl U.vm) qK, qD, qN.same rfl⟩, va_recv hKc hPc (ci := 8) (q0 := 0) rfl rfl, fun U hU hW => ⟨rfl, by rw [hU], by rw [hU]; exact hPc, va_K.moved hW.alike hKc, hDc.weaken (fun _ _ _ _ => trivial), hN.warm hW⟩⟩ rfl rfl hl.1 rfl (lv_room (Nat.le_of_ble_eq_true rfl)) dX8_merge_5 ⟨Nat.le_of_ble_eq_true rfl, Nat.le_of_ble_eq_true rfl⟩) hS (fun q _ h => hFc q h) hFc (fun r_3 u_4 t H1 locs ht hvm hw_5 hB hz1 hk1 hS => ?_)
  try dsimp only at hw_5
  obtain ⟨hP1, hK1, hD1⟩ := hB
  rw [ht] at hP1
  have hK1 := va_K.moved hvm.symm hK1
  obtain ⟨hP, hD⟩ := va_join (wr := []) (w1 := [(h0, .inr (8, [.ref hRows, .ref hMer, .ref hEra, .ref hTape, .ref hRea, .ref hTra, .ref hWor, .ref hPla, .ref hMod, .ref hHe1, .ref hHe2, .int 0, .int 0, .int 0, .int 0, .int (-1), .int 0]))]) hP hD [0, 1, 2, 3] [] rfl rfl (by decide) (by decide) hk1 hFc hP1 hD1
  have hK := (hK.sub (tys' := [(cT, .int), (cN, .int)]) [0, 1] rfl).app hK1
  generalize H1 = H at hP hS ⊢
  have hP : va_P (dC, dI) vwCl [(h0, .inr (8, [.ref hRows, .ref hMer, .ref hEra, .ref hTape, .ref hRea, .ref hTra, .ref hWor, .ref hPla, .ref hMod, .ref hHe1, .ref hHe2, .int 0, .int 0, .int 0, .int 0, .int (-1), .int 0]))] H := hP
  have hD : va_D A [(h0, .inr (8, [.ref hRows, .ref hMer, .ref hEra, .ref hTape, .ref hRea, .ref hTra, .ref hWor, .ref hPla, .ref hMod, .ref hHe1, .ref hHe2, .int 0, .int 0, .int 0, .int 0, .int (-1), .int 0]))] := hD
  have hK : va_K (dC, dI) vwCl [(cT, .int), (cN, .int)] s := hK
  have hk_6 : (0 : Int32).toInt = 0 := by decide
  have hk_7 : ((-1) : Int32).toInt = (-1) := by decide
  have hPc := hP.sub (ws' := [(h0, .inr (8, [.ref hRows, .ref hMer, .ref hEra, .ref hTape, .ref hRea, .ref hTra, .ref hWor, .ref hPla, .ref hMod, .ref hHe1, .ref hHe2, .int 0, .int 0, .int 0, .int 0, .int (-1), .int 0]))]) [0] rfl
  have hDc := hD.sub (ws' := [(h0, .inr (8, [.ref hRows, .ref hMer, .ref hEra, .ref hTape, .ref hRea, .ref hTra, .ref hWor, .ref hPla, .ref hMod, .ref hHe1, .ref hHe2, .int 0, .int 0, .int 0, .int 0, .int (-1), .int 0]))]) [0] (by decide) rfl
  have hKc := hK.sub (tys' := []) [] rfl
  have hFc := va_free (wc := [(h0, .inr (8, [.ref hRows, .ref hMer, .ref hEra, .ref hTape, .ref hRea, .ref hTra, .ref hWor, .ref hPla, .ref hMod, .ref hHe1, .ref hHe2, .int 0, .int 0, .int 0, .int 0, .int (-1), .int 0]))]) hD hS hA [0] rfl
  refine va_calli (va_runV (As := [.int r_3]) (rest := []) ⟨hx, hb, hml, hown, hts⟩ (c_X8_settle l dC dI H.size h0 hRows hMer hEra hTape hRea hTra hWor hPla hMod hHe1 hHe2 0 0 0 0 (-1) 0 r_3 ) (cwV 1 hts gX8_merge_X8_settle rfl rfl rfl (by decide +kernel) ⟨Nat.le_of_ble_eq_true rfl, Nat.le_of_ble_eq_true rfl⟩) ⟨fun a U g mk q => by obtain ⟨q0, q1, qP, qK, qD, qN⟩ := q; exact ⟨q0, q1, qP, va_K.moved (u := U) (U := U.calling g mk a) (Vm.Alike.refl U.vm) qK, qD, qN.same rfl⟩, va_recv hKc hPc (ci := 8) (q0 := 0) rfl rfl, fun U hU hW => ⟨rfl, by rw [hU], by rw [hU]; exact hPc, va_K.moved hW.alike hKc, hDc.weaken (fun _ _ _ _ => trivial), hN.warm hW⟩⟩ rfl rfl hl.1 rfl (lv_room (Nat.le_of_ble_eq_true rfl)) dX8_merge_8 ⟨Nat.le_of_ble_eq_true rfl, Nat.le_of_ble_eq_true rfl⟩) hS (fun q _ h => hFc q h) hFc (fun r_8 u_9 t H1 locs ht hvm hw_10 hB hz1 hk1 hS => ?_)
  obtain ⟨w_11, rfl⟩ : ∃ z, z = u_9 := ⟨_, rfl⟩
  try dsimp only at hw_10
  obtain ⟨hP1, hK1, hD1⟩ := hB
  rw [ht] at hP1
  have hK1 := va_K.moved hvm.symm hK1
  obtain ⟨hP, hD⟩ := va_join (wr := []) (w1 := [(h0, .inr (8, [.ref hRows, .ref hMer, .ref hEra, .ref hTape, .ref hRea, .ref hTra, .ref hWor, .ref hPla, .ref hMod, .ref hHe1, .ref hHe2, .int 0, .int 0, .int 0, .int 0, .int (-1), .int w_11]))]) hP hD [0] [] rfl rfl (by decide) (by decide) hk1 hFc hP1 hD1
  have hK := (hK.sub (tys' := [(cT, .int), (cN, .int)]) [0, 1] rfl).app hK1
  generalize H1 = H at hP hS ⊢
  have hP : va_P (dC, dI) vwCl [(h0, .inr (8, [.ref hRows, .ref hMer, .ref hEra, .ref hTape, .ref hRea, .ref hTra, .ref hWor, .ref hPla, .ref hMod, .ref hHe1, .ref hHe2, .int 0, .int 0, .int 0, .int 0, .int (-1), .int w_11]))] H := hP
  have hD : va_D A [(h0, .inr (8, [.ref hRows, .ref hMer, .ref hEra, .ref hTape, .ref hRea, .ref hTra, .ref hWor, .ref hPla, .ref hMod, .ref hHe1, .ref hHe2, .int 0, .int 0, .int 0, .int 0, .int (-1), .int w_11]))] := hD
  have hK : va_K (dC, dI) vwCl [(cT, .int), (cN, .int)] s := hK
  obtain rfl : r_3 = r_8 := hw_10.symm
  have hans : (r_3 : Int32).toInt = r_3.toInt := rfl
  exact W.iret (v := r_3) hx hb hr (fun t ht hW => ⟨⟨r_3, (), rfl, by first | omega | (dsimp only; omega), trivial⟩, hS.F ht⟩) hS.2.2 dX8_merge_11

set_option maxHeartbeats 4000000 in
set_option maxRecDepth 100000 in
theorem c_X8_leads (l : Launch) (dC : Nat → ClassId) (dI : Nat → Nat → Nat) (sz : Nat) (h0 : Nat) (hRows : Nat) (hMer : Nat) (hEra : Nat) (hTape : Nat) (hRea : Nat) (hTra : Nat) (hWor : Nat) (hPla : Nat) (hMod : Nat) (hHe1 : Nat) (hHe2 : Nat) (aT : Nat) (aN : Nat) (cT : ClassId) (cN : ClassId) (fT : Nat → Int32) (a : Int32) (kn : Int32) (hT : ∀ k : Nat, k < 20 → fT k = (-1)) : Met l yX8_leads wsX8_leads ({ frames := 2, cells := 0, slots := 0, locals := 45 }) (va_Pc [.ref h0, .int a, .int kn] (fun U => U.heap.size = sz ∧ va_P (dC, dI) vwCl [(h0, .inr (8, [.ref hRows, .ref hMer, .ref hEra, .ref hTape, .ref hRea, .ref hTra, .ref hWor, .ref hPla, .ref hMod, .ref hHe1, .ref hHe2, .int 0, .int 0, .int 0, .int 0, .int (-1), .int 0])), (hMer, .inr (0, [.ref aT, .ref aN, .int 0])), (aT, .inl (cT, 20, .inl fT)), (aN, .inl (cN, 20, .inl (fun _ => 0)))] U.heap ∧ va_K (dC, dI) vwCl [(cT, .int), (cN, .int)] U ∧ va_D (fun _ => True) [(h0, .inr (8, [.ref hRows, .ref hMer, .ref hEra, .ref hTape, .ref hRea, .ref hTra, .ref hWor, .ref hPla, .ref hMod, .ref hHe1, .ref hHe2, .int 0, .int 0, .int 0, .int 0, .int (-1), .int 0])), (hMer, .inr (0, [.ref aT, .ref aN, .int 0])), (aT, .inl (cT, 20, .inl fT)), (aN, .inl (cN, 20, .inl (fun _ => 0)))] ∧ nw_ok U)) (va_Qi (fun (r : Int32) (_ : Unit) => (0 ≤ a.toInt ∧ a.toInt ≤ 19 ∧ 0 ≤ kn.toInt ∧ kn.toInt ≤ 100000 → r.toInt = a.toInt) ∧ (¬ (0 ≤ a.toInt ∧ a.toInt ≤ 19 ∧ 0 ≤ kn.toInt ∧ kn.toInt ≤ 100000) → r.toInt = (-1))) (fun (_ : Unit) (t : State) => True) (va_A [(h0, .inr (8, [.ref hRows, .ref hMer, .ref hEra, .ref hTape, .ref hRea, .ref hTra, .ref hWor, .ref hPla, .ref hMod, .ref hHe1, .ref hHe2, .int 0, .int 0, .int 0, .int 0, .int (-1), .int 0])), (hMer, .inr (0, [.ref aT, .ref aN, .int 0])), (aT, .inl (cT, 20, .inl fT)), (aN, .inl (cN, 20, .inl (fun _ => 0)))] sz)) 0 0 (va_A [(h0, .inr (8, [.ref hRows, .ref hMer, .ref hEra, .ref hTape, .ref hRea, .ref hTra, .ref hWor, .ref hPla, .ref hMod, .ref hHe1, .ref hHe2, .int 0, .int 0, .int 0, .int 0, .int (-1), .int 0])), (hMer, .inr (0, [.ref aT, .ref aN, .int 0])), (aT, .inl (cT, 20, .inl fT)), (aN, .inl (cN, 20, .inl (fun _ => 0)))] sz) := by
  refine Met.ofW (cc := cX8_leads) (maxL := 3) (ret := (some .int)) (by decide) rfl ?_
  intro p e s m args below meth c s₁ B hml hv
  obtain ⟨rfl, hsz, hP, hK, hD0, hN⟩ := hv
  have hx := B.exec
  have hb := B.bytes
  have hr := B.returns
  have hts := atoms_spec (ws := wsX8_leads) B.pre
  have hown : s.vm.findClass RX8 = some m.cls := findClass_of_methodNamed B.named
  have hlocks := B.notSynchronized
  subst hsz
  have hD := hD0.self (sz := s.heap.size)
  generalize hAe : va_A [(h0, .inr (8, [.ref hRows, .ref hMer, .ref hEra, .ref hTape, .ref hRea, .ref hTra, .ref hWor, .ref hPla, .ref hMod, .ref hHe1, .ref hHe2, .int 0, .int 0, .int 0, .int 0, .int (-1), .int 0])), (hMer, .inr (0, [.ref aT, .ref aN, .int 0])), (aT, .inl (cT, 20, .inl fT)), (aN, .inl (cN, 20, .inl (fun _ => 0)))] s.heap.size = A at hD ⊢
  have hA : ∀ q : Nat, s.heap.size ≤ q → A q := fun q h => by rw [← hAe]; exact Or.inr h
  have hS : va_S A s.heap s.heap [] := va_S.rf
  have hP : va_P (dC, dI) vwCl [(h0, .inr (8, [.ref hRows, .ref hMer, .ref hEra, .ref hTape, .ref hRea, .ref hTra, .ref hWor, .ref hPla, .ref hMod, .ref hHe1, .ref hHe2, .int 0, .int 0, .int 0, .int 0, .int (-1), .int 0])), (hMer, .inr (0, [.ref aT, .ref aN, .int 0])), (aT, .inl (cT, 20, .inl fT)), (aN, .inl (cN, 20, .inl (fun _ => 0)))] s.heap := hP
  have hIX8 : ∀ w ∈ u_ws RX8 TX8 17, w ∈ wsX8_leads := by decide +kernel
  have hl := lv_entry ([.ref h0, .int a, .int kn]) (n := 3) (Nat.le_of_ble_eq_true rfl)
  rw [lg_entry_eq]
  generalize (lg_sl ([.ref h0, .int a, .int kn]) ++ List.replicate (3 - (lg_sl ([.ref h0, .int a, .int kn])).length) Slot.unset).toArray = ls at hl ⊢
  have hl : lv_has ls 3 [(0, .ref h0), (1, .int a), (2, .int kn)] := hl
  refine lv_iload_n hx hb dX8_leads_0 rfl (lv_at hl 1 rfl) ?_
  have hPc := hP.sub (ws' := []) [] rfl
  have hDc := hD.sub (ws' := []) [] (by decide) rfl
  have hKc := hK.sub (tys' := []) [] rfl
  have hFc := va_free (wc := []) hD hS hA [] rfl
  refine va_calli (va_runS (As := [.int a]) (rest := []) ⟨hx, hb, hml, hown, hts⟩ (c_X8_isPerson l dC dI s.heap.size a ) (va_cwS 1 hts gX8_leads_X8_isPerson rfl rfl rfl (by decide +kernel) ⟨Nat.le_of_ble_eq_true rfl, Nat.le_of_ble_eq_true rfl⟩) ⟨fun a U g mk q => by obtain ⟨q0, q1, qP, qK, qD, qN⟩ := q; exact ⟨q0, q1, qP, va_K.moved (u := U) (U := U.calling g mk a) (Vm.Alike.refl U.vm) qK, qD, qN.same rfl⟩, fun U hU hW => ⟨rfl, by rw [hU], by rw [hU]; exact hPc, va_K.moved hW.alike hKc, hDc.weaken (fun _ _ _ _ => trivial), hN.warm hW⟩⟩ rfl rfl hl.1 rfl (lv_room (Nat.le_of_ble_eq_true rfl)) dX8_leads_1 ⟨Nat.le_of_ble_eq_true rfl, Nat.le_of_ble_eq_true rfl⟩) hS (fun q _ h => hFc q h) hFc (fun r_1 u_2 t H1 locs ht hvm hw_3 hB hz1 hk1 hS => ?_)
  try dsimp only at hw_3
  obtain ⟨hP1, hK1, hD1⟩ := hB
  rw [ht] at hP1
  have hK1 := va_K.moved hvm.symm hK1
  obtain ⟨hP, hD⟩ := va_join (wr := [(h0, .inr (8, [.ref hRows, .ref hMer, .ref hEra, .ref hTape, .ref hRea, .ref hTra, .ref hWor, .ref hPla, .ref hMod, .ref hHe1, .ref hHe2, .int 0, .int 0, .int 0, .int 0, .int (-1), .int 0])), (hMer, .inr (0, [.ref aT, .ref aN, .int 0])), (aT, .inl (cT, 20, .inl fT)), (aN, .inl (cN, 20, .inl (fun _ => 0)))]) (w1 := []) hP hD [] [0, 1, 2, 3] rfl rfl (by decide) (by decide) hk1 hFc hP1 hD1
  have hK := (hK.sub (tys' := [(cT, .int), (cN, .int)]) [0, 1] rfl).app hK1
  generalize H1 = H at hP hS ⊢
  have hP : va_P (dC, dI) vwCl [(h0, .inr (8, [.ref hRows, .ref hMer, .ref hEra, .ref hTape, .ref hRea, .ref hTra, .ref hWor, .ref hPla, .ref hMod, .ref hHe1, .ref hHe2, .int 0, .int 0, .int 0, .int 0, .int (-1), .int 0])), (hMer, .inr (0, [.ref aT, .ref aN, .int 0])), (aT, .inl (cT, 20, .inl fT)), (aN, .inl (cN, 20, .inl (fun _ => 0)))] H := hP
  have hD : va_D A [(h0, .inr (8, [.ref hRows, .ref hMer, .ref hEra, .ref hTape, .ref hRea, .ref hTra, .ref hWor, .ref hPla, .ref hMod, .ref hHe1, .ref hHe2, .int 0, .int 0, .int 0, .int 0, .int (-1), .int 0])), (hMer, .inr (0, [.ref aT, .ref aN, .int 0])), (aT, .inl (cT, 20, .inl fT)), (aN, .inl (cN, 20, .inl (fun _ => 0)))] := hD
  have hK : va_K (dC, dI) vwCl [(cT, .int), (cN, .int)] s := hK
  refine lv_if_eq (tgt := 14) hx hb dX8_leads_4 (by decide) (fun c_4 => ?_) (fun c_4 => ?_)
  · have dc_4 : r_1.toInt = 0 := jI_eq c_4 rfl (by decide)
    refine lv_iconst (v := (-1)) hx hb dX8_leads_14 (by decide) ?_
    have hans : ((-1) : Int32).toInt = (-1) := (by decide)
    exact W.iret (v := (-1)) hx hb hr (fun t ht hW => ⟨⟨(-1), (), rfl, by first | omega | (dsimp only; omega), trivial⟩, hS.F ht⟩) hS.2.2 dX8_leads_15
  · have dc_4 : ¬ r_1.toInt = 0 := jI_ne c_4 rfl (by decide)
    refine lv_iload_n hx hb dX8_leads_7 rfl (lv_at hl 2 rfl) ?_
    have hPc := hP.sub (ws' := []) [] rfl
    have hDc := hD.sub (ws' := []) [] (by decide) rfl
    have hKc := hK.sub (tys' := []) [] rfl
    have hFc := va_free (wc := []) hD hS hA [] rfl
    refine va_calli (va_runS (As := [.int kn]) (rest := []) ⟨hx, hb, hml, hown, hts⟩ (c_X8_isMoment l dC dI H.size kn ) (va_cwS 1 hts gX8_leads_X8_isMoment rfl rfl rfl (by decide +kernel) ⟨Nat.le_of_ble_eq_true rfl, Nat.le_of_ble_eq_true rfl⟩) ⟨fun a U g mk q => by obtain ⟨q0, q1, qP, qK, qD, qN⟩ := q; exact ⟨q0, q1, qP, va_K.moved (u := U) (U := U.calling g mk a) (Vm.Alike.refl U.vm) qK, qD, qN.same rfl⟩, fun U hU hW => ⟨rfl, by rw [hU], by rw [hU]; exact hPc, va_K.moved hW.alike hKc, hDc.weaken (fun _ _ _ _ => trivial), hN.warm hW⟩⟩ rfl rfl hl.1 rfl (lv_room (Nat.le_of_ble_eq_true rfl)) dX8_leads_8 ⟨Nat.le_of_ble_eq_true rfl, Nat.le_of_ble_eq_true rfl⟩) hS (fun q _ h => hFc q h) hFc (fun r_5 u_6 t H1 locs ht hvm hw_7 hB hz1 hk1 hS => ?_)
    try dsimp only at hw_7
    obtain ⟨hP1, hK1, hD1⟩ := hB
    rw [ht] at hP1
    have hK1 := va_K.moved hvm.symm hK1
    obtain ⟨hP, hD⟩ := va_join (wr := [(h0, .inr (8, [.ref hRows, .ref hMer, .ref hEra, .ref hTape, .ref hRea, .ref hTra, .ref hWor, .ref hPla, .ref hMod, .ref hHe1, .ref hHe2, .int 0, .int 0, .int 0, .int 0, .int (-1), .int 0])), (hMer, .inr (0, [.ref aT, .ref aN, .int 0])), (aT, .inl (cT, 20, .inl fT)), (aN, .inl (cN, 20, .inl (fun _ => 0)))]) (w1 := []) hP hD [] [0, 1, 2, 3] rfl rfl (by decide) (by decide) hk1 hFc hP1 hD1
    have hK := (hK.sub (tys' := [(cT, .int), (cN, .int)]) [0, 1] rfl).app hK1
    generalize H1 = H at hP hS ⊢
    have hP : va_P (dC, dI) vwCl [(h0, .inr (8, [.ref hRows, .ref hMer, .ref hEra, .ref hTape, .ref hRea, .ref hTra, .ref hWor, .ref hPla, .ref hMod, .ref hHe1, .ref hHe2, .int 0, .int 0, .int 0, .int 0, .int (-1), .int 0])), (hMer, .inr (0, [.ref aT, .ref aN, .int 0])), (aT, .inl (cT, 20, .inl fT)), (aN, .inl (cN, 20, .inl (fun _ => 0)))] H := hP
    have hD : va_D A [(h0, .inr (8, [.ref hRows, .ref hMer, .ref hEra, .ref hTape, .ref hRea, .ref hTra, .ref hWor, .ref hPla, .ref hMod, .ref hHe1, .ref hHe2, .int 0, .int 0, .int 0, .int 0, .int (-1), .int 0])), (hMer, .inr (0, [.ref aT, .ref aN, .int 0])), (aT, .inl (cT, 20, .inl fT)), (aN, .inl (cN, 20, .inl (fun _ => 0)))] := hD
    have hK : va_K (dC, dI) vwCl [(cT, .int), (cN, .int)] s := hK
    refine lv_if_ne (tgt := 16) hx hb dX8_leads_11 (by decide) (fun c_8 => ?_) (fun c_8 => ?_)
    · have dc_8 : ¬ r_5.toInt = 0 := jI_ne c_8 rfl (by decide)
      refine lv_aload_n hx hb dX8_leads_16 rfl (lv_at hl 0 rfl) ?_
      refine va_get (D := (dC, dI)) (ci := 8) (v := .ref hMer) (C := RX8) (T := TX8) (N := 17) hx hb hts hIX8 hown hK hP 0 rfl rfl 1 (by decide) (hts (.fieldLink RX8 19 "TraitHouse" "merges" "LTraitHouse$Merges;") (by decide +kernel)) (fun _ h9 => h9) rfl dX8_leads_17 ?_
      refine lv_iload_n hx hb dX8_leads_20 rfl (lv_at hl 1 rfl) ?_
      refine lv_iload_n hx hb dX8_leads_21 rfl (lv_at hl 2 rfl) ?_
      have hk_9 : (0 : Int32).toInt = 0 := by decide
      have hPc := hP.sub (ws' := [(hMer, .inr (0, [.ref aT, .ref aN, .int 0])), (aT, .inl (cT, 20, .inl fT)), (aN, .inl (cN, 20, .inl (fun _ => 0)))]) [1, 2, 3] rfl
      have hDc := hD.sub (ws' := [(hMer, .inr (0, [.ref aT, .ref aN, .int 0])), (aT, .inl (cT, 20, .inl fT)), (aN, .inl (cN, 20, .inl (fun _ => 0)))]) [1, 2, 3] (by decide) rfl
      have hKc := hK.sub (tys' := [(cT, .int), (cN, .int)]) [0, 1] rfl
      have hFc := va_free (wc := [(hMer, .inr (0, [.ref aT, .ref aN, .int 0])), (aT, .inl (cT, 20, .inl fT)), (aN, .inl (cN, 20, .inl (fun _ => 0)))]) hD hS hA [1, 2, 3] rfl
      refine va_calli (va_runVN (As := [.int a, .int kn]) (rest := []) ⟨hx, hb, hml, hown, hts⟩ (c_X0_lastOf l dC dI H.size hMer aT aN cT cN fT a kn hT (by omega) (by omega)) ⟨(va_cnB 2 hts gX8_leads_X0_lastOf_n118 rfl rfl rfl (nw_at hN 39 rfl) (hts (.initialized RX0) (by decide +kernel)) (by decide +kernel) ⟨Nat.le_of_ble_eq_true rfl, Nat.le_of_ble_eq_true rfl⟩), (hts (.instanceMethod yX0_lastOf) (by decide +kernel)), (hts (.selects RX0 yX0_lastOf yX0_lastOf) (by decide +kernel))⟩ ⟨fun a U g mk q => by obtain ⟨q0, q1, qP, qK, qD, qN⟩ := q; exact ⟨q0, q1, qP, va_K.moved (u := U) (U := U.calling g mk a) (Vm.Alike.refl U.vm) qK, qD, qN.same rfl⟩, va_recv hKc hPc (ci := 0) (q0 := 0) rfl rfl, fun U hU hW => ⟨rfl, by rw [hU], by rw [hU]; exact hPc, va_K.moved hW.alike hKc, hDc.weaken (fun _ _ _ _ => trivial), hN.warm hW⟩⟩ rfl rfl hl.1 rfl (lv_room (Nat.le_of_ble_eq_true rfl)) dX8_leads_22 ⟨Nat.le_of_ble_eq_true rfl, Nat.le_of_ble_eq_true rfl⟩) hS (fun q _ h => hFc q h) hFc (fun r_10 u_11 t H1 locs ht hvm hw_12 hB hz1 hk1 hS => ?_)
      try dsimp only at hw_12
      obtain ⟨hP1, hK1, hD1⟩ := hB
      rw [ht] at hP1
      have hK1 := va_K.moved hvm.symm hK1
      obtain ⟨hP, hD⟩ := va_join (wr := [(h0, .inr (8, [.ref hRows, .ref hMer, .ref hEra, .ref hTape, .ref hRea, .ref hTra, .ref hWor, .ref hPla, .ref hMod, .ref hHe1, .ref hHe2, .int 0, .int 0, .int 0, .int 0, .int (-1), .int 0]))]) (w1 := [(hMer, .inr (0, [.ref aT, .ref aN, .int 0])), (aT, .inl (cT, 20, .inl fT)), (aN, .inl (cN, 20, .inl (fun _ => 0)))]) hP hD [1, 2, 3] [0] rfl rfl (by decide) (by decide) hk1 hFc hP1 hD1
      have hK := (hK.sub (tys' := [(cT, .int), (cN, .int)]) [0, 1] rfl).app hK1
      generalize H1 = H at hP hS ⊢
      have hP : va_P (dC, dI) vwCl [(h0, .inr (8, [.ref hRows, .ref hMer, .ref hEra, .ref hTape, .ref hRea, .ref hTra, .ref hWor, .ref hPla, .ref hMod, .ref hHe1, .ref hHe2, .int 0, .int 0, .int 0, .int 0, .int (-1), .int 0])), (hMer, .inr (0, [.ref aT, .ref aN, .int 0])), (aT, .inl (cT, 20, .inl fT)), (aN, .inl (cN, 20, .inl (fun _ => 0)))] H := hP
      have hD : va_D A [(h0, .inr (8, [.ref hRows, .ref hMer, .ref hEra, .ref hTape, .ref hRea, .ref hTra, .ref hWor, .ref hPla, .ref hMod, .ref hHe1, .ref hHe2, .int 0, .int 0, .int 0, .int 0, .int (-1), .int 0])), (hMer, .inr (0, [.ref aT, .ref aN, .int 0])), (aT, .inl (cT, 20, .inl fT)), (aN, .inl (cN, 20, .inl (fun _ => 0)))] := hD
      have hK : va_K (dC, dI) vwCl [(cT, .int), (cN, .int), (cT, .int), (cN, .int)] s := hK
      obtain rfl : a = r_10 := hw_12.symm
      have hans : (a : Int32).toInt = a.toInt := rfl
      exact W.iret (v := a) hx hb hr (fun t ht hW => ⟨⟨a, (), rfl, by first | omega | (dsimp only; omega), trivial⟩, hS.F ht⟩) hS.2.2 dX8_leads_25
    · have dc_8 : r_5.toInt = 0 := jI_eq c_8 rfl (by decide)
      refine lv_iconst (v := (-1)) hx hb dX8_leads_14 (by decide) ?_
      have hans : ((-1) : Int32).toInt = (-1) := (by decide)
      exact W.iret (v := (-1)) hx hb hr (fun t ht hW => ⟨⟨(-1), (), rfl, by first | omega | (dsimp only; omega), trivial⟩, hS.F ht⟩) hS.2.2 dX8_leads_15
end
section
theorem dX8_fault_0 : decode cX8_fault 0 = .ok (.aload_n 0, 1) := by decide +kernel
theorem dX8_fault_1 : decode cX8_fault 1 = .ok (.getfield 75, 3) := by decide +kernel
theorem dX8_fault_4 : decode cX8_fault 4 = .ok (.ireturn, 1) := by decide +kernel
theorem dX8_value_0 : decode cX8_value 0 = .ok (.aload_n 0, 1) := by decide +kernel
theorem dX8_value_1 : decode cX8_value 1 = .ok (.iload_n 1, 1) := by decide +kernel
set_option maxRecDepth 20000 in
theorem ggX8_value_X8_traitAt : GoodIn wsX8_value wsX8_traitAt := goodIn_r _ [7, 8, 9, 95, 96, 97, 98, 99, 100, 101, 102, 103, 104, 105, 106, 107, 108, 109, 110, 111] (by decide +kernel) (by decide +kernel)
set_option maxRecDepth 20000 in
theorem gX8_value_X8_traitAt : GoodIn wsX8_value (wsV RX8 130 RX8 yX8_traitAt wsX8_traitAt) := goodIn_app (goodIn_of _ (by decide +kernel)) ggX8_value_X8_traitAt
theorem dX8_value_2 : decode cX8_value 2 = .ok (.invokevirtual 130, 3) := by decide +kernel
theorem dX8_value_5 : decode cX8_value 5 = .ok (.ifnull 25, 3) := by decide +kernel
theorem dX8_value_30 : decode cX8_value 30 = .ok (.ldc2_w 175, 3) := by decide +kernel
theorem dX8_value_33 : decode cX8_value 33 = .ok (.lreturn, 1) := by decide +kernel
theorem dX8_law_0 : decode cX8_law 0 = .ok (.lload_n 2, 1) := by decide +kernel
theorem dX8_law_1 : decode cX8_law 1 = .ok (.lload 4, 2) := by decide +kernel
theorem dX8_law_3 : decode cX8_law 3 = .ok (.lcmp, 1) := by decide +kernel
theorem dX8_law_4 : decode cX8_law 4 = .ok (.ifCond .le 9, 3) := by decide +kernel
theorem dX8_law_13 : decode cX8_law 13 = .ok (.aload_n 0, 1) := by decide +kernel
theorem dX8_law_14 : decode cX8_law 14 = .ok (.iload_n 1, 1) := by decide +kernel
set_option maxRecDepth 20000 in
theorem ggX8_law_X8_traitAt : GoodIn wsX8_law wsX8_traitAt := goodIn_r _ [14, 15, 16, 25, 26, 27, 28, 29, 30, 31, 32, 33, 34, 35, 36, 37, 38, 39, 40, 41] (by decide +kernel) (by decide +kernel)
set_option maxRecDepth 20000 in
theorem gX8_law_X8_traitAt : GoodIn wsX8_law (wsV RX8 130 RX8 yX8_traitAt wsX8_traitAt) := goodIn_app (goodIn_of _ (by decide +kernel)) ggX8_law_X8_traitAt
theorem dX8_law_15 : decode cX8_law 15 = .ok (.invokevirtual 130, 3) := by decide +kernel
theorem dX8_law_18 : decode cX8_law 18 = .ok (.astore 6, 2) := by decide +kernel
theorem dX8_law_20 : decode cX8_law 20 = .ok (.aload 6, 2) := by decide +kernel
theorem dX8_law_22 : decode cX8_law 22 = .ok (.ifnonnull 10, 3) := by decide +kernel
theorem dX8_law_25 : decode cX8_law 25 = .ok (.aload_n 0, 1) := by decide +kernel
theorem dX8_law_26 : decode cX8_law 26 = .ok (.bipush (-2), 2) := by decide +kernel
set_option maxRecDepth 20000 in
theorem ggX8_law_X8_settle : GoodIn wsX8_law wsX8_settle := goodIn_r _ [5, 6, 7, 8, 9, 10, 25, 26, 27, 28, 29, 30, 31, 32, 33, 34, 35, 36, 37, 38, 39, 40, 41] (by decide +kernel) (by decide +kernel)
set_option maxRecDepth 20000 in
theorem gX8_law_X8_settle : GoodIn wsX8_law (wsV RX8 86 RX8 yX8_settle wsX8_settle) := goodIn_app (goodIn_of _ (by decide +kernel)) ggX8_law_X8_settle
theorem dX8_law_28 : decode cX8_law 28 = .ok (.invokevirtual 86, 3) := by decide +kernel
theorem dX8_law_31 : decode cX8_law 31 = .ok (.ireturn, 1) := by decide +kernel
theorem dX8_law_7 : decode cX8_law 7 = .ok (.aload_n 0, 1) := by decide +kernel
theorem dX8_law_8 : decode cX8_law 8 = .ok (.iconst (-1), 1) := by decide +kernel
theorem dX8_law_9 : decode cX8_law 9 = .ok (.invokevirtual 86, 3) := by decide +kernel
theorem dX8_law_12 : decode cX8_law 12 = .ok (.ireturn, 1) := by decide +kernel
theorem dX8_limit_0 : decode cX8_limit 0 = .ok (.iload_n 2, 1) := by decide +kernel
set_option maxRecDepth 20000 in
theorem ggX8_limit_X8_isMoment : GoodIn wsX8_limit wsX8_isMoment := goodIn_r _ [4, 5] (by decide +kernel) (by decide +kernel)
set_option maxRecDepth 20000 in
theorem gX8_limit_X8_isMoment : GoodIn wsX8_limit (va_wsS RX8 79 yX8_isMoment wsX8_isMoment) := goodIn_app (goodIn_of _ (by decide +kernel)) ggX8_limit_X8_isMoment
theorem dX8_limit_1 : decode cX8_limit 1 = .ok (.invokestatic 79, 3) := by decide +kernel
theorem dX8_limit_4 : decode cX8_limit 4 = .ok (.ifCond .ne 9, 3) := by decide +kernel
theorem dX8_limit_13 : decode cX8_limit 13 = .ok (.aload_n 0, 1) := by decide +kernel
theorem dX8_limit_14 : decode cX8_limit 14 = .ok (.iload_n 1, 1) := by decide +kernel
set_option maxRecDepth 20000 in
theorem ggX8_limit_X8_traitAt : GoodIn wsX8_limit wsX8_traitAt := goodIn_r _ [18, 19, 20, 29, 30, 31, 32, 33, 34, 35, 36, 37, 38, 39, 40, 41, 42, 43, 44, 45] (by decide +kernel) (by decide +kernel)
set_option maxRecDepth 20000 in
theorem gX8_limit_X8_traitAt : GoodIn wsX8_limit (wsV RX8 130 RX8 yX8_traitAt wsX8_traitAt) := goodIn_app (goodIn_of _ (by decide +kernel)) ggX8_limit_X8_traitAt
theorem dX8_limit_15 : decode cX8_limit 15 = .ok (.invokevirtual 130, 3) := by decide +kernel
theorem dX8_limit_18 : decode cX8_limit 18 = .ok (.astore_n 3, 1) := by decide +kernel
theorem dX8_limit_19 : decode cX8_limit 19 = .ok (.aload_n 3, 1) := by decide +kernel
theorem dX8_limit_20 : decode cX8_limit 20 = .ok (.ifnonnull 10, 3) := by decide +kernel
theorem dX8_limit_23 : decode cX8_limit 23 = .ok (.aload_n 0, 1) := by decide +kernel
theorem dX8_limit_24 : decode cX8_limit 24 = .ok (.bipush (-2), 2) := by decide +kernel
set_option maxRecDepth 20000 in
theorem ggX8_limit_X8_settle : GoodIn wsX8_limit wsX8_settle := goodIn_r _ [9, 10, 11, 12, 13, 14, 29, 30, 31, 32, 33, 34, 35, 36, 37, 38, 39, 40, 41, 42, 43, 44, 45] (by decide +kernel) (by decide +kernel)
set_option maxRecDepth 20000 in
theorem gX8_limit_X8_settle : GoodIn wsX8_limit (wsV RX8 86 RX8 yX8_settle wsX8_settle) := goodIn_app (goodIn_of _ (by decide +kernel)) ggX8_limit_X8_settle
theorem dX8_limit_26 : decode cX8_limit 26 = .ok (.invokevirtual 86, 3) := by decide +kernel
theorem dX8_limit_29 : decode cX8_limit 29 = .ok (.ireturn, 1) := by decide +kernel
theorem dX8_limit_7 : decode cX8_limit 7 = .ok (.aload_n 0, 1) := by decide +kernel
theorem dX8_limit_8 : decode cX8_limit 8 = .ok (.iconst (-1), 1) := by decide +kernel
theorem dX8_limit_9 : decode cX8_limit 9 = .ok (.invokevirtual 86, 3) := by decide +kernel
theorem dX8_limit_12 : decode cX8_limit 12 = .ok (.ireturn, 1) := by decide +kernel
theorem dX8_freshen_0 : decode cX8_freshen 0 = .ok (.aload_n 0, 1) := by decide +kernel
theorem dX8_freshen_1 : decode cX8_freshen 1 = .ok (.iload_n 1, 1) := by decide +kernel
set_option maxRecDepth 20000 in
theorem ggX8_freshen_X8_traitAt : GoodIn wsX8_freshen wsX8_traitAt := goodIn_r _ [6, 7, 8, 134, 135, 136, 137, 138, 139, 140, 141, 142, 143, 144, 145, 146, 147, 148, 149, 150] (by decide +kernel) (by decide +kernel)
set_option maxRecDepth 20000 in
theorem gX8_freshen_X8_traitAt : GoodIn wsX8_freshen (wsV RX8 130 RX8 yX8_traitAt wsX8_traitAt) := goodIn_app (goodIn_of _ (by decide +kernel)) ggX8_freshen_X8_traitAt
theorem dX8_freshen_2 : decode cX8_freshen 2 = .ok (.invokevirtual 130, 3) := by decide +kernel
theorem dX8_freshen_5 : decode cX8_freshen 5 = .ok (.astore_n 2, 1) := by decide +kernel
theorem dX8_freshen_6 : decode cX8_freshen 6 = .ok (.aload_n 2, 1) := by decide +kernel
theorem dX8_freshen_7 : decode cX8_freshen 7 = .ok (.ifnonnull 10, 3) := by decide +kernel
theorem dX8_freshen_10 : decode cX8_freshen 10 = .ok (.aload_n 0, 1) := by decide +kernel
theorem dX8_freshen_11 : decode cX8_freshen 11 = .ok (.bipush (-2), 2) := by decide +kernel
set_option maxRecDepth 20000 in
theorem ggX8_freshen_X8_settle : GoodIn wsX8_freshen wsX8_settle := goodIn_r _ [12, 13, 14, 15, 16, 17, 134, 135, 136, 137, 138, 139, 140, 141, 142, 143, 144, 145, 146, 147, 148, 149, 150] (by decide +kernel) (by decide +kernel)
set_option maxRecDepth 20000 in
theorem gX8_freshen_X8_settle : GoodIn wsX8_freshen (wsV RX8 86 RX8 yX8_settle wsX8_settle) := goodIn_app (goodIn_of _ (by decide +kernel)) ggX8_freshen_X8_settle
theorem dX8_freshen_13 : decode cX8_freshen 13 = .ok (.invokevirtual 86, 3) := by decide +kernel
theorem dX8_freshen_16 : decode cX8_freshen 16 = .ok (.ireturn, 1) := by decide +kernel
theorem dX8_kept_0 : decode cX8_kept 0 = .ok (.aload_n 0, 1) := by decide +kernel
theorem dX8_kept_1 : decode cX8_kept 1 = .ok (.iload_n 1, 1) := by decide +kernel
set_option maxRecDepth 20000 in
theorem ggX8_kept_X8_traitAt : GoodIn wsX8_kept wsX8_traitAt := goodIn_r _ [6, 7, 8, 20, 21, 22, 23, 24, 25, 26, 27, 28, 29, 30, 31, 32, 33, 34, 35, 36] (by decide +kernel) (by decide +kernel)
set_option maxRecDepth 20000 in
theorem gX8_kept_X8_traitAt : GoodIn wsX8_kept (wsV RX8 130 RX8 yX8_traitAt wsX8_traitAt) := goodIn_app (goodIn_of _ (by decide +kernel)) ggX8_kept_X8_traitAt
theorem dX8_kept_2 : decode cX8_kept 2 = .ok (.invokevirtual 130, 3) := by decide +kernel
theorem dX8_kept_5 : decode cX8_kept 5 = .ok (.astore_n 3, 1) := by decide +kernel
theorem dX8_kept_6 : decode cX8_kept 6 = .ok (.aload_n 3, 1) := by decide +kernel
theorem dX8_kept_7 : decode cX8_kept 7 = .ok (.ifnull 10, 3) := by decide +kernel
theorem dX8_kept_17 : decode cX8_kept 17 = .ok (.ldc2_w 175, 3) := by decide +kernel
theorem dX8_kept_20 : decode cX8_kept 20 = .ok (.lreturn, 1) := by decide +kernel
theorem dX8_age_0 : decode cX8_age 0 = .ok (.aload_n 0, 1) := by decide +kernel
theorem dX8_age_1 : decode cX8_age 1 = .ok (.iload_n 1, 1) := by decide +kernel
set_option maxRecDepth 20000 in
theorem ggX8_age_X8_traitAt : GoodIn wsX8_age wsX8_traitAt := goodIn_r _ [6, 7, 8, 29, 30, 31, 32, 33, 34, 35, 36, 37, 38, 39, 40, 41, 42, 43, 44, 45] (by decide +kernel) (by decide +kernel)
set_option maxRecDepth 20000 in
theorem gX8_age_X8_traitAt : GoodIn wsX8_age (wsV RX8 130 RX8 yX8_traitAt wsX8_traitAt) := goodIn_app (goodIn_of _ (by decide +kernel)) ggX8_age_X8_traitAt
theorem dX8_age_2 : decode cX8_age 2 = .ok (.invokevirtual 130, 3) := by decide +kernel
theorem dX8_age_5 : decode cX8_age 5 = .ok (.astore 4, 2) := by decide +kernel
theorem dX8_age_7 : decode cX8_age 7 = .ok (.aload 4, 2) := by decide +kernel
theorem dX8_age_9 : decode cX8_age 9 = .ok (.ifnull 19, 3) := by decide +kernel
theorem dX8_age_28 : decode cX8_age 28 = .ok (.iconst (-1), 1) := by decide +kernel
theorem dX8_age_29 : decode cX8_age 29 = .ok (.ireturn, 1) := by decide +kernel
theorem dX8_held_0 : decode cX8_held 0 = .ok (.aload_n 0, 1) := by decide +kernel
theorem dX8_held_1 : decode cX8_held 1 = .ok (.iload_n 1, 1) := by decide +kernel
set_option maxRecDepth 20000 in
theorem ggX8_held_X8_traitAt : GoodIn wsX8_held wsX8_traitAt := goodIn_r _ [5, 6, 7, 16, 17, 18, 19, 20, 21, 22, 23, 24, 25, 26, 27, 28, 29, 30, 31, 32] (by decide +kernel) (by decide +kernel)
set_option maxRecDepth 20000 in
theorem gX8_held_X8_traitAt : GoodIn wsX8_held (wsV RX8 130 RX8 yX8_traitAt wsX8_traitAt) := goodIn_app (goodIn_of _ (by decide +kernel)) ggX8_held_X8_traitAt
theorem dX8_held_2 : decode cX8_held 2 = .ok (.invokevirtual 130, 3) := by decide +kernel
theorem dX8_held_5 : decode cX8_held 5 = .ok (.astore_n 2, 1) := by decide +kernel
theorem dX8_held_6 : decode cX8_held 6 = .ok (.aload_n 2, 1) := by decide +kernel
theorem dX8_held_7 : decode cX8_held 7 = .ok (.ifnonnull 7, 3) := by decide +kernel
theorem dX8_held_10 : decode cX8_held 10 = .ok (.iconst (-1), 1) := by decide +kernel
theorem dX8_held_11 : decode cX8_held 11 = .ok (.goto 7, 3) := by decide +kernel
theorem dX8_held_18 : decode cX8_held 18 = .ok (.ireturn, 1) := by decide +kernel
theorem dX8_placeOf_0 : decode cX8_placeOf 0 = .ok (.aload_n 0, 1) := by decide +kernel
theorem dX8_placeOf_1 : decode cX8_placeOf 1 = .ok (.iload_n 1, 1) := by decide +kernel
set_option maxRecDepth 20000 in
theorem ggX8_placeOf_X8_traitAt : GoodIn wsX8_placeOf wsX8_traitAt := goodIn_r _ [6, 7, 8, 26, 27, 28, 29, 30, 31, 32, 33, 34, 35, 36, 37, 38, 39, 40, 41, 42] (by decide +kernel) (by decide +kernel)
set_option maxRecDepth 20000 in
theorem gX8_placeOf_X8_traitAt : GoodIn wsX8_placeOf (wsV RX8 130 RX8 yX8_traitAt wsX8_traitAt) := goodIn_app (goodIn_of _ (by decide +kernel)) ggX8_placeOf_X8_traitAt
theorem dX8_placeOf_2 : decode cX8_placeOf 2 = .ok (.invokevirtual 130, 3) := by decide +kernel
theorem dX8_placeOf_5 : decode cX8_placeOf 5 = .ok (.ifnull 17, 3) := by decide +kernel
theorem dX8_placeOf_22 : decode cX8_placeOf 22 = .ok (.iconst (-1), 1) := by decide +kernel
theorem dX8_placeOf_23 : decode cX8_placeOf 23 = .ok (.ireturn, 1) := by decide +kernel
theorem dX8_history_0 : decode cX8_history 0 = .ok (.aload_n 0, 1) := by decide +kernel
theorem dX8_history_1 : decode cX8_history 1 = .ok (.iload_n 1, 1) := by decide +kernel
theorem dX8_history_2 : decode cX8_history 2 = .ok (.iload_n 2, 1) := by decide +kernel
theorem dX8_history_3 : decode cX8_history 3 = .ok (.iload_n 3, 1) := by decide +kernel
set_option maxRecDepth 20000 in
theorem ggX8_history_X8_placeOf : GoodIn wsX8_history wsX8_placeOf := goodIn_r _ [7, 2, 8, 9, 10, 6, 11, 12, 13, 14, 15, 16, 17, 18, 19, 20, 21, 22, 23, 24, 25, 26, 27, 28, 29, 30, 31, 32, 33, 34, 35, 36, 37, 38, 39, 40, 41, 42, 43, 44, 45, 46, 47, 48, 49, 50, 51, 52] (by decide +kernel) (by decide +kernel)
set_option maxRecDepth 20000 in
theorem gX8_history_X8_placeOf : GoodIn wsX8_history (wsV RX8 235 RX8 yX8_placeOf wsX8_placeOf) := goodIn_app (goodIn_of _ (by decide +kernel)) ggX8_history_X8_placeOf
theorem dX8_history_4 : decode cX8_history 4 = .ok (.invokevirtual 235, 3) := by decide +kernel
theorem dX8_history_7 : decode cX8_history 7 = .ok (.istore 4, 2) := by decide +kernel
theorem dX8_history_9 : decode cX8_history 9 = .ok (.iload 4, 2) := by decide +kernel
theorem dX8_history_11 : decode cX8_history 11 = .ok (.iconst (-1), 1) := by decide +kernel
theorem dX8_history_12 : decode cX8_history 12 = .ok (.if_icmp .ne 9, 3) := by decide +kernel
theorem dX8_history_15 : decode cX8_history 15 = .ok (.ldc2_w 175, 3) := by decide +kernel
theorem dX8_history_18 : decode cX8_history 18 = .ok (.goto 13, 3) := by decide +kernel
theorem dX8_history_31 : decode cX8_history 31 = .ok (.lreturn, 1) := by decide +kernel
theorem dX8_told_0 : decode cX8_told 0 = .ok (.aload_n 0, 1) := by decide +kernel
theorem dX8_told_1 : decode cX8_told 1 = .ok (.iload_n 1, 1) := by decide +kernel
theorem dX8_told_2 : decode cX8_told 2 = .ok (.iload_n 2, 1) := by decide +kernel
theorem dX8_told_3 : decode cX8_told 3 = .ok (.iload_n 3, 1) := by decide +kernel
set_option maxRecDepth 20000 in
theorem ggX8_told_X8_placeOf : GoodIn wsX8_told wsX8_placeOf := goodIn_r _ [6, 1, 7, 8, 9, 5, 10, 11, 12, 13, 14, 15, 16, 17, 18, 19, 20, 21, 22, 23, 24, 25, 26, 27, 28, 29, 30, 31, 32, 33, 34, 35, 36, 37, 38, 39, 40, 41, 42, 43, 44, 45, 46, 47, 48, 49, 50, 51] (by decide +kernel) (by decide +kernel)
set_option maxRecDepth 20000 in
theorem gX8_told_X8_placeOf : GoodIn wsX8_told (wsV RX8 235 RX8 yX8_placeOf wsX8_placeOf) := goodIn_app (goodIn_of _ (by decide +kernel)) ggX8_told_X8_placeOf
theorem dX8_told_4 : decode cX8_told 4 = .ok (.invokevirtual 235, 3) := by decide +kernel
theorem dX8_told_7 : decode cX8_told 7 = .ok (.istore 5, 2) := by decide +kernel
theorem dX8_told_9 : decode cX8_told 9 = .ok (.iload 5, 2) := by decide +kernel
theorem dX8_told_11 : decode cX8_told 11 = .ok (.iconst (-1), 1) := by decide +kernel
theorem dX8_told_12 : decode cX8_told 12 = .ok (.if_icmp .ne 5, 3) := by decide +kernel
theorem dX8_told_15 : decode cX8_told 15 = .ok (.iconst (-1), 1) := by decide +kernel
theorem dX8_told_16 : decode cX8_told 16 = .ok (.ireturn, 1) := by decide +kernel
theorem dX8_needed_0 : decode cX8_needed 0 = .ok (.aload_n 0, 1) := by decide +kernel
theorem dX8_needed_1 : decode cX8_needed 1 = .ok (.iload_n 1, 1) := by decide +kernel
set_option maxRecDepth 20000 in
theorem ggX8_needed_X8_isModel : GoodIn wsX8_needed wsX8_isModel := goodIn_r _ [6, 7, 8, 9, 10, 11, 12, 13, 14, 15, 16, 17, 18, 19, 20, 21, 22, 23, 24] (by decide +kernel) (by decide +kernel)
set_option maxRecDepth 20000 in
theorem gX8_needed_X8_isModel : GoodIn wsX8_needed (wsV RX8 253 RX8 yX8_isModel wsX8_isModel) := goodIn_app (goodIn_of _ (by decide +kernel)) ggX8_needed_X8_isModel
theorem dX8_needed_2 : decode cX8_needed 2 = .ok (.invokevirtual 253, 3) := by decide +kernel
theorem dX8_needed_5 : decode cX8_needed 5 = .ok (.ifCond .eq 12, 3) := by decide +kernel
theorem dX8_needed_17 : decode cX8_needed 17 = .ok (.iconst 0, 1) := by decide +kernel
theorem dX8_needed_18 : decode cX8_needed 18 = .ok (.ireturn, 1) := by decide +kernel
theorem dX8_hung_0 : decode cX8_hung 0 = .ok (.aload_n 0, 1) := by decide +kernel
theorem dX8_hung_1 : decode cX8_hung 1 = .ok (.iload_n 1, 1) := by decide +kernel
set_option maxRecDepth 20000 in
theorem ggX8_hung_X8_traitAt : GoodIn wsX8_hung wsX8_traitAt := goodIn_r _ [7, 8, 9, 13, 14, 15, 16, 17, 18, 19, 20, 21, 22, 23, 24, 25, 26, 27, 28, 29] (by decide +kernel) (by decide +kernel)
set_option maxRecDepth 20000 in
theorem gX8_hung_X8_traitAt : GoodIn wsX8_hung (wsV RX8 130 RX8 yX8_traitAt wsX8_traitAt) := goodIn_app (goodIn_of _ (by decide +kernel)) ggX8_hung_X8_traitAt
theorem dX8_hung_2 : decode cX8_hung 2 = .ok (.invokevirtual 130, 3) := by decide +kernel
theorem dX8_hung_5 : decode cX8_hung 5 = .ok (.ifnonnull 5, 3) := by decide +kernel
theorem dX8_hung_8 : decode cX8_hung 8 = .ok (.iconst (-1), 1) := by decide +kernel
theorem dX8_hung_9 : decode cX8_hung 9 = .ok (.ireturn, 1) := by decide +kernel
theorem dX8_misses_0 : decode cX8_misses 0 = .ok (.aload_n 0, 1) := by decide +kernel
theorem dX8_misses_1 : decode cX8_misses 1 = .ok (.iload_n 1, 1) := by decide +kernel
set_option maxRecDepth 20000 in
theorem ggX8_misses_X8_isModel : GoodIn wsX8_misses wsX8_isModel := goodIn_r _ [8, 9, 37, 38, 39, 40, 41, 42, 43, 44, 45, 46, 47, 48, 49, 50, 51, 52, 53] (by decide +kernel) (by decide +kernel)
set_option maxRecDepth 20000 in
theorem gX8_misses_X8_isModel : GoodIn wsX8_misses (wsV RX8 253 RX8 yX8_isModel wsX8_isModel) := goodIn_app (goodIn_of _ (by decide +kernel)) ggX8_misses_X8_isModel
theorem dX8_misses_2 : decode cX8_misses 2 = .ok (.invokevirtual 253, 3) := by decide +kernel
theorem dX8_misses_5 : decode cX8_misses 5 = .ok (.ifCond .eq 10, 3) := by decide +kernel
theorem dX8_misses_15 : decode cX8_misses 15 = .ok (.iconst (-1), 1) := by decide +kernel
theorem dX8_misses_16 : decode cX8_misses 16 = .ok (.ireturn, 1) := by decide +kernel
theorem dX8_status_0 : decode cX8_status 0 = .ok (.aload_n 0, 1) := by decide +kernel
theorem dX8_status_1 : decode cX8_status 1 = .ok (.getfield 289, 3) := by decide +kernel
theorem dX8_status_4 : decode cX8_status 4 = .ok (.ireturn, 1) := by decide +kernel
theorem dX8_shift_0 : decode cX8_shift 0 = .ok (.iload 10, 2) := by decide +kernel
theorem dX8_shift_2 : decode cX8_shift 2 = .ok (.ifCond .eq 9, 3) := by decide +kernel
theorem dX8_shift_11 : decode cX8_shift 11 = .ok (.iload_n 2, 1) := by decide +kernel
set_option maxRecDepth 20000 in
theorem ggX8_shift_X8_isMoment : GoodIn wsX8_shift wsX8_isMoment := goodIn_r _ [13, 14] (by decide +kernel) (by decide +kernel)
set_option maxRecDepth 20000 in
theorem gX8_shift_X8_isMoment : GoodIn wsX8_shift (va_wsS RX8 79 yX8_isMoment wsX8_isMoment) := goodIn_app (goodIn_of _ (by decide +kernel)) ggX8_shift_X8_isMoment
theorem dX8_shift_12 : decode cX8_shift 12 = .ok (.invokestatic 79, 3) := by decide +kernel
theorem dX8_shift_15 : decode cX8_shift 15 = .ok (.ifCond .eq 26, 3) := by decide +kernel
theorem dX8_shift_41 : decode cX8_shift 41 = .ok (.ldc2_w 262, 3) := by decide +kernel
theorem dX8_shift_44 : decode cX8_shift 44 = .ok (.lreturn, 1) := by decide +kernel
theorem dX8_shift_18 : decode cX8_shift 18 = .ok (.iload_n 3, 1) := by decide +kernel
theorem dX8_shift_19 : decode cX8_shift 19 = .ok (.invokestatic 79, 3) := by decide +kernel
theorem dX8_shift_22 : decode cX8_shift 22 = .ok (.ifCond .eq 19, 3) := by decide +kernel
theorem dX8_shift_25 : decode cX8_shift 25 = .ok (.lload 4, 2) := by decide +kernel
theorem dX8_shift_27 : decode cX8_shift 27 = .ok (.lload 6, 2) := by decide +kernel
theorem dX8_shift_29 : decode cX8_shift 29 = .ok (.lcmp, 1) := by decide +kernel
theorem dX8_shift_30 : decode cX8_shift 30 = .ok (.ifCond .gt 11, 3) := by decide +kernel
theorem dX8_shift_33 : decode cX8_shift 33 = .ok (.lload 6, 2) := by decide +kernel
theorem dX8_shift_35 : decode cX8_shift 35 = .ok (.lload 8, 2) := by decide +kernel
theorem dX8_shift_37 : decode cX8_shift 37 = .ok (.lcmp, 1) := by decide +kernel
theorem dX8_shift_38 : decode cX8_shift 38 = .ok (.ifCond .le 7, 3) := by decide +kernel
theorem dX8_shift_45 : decode cX8_shift 45 = .ok (.aload_n 0, 1) := by decide +kernel
theorem dX8_shift_46 : decode cX8_shift 46 = .ok (.iload_n 1, 1) := by decide +kernel
set_option maxRecDepth 20000 in
theorem ggX8_shift_X8_traitAt : GoodIn wsX8_shift wsX8_traitAt := goodIn_r _ [18, 19, 20, 112, 113, 114, 115, 116, 117, 118, 119, 120, 121, 122, 123, 124, 125, 126, 127, 128] (by decide +kernel) (by decide +kernel)
set_option maxRecDepth 20000 in
theorem gX8_shift_X8_traitAt : GoodIn wsX8_shift (wsV RX8 130 RX8 yX8_traitAt wsX8_traitAt) := goodIn_app (goodIn_of _ (by decide +kernel)) ggX8_shift_X8_traitAt
theorem dX8_shift_47 : decode cX8_shift 47 = .ok (.invokevirtual 130, 3) := by decide +kernel
theorem dX8_shift_50 : decode cX8_shift 50 = .ok (.ifnonnull 7, 3) := by decide +kernel
theorem dX8_shift_53 : decode cX8_shift 53 = .ok (.ldc2_w 264, 3) := by decide +kernel
theorem dX8_shift_56 : decode cX8_shift 56 = .ok (.lreturn, 1) := by decide +kernel
theorem dX8_shift_5 : decode cX8_shift 5 = .ok (.iload 10, 2) := by decide +kernel
theorem dX8_shift_7 : decode cX8_shift 7 = .ok (.iconst 1, 1) := by decide +kernel
theorem dX8_shift_8 : decode cX8_shift 8 = .ok (.if_icmp .ne 33, 3) := by decide +kernel
theorem dX8_end_0 : decode cX8_end 0 = .ok (.iload_n 1, 1) := by decide +kernel
theorem dX8_end_1 : decode cX8_end 1 = .ok (.ifCond .lt 14, 3) := by decide +kernel
theorem dX8_end_15 : decode cX8_end 15 = .ok (.iconst (-1), 1) := by decide +kernel
theorem dX8_end_16 : decode cX8_end 16 = .ok (.ireturn, 1) := by decide +kernel
theorem dX8_end_4 : decode cX8_end 4 = .ok (.iload_n 1, 1) := by decide +kernel
theorem dX8_end_5 : decode cX8_end 5 = .ok (.aload_n 0, 1) := by decide +kernel
theorem dX8_end_6 : decode cX8_end 6 = .ok (.getfield 30, 3) := by decide +kernel
theorem dX8_end_9 : decode cX8_end 9 = .ok (.getfield 142, 3) := by decide +kernel
theorem dX8_end_12 : decode cX8_end 12 = .ok (.if_icmp .le 5, 3) := by decide +kernel
theorem dX8_end_17 : decode cX8_end 17 = .ok (.aload_n 0, 1) := by decide +kernel
theorem dX8_end_18 : decode cX8_end 18 = .ok (.getfield 30, 3) := by decide +kernel
theorem dX8_end_21 : decode cX8_end 21 = .ok (.iload_n 1, 1) := by decide +kernel
theorem dX8_end_22 : decode cX8_end 22 = .ok (.putfield 142, 3) := by decide +kernel
theorem dX8_end_25 : decode cX8_end 25 = .ok (.iload_n 1, 1) := by decide +kernel
theorem dX8_end_26 : decode cX8_end 26 = .ok (.ireturn, 1) := by decide +kernel
theorem dX8_count_0 : decode cX8_count 0 = .ok (.iload_n 1, 1) := by decide +kernel
theorem dX8_count_1 : decode cX8_count 1 = .ok (.tableswitch 99 0 7 #[47, 52, 60, 68, 73, 78, 83, 91], 47) := by decide +kernel
theorem dX8_count_100 : decode cX8_count 100 = .ok (.iconst (-1), 1) := by decide +kernel
theorem dX8_count_101 : decode cX8_count 101 = .ok (.ireturn, 1) := by decide +kernel
theorem dX8_count_48 : decode cX8_count 48 = .ok (.aload_n 0, 1) := by decide +kernel
theorem dX8_count_49 : decode cX8_count 49 = .ok (.getfield 83, 3) := by decide +kernel
theorem dX8_count_52 : decode cX8_count 52 = .ok (.ireturn, 1) := by decide +kernel
theorem dX8_count_53 : decode cX8_count 53 = .ok (.aload_n 0, 1) := by decide +kernel
theorem dX8_count_54 : decode cX8_count 54 = .ok (.getfield 10, 3) := by decide +kernel
theorem dX8_count_57 : decode cX8_count 57 = .ok (.getfield 286, 3) := by decide +kernel
theorem dX8_count_60 : decode cX8_count 60 = .ok (.ireturn, 1) := by decide +kernel
theorem dX8_count_61 : decode cX8_count 61 = .ok (.aload_n 0, 1) := by decide +kernel
theorem dX8_count_62 : decode cX8_count 62 = .ok (.getfield 19, 3) := by decide +kernel
theorem dX8_count_65 : decode cX8_count 65 = .ok (.getfield 287, 3) := by decide +kernel
theorem dX8_count_68 : decode cX8_count 68 = .ok (.ireturn, 1) := by decide +kernel
theorem dX8_count_69 : decode cX8_count 69 = .ok (.aload_n 0, 1) := by decide +kernel
theorem dX8_count_70 : decode cX8_count 70 = .ok (.getfield 127, 3) := by decide +kernel
theorem dX8_count_73 : decode cX8_count 73 = .ok (.ireturn, 1) := by decide +kernel
theorem dX8_count_74 : decode cX8_count 74 = .ok (.aload_n 0, 1) := by decide +kernel
theorem dX8_count_75 : decode cX8_count 75 = .ok (.getfield 148, 3) := by decide +kernel
theorem dX8_count_78 : decode cX8_count 78 = .ok (.ireturn, 1) := by decide +kernel
theorem dX8_count_79 : decode cX8_count 79 = .ok (.aload_n 0, 1) := by decide +kernel
theorem dX8_count_80 : decode cX8_count 80 = .ok (.getfield 250, 3) := by decide +kernel
theorem dX8_count_83 : decode cX8_count 83 = .ok (.ireturn, 1) := by decide +kernel
theorem dX8_count_84 : decode cX8_count 84 = .ok (.aload_n 0, 1) := by decide +kernel
theorem dX8_count_85 : decode cX8_count 85 = .ok (.getfield 61, 3) := by decide +kernel
theorem dX8_count_88 : decode cX8_count 88 = .ok (.getfield 288, 3) := by decide +kernel
theorem dX8_count_91 : decode cX8_count 91 = .ok (.ireturn, 1) := by decide +kernel
theorem dX8_count_92 : decode cX8_count 92 = .ok (.aload_n 0, 1) := by decide +kernel
theorem dX8_count_93 : decode cX8_count 93 = .ok (.getfield 30, 3) := by decide +kernel
theorem dX8_count_96 : decode cX8_count 96 = .ok (.getfield 142, 3) := by decide +kernel
theorem dX8_count_99 : decode cX8_count 99 = .ok (.ireturn, 1) := by decide +kernel
set_option maxHeartbeats 4000000 in
set_option maxRecDepth 100000 in
theorem c_X8_fault (l : Launch) (dC : Nat → ClassId) (dI : Nat → Nat → Nat) (sz : Nat) (h0 : Nat) (hRows : Nat) (hMer : Nat) (hEra : Nat) (hTape : Nat) (hRea : Nat) (hTra : Nat) (hWor : Nat) (hPla : Nat) (hMod : Nat) (hHe1 : Nat) (hHe2 : Nat)  : Met l yX8_fault wsX8_fault ({ frames := 0, cells := 0, slots := 0, locals := 0 }) (va_Pc [.ref h0] (fun U => U.heap.size = sz ∧ va_P (dC, dI) vwCl [(h0, .inr (8, [.ref hRows, .ref hMer, .ref hEra, .ref hTape, .ref hRea, .ref hTra, .ref hWor, .ref hPla, .ref hMod, .ref hHe1, .ref hHe2, .int 0, .int 0, .int 0, .int 0, .int (-1), .int 0]))] U.heap ∧ va_K (dC, dI) vwCl [] U ∧ va_D (fun _ => True) [(h0, .inr (8, [.ref hRows, .ref hMer, .ref hEra, .ref hTape, .ref hRea, .ref hTra, .ref hWor, .ref hPla, .ref hMod, .ref hHe1, .ref hHe2, .int 0, .int 0, .int 0, .int 0, .int (-1), .int 0]))] ∧ nw_ok U)) (va_Qi (fun (r : Int32) (_ : Unit) => r = (-1)) (fun (_ : Unit) (t : State) => True) (va_A [(h0, .inr (8, [.ref hRows, .ref hMer, .ref hEra, .ref hTape, .ref hRea, .ref hTra, .ref hWor, .ref hPla, .ref hMod, .ref hHe1, .ref hHe2, .int 0, .int 0, .int 0, .int 0, .int (-1), .int 0]))] sz)) 0 0 (va_A [(h0, .inr (8, [.ref hRows, .ref hMer, .ref hEra, .ref hTape, .ref hRea, .ref hTra, .ref hWor, .ref hPla, .ref hMod, .ref hHe1, .ref hHe2, .int 0, .int 0, .int 0, .int 0, .int (-1), .int 0]))] sz) := by
  refine Met.ofW (cc := cX8_fault) (maxL := 1) (ret := (some .int)) (by decide) rfl ?_
  intro p e s m args below meth c s₁ B hml hv
  obtain ⟨rfl, hsz, hP, hK, hD0, hN⟩ := hv
  have hx := B.exec
  have hb := B.bytes
  have hr := B.returns
  have hts := atoms_spec (ws := wsX8_fault) B.pre
  have hown : s.vm.findClass RX8 = some m.cls := findClass_of_methodNamed B.named
  have hlocks := B.notSynchronized
  subst hsz
  have hD := hD0.self (sz := s.heap.size)
  generalize hAe : va_A [(h0, .inr (8, [.ref hRows, .ref hMer, .ref hEra, .ref hTape, .ref hRea, .ref hTra, .ref hWor, .ref hPla, .ref hMod, .ref hHe1, .ref hHe2, .int 0, .int 0, .int 0, .int 0, .int (-1), .int 0]))] s.heap.size = A at hD ⊢
  have hA : ∀ q : Nat, s.heap.size ≤ q → A q := fun q h => by rw [← hAe]; exact Or.inr h
  have hS : va_S A s.heap s.heap [] := va_S.rf
  have hP : va_P (dC, dI) vwCl [(h0, .inr (8, [.ref hRows, .ref hMer, .ref hEra, .ref hTape, .ref hRea, .ref hTra, .ref hWor, .ref hPla, .ref hMod, .ref hHe1, .ref hHe2, .int 0, .int 0, .int 0, .int 0, .int (-1), .int 0]))] s.heap := hP
  have hIX8 : ∀ w ∈ u_ws RX8 TX8 17, w ∈ wsX8_fault := by decide +kernel
  have hl := lv_entry ([.ref h0]) (n := 1) (Nat.le_of_ble_eq_true rfl)
  rw [lg_entry_eq]
  generalize (lg_sl ([.ref h0]) ++ List.replicate (1 - (lg_sl ([.ref h0])).length) Slot.unset).toArray = ls at hl ⊢
  have hl : lv_has ls 1 [(0, .ref h0)] := hl
  refine lv_aload_n hx hb dX8_fault_0 rfl (lv_at hl 0 rfl) ?_
  refine va_get (D := (dC, dI)) (ci := 8) (v := .int (-1)) (C := RX8) (T := TX8) (N := 17) hx hb hts hIX8 hown hK hP 0 rfl rfl 15 (by decide) (hts (.fieldLink RX8 75 "TraitHouse" "latestFault" "I") (by decide +kernel)) (fun _ h9 => h9) rfl dX8_fault_1 ?_
  exact W.iret (v := (-1)) hx hb hr (fun t ht hW => ⟨⟨(-1), (), rfl, rfl, trivial⟩, hS.F ht⟩) hS.2.2 dX8_fault_4

set_option maxHeartbeats 4000000 in
set_option maxRecDepth 100000 in
theorem c_X8_value (l : Launch) (dC : Nat → ClassId) (dI : Nat → Nat → Nat) (sz : Nat) (h0 : Nat) (hRows : Nat) (hMer : Nat) (hEra : Nat) (hTape : Nat) (hRea : Nat) (hTra : Nat) (hWor : Nat) (hPla : Nat) (hMod : Nat) (hHe1 : Nat) (hHe2 : Nat) (tt : Int32) (pp : Int32) (mo : Int32) (kn : Int32)  : Met l yX8_value wsX8_value ({ frames := 1, cells := 0, slots := 0, locals := 21 }) (va_Pc [.ref h0, .int tt, .int pp, .int mo, .int kn] (fun U => U.heap.size = sz ∧ va_P (dC, dI) vwCl [(h0, .inr (8, [.ref hRows, .ref hMer, .ref hEra, .ref hTape, .ref hRea, .ref hTra, .ref hWor, .ref hPla, .ref hMod, .ref hHe1, .ref hHe2, .int 0, .int 0, .int 0, .int 0, .int (-1), .int 0]))] U.heap ∧ va_K (dC, dI) vwCl [] U ∧ va_D (fun _ => True) [(h0, .inr (8, [.ref hRows, .ref hMer, .ref hEra, .ref hTape, .ref hRea, .ref hTra, .ref hWor, .ref hPla, .ref hMod, .ref hHe1, .ref hHe2, .int 0, .int 0, .int 0, .int 0, .int (-1), .int 0]))] ∧ nw_ok U)) (va_Ql (fun (r : Int64) (_ : Unit) => r = (-9000000000000000000)) (fun (_ : Unit) (t : State) => True) (va_A [(h0, .inr (8, [.ref hRows, .ref hMer, .ref hEra, .ref hTape, .ref hRea, .ref hTra, .ref hWor, .ref hPla, .ref hMod, .ref hHe1, .ref hHe2, .int 0, .int 0, .int 0, .int 0, .int (-1), .int 0]))] sz)) 0 0 (va_A [(h0, .inr (8, [.ref hRows, .ref hMer, .ref hEra, .ref hTape, .ref hRea, .ref hTra, .ref hWor, .ref hPla, .ref hMod, .ref hHe1, .ref hHe2, .int 0, .int 0, .int 0, .int 0, .int (-1), .int 0]))] sz) := by
  refine Met.ofW (cc := cX8_value) (maxL := 5) (ret := (some .long)) (by decide) rfl ?_
  intro p e s m args below meth c s₁ B hml hv
  obtain ⟨rfl, hsz, hP, hK, hD0, hN⟩ := hv
  have hx := B.exec
  have hb := B.bytes
  have hr := B.returns
  have hts := atoms_spec (ws := wsX8_value) B.pre
  have hown : s.vm.findClass RX8 = some m.cls := findClass_of_methodNamed B.named
  have hlocks := B.notSynchronized
  subst hsz
  have hD := hD0.self (sz := s.heap.size)
  generalize hAe : va_A [(h0, .inr (8, [.ref hRows, .ref hMer, .ref hEra, .ref hTape, .ref hRea, .ref hTra, .ref hWor, .ref hPla, .ref hMod, .ref hHe1, .ref hHe2, .int 0, .int 0, .int 0, .int 0, .int (-1), .int 0]))] s.heap.size = A at hD ⊢
  have hA : ∀ q : Nat, s.heap.size ≤ q → A q := fun q h => by rw [← hAe]; exact Or.inr h
  have hS : va_S A s.heap s.heap [] := va_S.rf
  have hP : va_P (dC, dI) vwCl [(h0, .inr (8, [.ref hRows, .ref hMer, .ref hEra, .ref hTape, .ref hRea, .ref hTra, .ref hWor, .ref hPla, .ref hMod, .ref hHe1, .ref hHe2, .int 0, .int 0, .int 0, .int 0, .int (-1), .int 0]))] s.heap := hP
  have hl := lv_entry ([.ref h0, .int tt, .int pp, .int mo, .int kn]) (n := 5) (Nat.le_of_ble_eq_true rfl)
  rw [lg_entry_eq]
  generalize (lg_sl ([.ref h0, .int tt, .int pp, .int mo, .int kn]) ++ List.replicate (5 - (lg_sl ([.ref h0, .int tt, .int pp, .int mo, .int kn])).length) Slot.unset).toArray = ls at hl ⊢
  have hl : lv_has ls 5 [(0, .ref h0), (1, .int tt), (2, .int pp), (3, .int mo), (4, .int kn)] := hl
  refine lv_aload_n hx hb dX8_value_0 rfl (lv_at hl 0 rfl) ?_
  refine lv_iload_n hx hb dX8_value_1 rfl (lv_at hl 1 rfl) ?_
  have hPc := hP.sub (ws' := [(h0, .inr (8, [.ref hRows, .ref hMer, .ref hEra, .ref hTape, .ref hRea, .ref hTra, .ref hWor, .ref hPla, .ref hMod, .ref hHe1, .ref hHe2, .int 0, .int 0, .int 0, .int 0, .int (-1), .int 0]))]) [0] rfl
  have hDc := hD.sub (ws' := [(h0, .inr (8, [.ref hRows, .ref hMer, .ref hEra, .ref hTape, .ref hRea, .ref hTra, .ref hWor, .ref hPla, .ref hMod, .ref hHe1, .ref hHe2, .int 0, .int 0, .int 0, .int 0, .int (-1), .int 0]))]) [0] (by decide) rfl
  have hKc := hK.sub (tys' := []) [] rfl
  have hFc := va_free (wc := [(h0, .inr (8, [.ref hRows, .ref hMer, .ref hEra, .ref hTape, .ref hRea, .ref hTra, .ref hWor, .ref hPla, .ref hMod, .ref hHe1, .ref hHe2, .int 0, .int 0, .int 0, .int 0, .int (-1), .int 0]))]) hD hS hA [0] rfl
  refine va_callq (va_runV (As := [.int tt]) (rest := []) ⟨hx, hb, hml, hown, hts⟩ (c_X8_traitAt l dC dI s.heap.size h0 hRows hMer hEra hTape hRea hTra hWor hPla hMod hHe1 hHe2 0 0 0 (-1) 0 tt ) (cwV 1 hts gX8_value_X8_traitAt rfl rfl rfl (by decide +kernel) ⟨Nat.le_of_ble_eq_true rfl, Nat.le_of_ble_eq_true rfl⟩) ⟨fun a U g mk q => by obtain ⟨q0, q1, qP, qK, qD, qN⟩ := q; exact ⟨q0, q1, qP, va_K.moved (u := U) (U := U.calling g mk a) (Vm.Alike.refl U.vm) qK, qD, qN.same rfl⟩, va_recv hKc hPc (ci := 8) (q0 := 0) rfl rfl, fun U hU hW => ⟨rfl, by rw [hU], by rw [hU]; exact hPc, va_K.moved hW.alike hKc, hDc.weaken (fun _ _ _ _ => trivial), hN.warm hW⟩⟩ rfl rfl hl.1 rfl (lv_room (Nat.le_of_ble_eq_true rfl)) dX8_value_2 ⟨Nat.le_of_ble_eq_true rfl, Nat.le_of_ble_eq_true rfl⟩) hS (fun q _ h => hFc q h) hFc (fun r_1 u_2 t H1 locs ht hvm hw_3 hB hz1 hk1 hS => ?_)
  try dsimp only at hw_3
  obtain ⟨hP1, hK1, hD1⟩ := hB
  rw [ht] at hP1
  have hK1 := va_K.moved hvm.symm hK1
  obtain ⟨hP, hD⟩ := va_join (wr := []) (w1 := [(h0, .inr (8, [.ref hRows, .ref hMer, .ref hEra, .ref hTape, .ref hRea, .ref hTra, .ref hWor, .ref hPla, .ref hMod, .ref hHe1, .ref hHe2, .int 0, .int 0, .int 0, .int 0, .int (-1), .int 0]))]) hP hD [0] [] rfl rfl (by decide) (by decide) hk1 hFc hP1 hD1
  have hK := (hK.sub (tys' := []) [] rfl).app hK1
  generalize H1 = H at hP hS ⊢
  have hP : va_P (dC, dI) vwCl [(h0, .inr (8, [.ref hRows, .ref hMer, .ref hEra, .ref hTape, .ref hRea, .ref hTra, .ref hWor, .ref hPla, .ref hMod, .ref hHe1, .ref hHe2, .int 0, .int 0, .int 0, .int 0, .int (-1), .int 0]))] H := hP
  have hD : va_D A [(h0, .inr (8, [.ref hRows, .ref hMer, .ref hEra, .ref hTape, .ref hRea, .ref hTra, .ref hWor, .ref hPla, .ref hMod, .ref hHe1, .ref hHe2, .int 0, .int 0, .int 0, .int 0, .int (-1), .int 0]))] := hD
  have hK : va_K (dC, dI) vwCl [] s := hK
  obtain rfl : none = r_1 := hw_3.symm
  refine W.eq (g2 := F0 m 5 ls [.null]) rfl ?_
  refine lv_ifnullN (tgt := 30) hx hb dX8_value_5 (by decide) ?_
  refine lv_ldc2 hx hb hown (hts (.constantLong RX8 175 (-9000000000000000000)) (by decide +kernel)) dX8_value_30 ?_
  exact W.lret (v := (-9000000000000000000)) hx hb hr (fun t ht hW => ⟨⟨(-9000000000000000000), (), rfl, rfl, trivial⟩, hS.F ht⟩) hS.2.2 dX8_value_33

set_option maxHeartbeats 4000000 in
set_option maxRecDepth 100000 in
theorem c_X8_law (l : Launch) (dC : Nat → ClassId) (dI : Nat → Nat → Nat) (sz : Nat) (h0 : Nat) (hRows : Nat) (hMer : Nat) (hEra : Nat) (hTape : Nat) (hRea : Nat) (hTra : Nat) (hWor : Nat) (hPla : Nat) (hMod : Nat) (hHe1 : Nat) (hHe2 : Nat) (tt : Int32) (a : Int64) (b : Int64)  : Met l yX8_law wsX8_law ({ frames := 2, cells := 0, slots := 0, locals := 42 }) (va_Pc [.ref h0, .int tt, .long a, .long b] (fun U => U.heap.size = sz ∧ va_P (dC, dI) vwCl [(h0, .inr (8, [.ref hRows, .ref hMer, .ref hEra, .ref hTape, .ref hRea, .ref hTra, .ref hWor, .ref hPla, .ref hMod, .ref hHe1, .ref hHe2, .int 0, .int 0, .int 0, .int 0, .int (-1), .int 0]))] U.heap ∧ va_K (dC, dI) vwCl [] U ∧ va_D (fun _ => True) [(h0, .inr (8, [.ref hRows, .ref hMer, .ref hEra, .ref hTape, .ref hRea, .ref hTra, .ref hWor, .ref hPla, .ref hMod, .ref hHe1, .ref hHe2, .int 0, .int 0, .int 0, .int 0, .int (-1), .int 0]))] ∧ nw_ok U)) (va_Qi (fun (r : Int32) (_ : Unit) => (a.toInt ≤ b.toInt → r.toInt = (-2)) ∧ (b.toInt < a.toInt → r.toInt = (-1))) (fun (_ : Unit) (t : State) => True) (va_A [(h0, .inr (8, [.ref hRows, .ref hMer, .ref hEra, .ref hTape, .ref hRea, .ref hTra, .ref hWor, .ref hPla, .ref hMod, .ref hHe1, .ref hHe2, .int 0, .int 0, .int 0, .int 0, .int (-1), .int 0]))] sz)) 0 0 (va_A [(h0, .inr (8, [.ref hRows, .ref hMer, .ref hEra, .ref hTape, .ref hRea, .ref hTra, .ref hWor, .ref hPla, .ref hMod, .ref hHe1, .ref hHe2, .int 0, .int 0, .int 0, .int 0, .int (-1), .int 0]))] sz) := by
  refine Met.ofW (cc := cX8_law) (maxL := 7) (ret := (some .int)) (by decide) rfl ?_
  intro p e s m args below meth c s₁ B hml hv
  obtain ⟨rfl, hsz, hP, hK, hD0, hN⟩ := hv
  have hx := B.exec
  have hb := B.bytes
  have hr := B.returns
  have hts := atoms_spec (ws := wsX8_law) B.pre
  have hown : s.vm.findClass RX8 = some m.cls := findClass_of_methodNamed B.named
  have hlocks := B.notSynchronized
  subst hsz
  have hD := hD0.self (sz := s.heap.size)
  generalize hAe : va_A [(h0, .inr (8, [.ref hRows, .ref hMer, .ref hEra, .ref hTape, .ref hRea, .ref hTra, .ref hWor, .ref hPla, .ref hMod, .ref hHe1, .ref hHe2, .int 0, .int 0, .int 0, .int 0, .int (-1), .int 0]))] s.heap.size = A at hD ⊢
  have hA : ∀ q : Nat, s.heap.size ≤ q → A q := fun q h => by rw [← hAe]; exact Or.inr h
  have hS : va_S A s.heap s.heap [] := va_S.rf
  have hP : va_P (dC, dI) vwCl [(h0, .inr (8, [.ref hRows, .ref hMer, .ref hEra, .ref hTape, .ref hRea, .ref hTra, .ref hWor, .ref hPla, .ref hMod, .ref hHe1, .ref hHe2, .int 0, .int 0, .int 0, .int 0, .int (-1), .int 0]))] s.heap := hP
  have hl := lv_entry ([.ref h0, .int tt, .long a, .long b]) (n := 7) (Nat.le_of_ble_eq_true rfl)
  rw [lg_entry_eq]
  generalize (lg_sl ([.ref h0, .int tt, .long a, .long b]) ++ List.replicate (7 - (lg_sl ([.ref h0, .int tt, .long a, .long b])).length) Slot.unset).toArray = ls at hl ⊢
  have hl : lv_has ls 7 [(0, .ref h0), (1, .int tt), (2, .long a), (4, .long b)] := hl
  refine lv_lload_n hx hb dX8_law_0 rfl (lv_at hl 2 rfl) ?_
  refine lv_lload hx hb dX8_law_1 (lv_at hl 3 rfl) ?_
  refine W.lcmp hx hb dX8_law_3 ?_
  refine lv_topi (fun k_1 ek_1 => ?_)
  have dk_1 : (k_1.toInt < 0 ↔ a.toInt < b.toInt) ∧ (k_1.toInt = 0 ↔ a.toInt = b.toInt) ∧ (0 < k_1.toInt ↔ b.toInt < a.toInt) := jI_cmp ek_1 rfl rfl
  refine lv_if_le (tgt := 13) hx hb dX8_law_4 (by decide) (fun c_2 => ?_) (fun c_2 => ?_)
  · have dc_2 : k_1.toInt ≤ 0 := jI_le c_2 rfl (by decide)
    refine lv_aload_n hx hb dX8_law_13 rfl (lv_at hl 0 rfl) ?_
    refine lv_iload_n hx hb dX8_law_14 rfl (lv_at hl 1 rfl) ?_
    have hPc := hP.sub (ws' := [(h0, .inr (8, [.ref hRows, .ref hMer, .ref hEra, .ref hTape, .ref hRea, .ref hTra, .ref hWor, .ref hPla, .ref hMod, .ref hHe1, .ref hHe2, .int 0, .int 0, .int 0, .int 0, .int (-1), .int 0]))]) [0] rfl
    have hDc := hD.sub (ws' := [(h0, .inr (8, [.ref hRows, .ref hMer, .ref hEra, .ref hTape, .ref hRea, .ref hTra, .ref hWor, .ref hPla, .ref hMod, .ref hHe1, .ref hHe2, .int 0, .int 0, .int 0, .int 0, .int (-1), .int 0]))]) [0] (by decide) rfl
    have hKc := hK.sub (tys' := []) [] rfl
    have hFc := va_free (wc := [(h0, .inr (8, [.ref hRows, .ref hMer, .ref hEra, .ref hTape, .ref hRea, .ref hTra, .ref hWor, .ref hPla, .ref hMod, .ref hHe1, .ref hHe2, .int 0, .int 0, .int 0, .int 0, .int (-1), .int 0]))]) hD hS hA [0] rfl
    refine va_callq (va_runV (As := [.int tt]) (rest := []) ⟨hx, hb, hml, hown, hts⟩ (c_X8_traitAt l dC dI s.heap.size h0 hRows hMer hEra hTape hRea hTra hWor hPla hMod hHe1 hHe2 0 0 0 (-1) 0 tt ) (cwV 1 hts gX8_law_X8_traitAt rfl rfl rfl (by decide +kernel) ⟨Nat.le_of_ble_eq_true rfl, Nat.le_of_ble_eq_true rfl⟩) ⟨fun a U g mk q => by obtain ⟨q0, q1, qP, qK, qD, qN⟩ := q; exact ⟨q0, q1, qP, va_K.moved (u := U) (U := U.calling g mk a) (Vm.Alike.refl U.vm) qK, qD, qN.same rfl⟩, va_recv hKc hPc (ci := 8) (q0 := 0) rfl rfl, fun U hU hW => ⟨rfl, by rw [hU], by rw [hU]; exact hPc, va_K.moved hW.alike hKc, hDc.weaken (fun _ _ _ _ => trivial), hN.warm hW⟩⟩ rfl rfl hl.1 rfl (lv_room (Nat.le_of_ble_eq_true rfl)) dX8_law_15 ⟨Nat.le_of_ble_eq_true rfl, Nat.le_of_ble_eq_true rfl⟩) hS (fun q _ h => hFc q h) hFc (fun r_3 u_4 t H1 locs ht hvm hw_5 hB hz1 hk1 hS => ?_)
    try dsimp only at hw_5
    obtain ⟨hP1, hK1, hD1⟩ := hB
    rw [ht] at hP1
    have hK1 := va_K.moved hvm.symm hK1
    obtain ⟨hP, hD⟩ := va_join (wr := []) (w1 := [(h0, .inr (8, [.ref hRows, .ref hMer, .ref hEra, .ref hTape, .ref hRea, .ref hTra, .ref hWor, .ref hPla, .ref hMod, .ref hHe1, .ref hHe2, .int 0, .int 0, .int 0, .int 0, .int (-1), .int 0]))]) hP hD [0] [] rfl rfl (by decide) (by decide) hk1 hFc hP1 hD1
    have hK := (hK.sub (tys' := []) [] rfl).app hK1
    generalize H1 = H at hP hS ⊢
    have hP : va_P (dC, dI) vwCl [(h0, .inr (8, [.ref hRows, .ref hMer, .ref hEra, .ref hTape, .ref hRea, .ref hTra, .ref hWor, .ref hPla, .ref hMod, .ref hHe1, .ref hHe2, .int 0, .int 0, .int 0, .int 0, .int (-1), .int 0]))] H := hP
    have hD : va_D A [(h0, .inr (8, [.ref hRows, .ref hMer, .ref hEra, .ref hTape, .ref hRea, .ref hTra, .ref hWor, .ref hPla, .ref hMod, .ref hHe1, .ref hHe2, .int 0, .int 0, .int 0, .int 0, .int (-1), .int 0]))] := hD
    have hK : va_K (dC, dI) vwCl [] s := hK
    obtain rfl : none = r_3 := hw_5.symm
    refine W.eq (g2 := F0 m 18 ls [.null]) rfl ?_
    refine lv_astoreN (lv' := [(6, .null), (0, .ref h0), (1, .int tt), (2, .long a), (4, .long b)]) hx hb dX8_law_18 hl (by decide) rfl (fun ls hl => ?_)
    refine lv_aloadN hx hb dX8_law_20 (lv_at hl 0 rfl) ?_
    refine lv_ifnonnullN hx hb dX8_law_22 ?_
    refine lv_aload_n hx hb dX8_law_25 rfl (lv_at hl 1 rfl) ?_
    refine lv_bipush (v := (-2)) hx hb dX8_law_26 (by decide) ?_
    have hk_6 : ((-2) : Int32).toInt = (-2) := by decide
    have hk_7 : (0 : Int32).toInt = 0 := by decide
    have hk_8 : ((-1) : Int32).toInt = (-1) := by decide
    have hPc := hP.sub (ws' := [(h0, .inr (8, [.ref hRows, .ref hMer, .ref hEra, .ref hTape, .ref hRea, .ref hTra, .ref hWor, .ref hPla, .ref hMod, .ref hHe1, .ref hHe2, .int 0, .int 0, .int 0, .int 0, .int (-1), .int 0]))]) [0] rfl
    have hDc := hD.sub (ws' := [(h0, .inr (8, [.ref hRows, .ref hMer, .ref hEra, .ref hTape, .ref hRea, .ref hTra, .ref hWor, .ref hPla, .ref hMod, .ref hHe1, .ref hHe2, .int 0, .int 0, .int 0, .int 0, .int (-1), .int 0]))]) [0] (by decide) rfl
    have hKc := hK.sub (tys' := []) [] rfl
    have hFc := va_free (wc := [(h0, .inr (8, [.ref hRows, .ref hMer, .ref hEra, .ref hTape, .ref hRea, .ref hTra, .ref hWor, .ref hPla, .ref hMod, .ref hHe1, .ref hHe2, .int 0, .int 0, .int 0, .int 0, .int (-1), .int 0]))]) hD hS hA [0] rfl
    refine va_calli (va_runV (As := [.int (-2)]) (rest := []) ⟨hx, hb, hml, hown, hts⟩ (c_X8_settle l dC dI H.size h0 hRows hMer hEra hTape hRea hTra hWor hPla hMod hHe1 hHe2 0 0 0 0 (-1) 0 (-2) ) (cwV 1 hts gX8_law_X8_settle rfl rfl rfl (by decide +kernel) ⟨Nat.le_of_ble_eq_true rfl, Nat.le_of_ble_eq_true rfl⟩) ⟨fun a U g mk q => by obtain ⟨q0, q1, qP, qK, qD, qN⟩ := q; exact ⟨q0, q1, qP, va_K.moved (u := U) (U := U.calling g mk a) (Vm.Alike.refl U.vm) qK, qD, qN.same rfl⟩, va_recv hKc hPc (ci := 8) (q0 := 0) rfl rfl, fun U hU hW => ⟨rfl, by rw [hU], by rw [hU]; exact hPc, va_K.moved hW.alike hKc, hDc.weaken (fun _ _ _ _ => trivial), hN.warm hW⟩⟩ rfl rfl hl.1 rfl (lv_room (Nat.le_of_ble_eq_true rfl)) dX8_law_28 ⟨Nat.le_of_ble_eq_true rfl, Nat.le_of_ble_eq_true rfl⟩) hS (fun q _ h => hFc q h) hFc (fun r_9 u_10 t H1 locs ht hvm hw_11 hB hz1 hk1 hS => ?_)
    obtain ⟨w_12, rfl⟩ : ∃ z, z = u_10 := ⟨_, rfl⟩
    try dsimp only at hw_11
    obtain ⟨hP1, hK1, hD1⟩ := hB
    rw [ht] at hP1
    have hK1 := va_K.moved hvm.symm hK1
    obtain ⟨hP, hD⟩ := va_join (wr := []) (w1 := [(h0, .inr (8, [.ref hRows, .ref hMer, .ref hEra, .ref hTape, .ref hRea, .ref hTra, .ref hWor, .ref hPla, .ref hMod, .ref hHe1, .ref hHe2, .int 0, .int 0, .int 0, .int 0, .int (-1), .int w_12]))]) hP hD [0] [] rfl rfl (by decide) (by decide) hk1 hFc hP1 hD1
    have hK := (hK.sub (tys' := []) [] rfl).app hK1
    generalize H1 = H at hP hS ⊢
    have hP : va_P (dC, dI) vwCl [(h0, .inr (8, [.ref hRows, .ref hMer, .ref hEra, .ref hTape, .ref hRea, .ref hTra, .ref hWor, .ref hPla, .ref hMod, .ref hHe1, .ref hHe2, .int 0, .int 0, .int 0, .int 0, .int (-1), .int w_12]))] H := hP
    have hD : va_D A [(h0, .inr (8, [.ref hRows, .ref hMer, .ref hEra, .ref hTape, .ref hRea, .ref hTra, .ref hWor, .ref hPla, .ref hMod, .ref hHe1, .ref hHe2, .int 0, .int 0, .int 0, .int 0, .int (-1), .int w_12]))] := hD
    have hK : va_K (dC, dI) vwCl [] s := hK
    obtain rfl : (-2) = r_9 := hw_11.symm
    have hans : ((-2) : Int32).toInt = (-2) := (by decide)
    exact W.iret (v := (-2)) hx hb hr (fun t ht hW => ⟨⟨(-2), (), rfl, by first | omega | (dsimp only; omega), trivial⟩, hS.F ht⟩) hS.2.2 dX8_law_31
  · have dc_2 : 0 < k_1.toInt := jI_nle c_2 rfl (by decide)
    refine lv_aload_n hx hb dX8_law_7 rfl (lv_at hl 0 rfl) ?_
    refine lv_iconst (v := (-1)) hx hb dX8_law_8 (by decide) ?_
    have hk_13 : ((-1) : Int32).toInt = (-1) := by decide
    have hk_14 : (0 : Int32).toInt = 0 := by decide
    have hPc := hP.sub (ws' := [(h0, .inr (8, [.ref hRows, .ref hMer, .ref hEra, .ref hTape, .ref hRea, .ref hTra, .ref hWor, .ref hPla, .ref hMod, .ref hHe1, .ref hHe2, .int 0, .int 0, .int 0, .int 0, .int (-1), .int 0]))]) [0] rfl
    have hDc := hD.sub (ws' := [(h0, .inr (8, [.ref hRows, .ref hMer, .ref hEra, .ref hTape, .ref hRea, .ref hTra, .ref hWor, .ref hPla, .ref hMod, .ref hHe1, .ref hHe2, .int 0, .int 0, .int 0, .int 0, .int (-1), .int 0]))]) [0] (by decide) rfl
    have hKc := hK.sub (tys' := []) [] rfl
    have hFc := va_free (wc := [(h0, .inr (8, [.ref hRows, .ref hMer, .ref hEra, .ref hTape, .ref hRea, .ref hTra, .ref hWor, .ref hPla, .ref hMod, .ref hHe1, .ref hHe2, .int 0, .int 0, .int 0, .int 0, .int (-1), .int 0]))]) hD hS hA [0] rfl
    refine va_calli (va_runV (As := [.int (-1)]) (rest := []) ⟨hx, hb, hml, hown, hts⟩ (c_X8_settle l dC dI s.heap.size h0 hRows hMer hEra hTape hRea hTra hWor hPla hMod hHe1 hHe2 0 0 0 0 (-1) 0 (-1) ) (cwV 1 hts gX8_law_X8_settle rfl rfl rfl (by decide +kernel) ⟨Nat.le_of_ble_eq_true rfl, Nat.le_of_ble_eq_true rfl⟩) ⟨fun a U g mk q => by obtain ⟨q0, q1, qP, qK, qD, qN⟩ := q; exact ⟨q0, q1, qP, va_K.moved (u := U) (U := U.calling g mk a) (Vm.Alike.refl U.vm) qK, qD, qN.same rfl⟩, va_recv hKc hPc (ci := 8) (q0 := 0) rfl rfl, fun U hU hW => ⟨rfl, by rw [hU], by rw [hU]; exact hPc, va_K.moved hW.alike hKc, hDc.weaken (fun _ _ _ _ => trivial), hN.warm hW⟩⟩ rfl rfl hl.1 rfl (lv_room (Nat.le_of_ble_eq_true rfl)) dX8_law_9 ⟨Nat.le_of_ble_eq_true rfl, Nat.le_of_ble_eq_true rfl⟩) hS (fun q _ h => hFc q h) hFc (fun r_15 u_16 t H1 locs ht hvm hw_17 hB hz1 hk1 hS => ?_)
    obtain ⟨w_18, rfl⟩ : ∃ z, z = u_16 := ⟨_, rfl⟩
    try dsimp only at hw_17
    obtain ⟨hP1, hK1, hD1⟩ := hB
    rw [ht] at hP1
    have hK1 := va_K.moved hvm.symm hK1
    obtain ⟨hP, hD⟩ := va_join (wr := []) (w1 := [(h0, .inr (8, [.ref hRows, .ref hMer, .ref hEra, .ref hTape, .ref hRea, .ref hTra, .ref hWor, .ref hPla, .ref hMod, .ref hHe1, .ref hHe2, .int 0, .int 0, .int 0, .int 0, .int (-1), .int w_18]))]) hP hD [0] [] rfl rfl (by decide) (by decide) hk1 hFc hP1 hD1
    have hK := (hK.sub (tys' := []) [] rfl).app hK1
    generalize H1 = H at hP hS ⊢
    have hP : va_P (dC, dI) vwCl [(h0, .inr (8, [.ref hRows, .ref hMer, .ref hEra, .ref hTape, .ref hRea, .ref hTra, .ref hWor, .ref hPla, .ref hMod, .ref hHe1, .ref hHe2, .int 0, .int 0, .int 0, .int 0, .int (-1), .int w_18]))] H := hP
    have hD : va_D A [(h0, .inr (8, [.ref hRows, .ref hMer, .ref hEra, .ref hTape, .ref hRea, .ref hTra, .ref hWor, .ref hPla, .ref hMod, .ref hHe1, .ref hHe2, .int 0, .int 0, .int 0, .int 0, .int (-1), .int w_18]))] := hD
    have hK : va_K (dC, dI) vwCl [] s := hK
    obtain rfl : (-1) = r_15 := hw_17.symm
    have hans : ((-1) : Int32).toInt = (-1) := (by decide)
    exact W.iret (v := (-1)) hx hb hr (fun t ht hW => ⟨⟨(-1), (), rfl, by first | omega | (dsimp only; omega), trivial⟩, hS.F ht⟩) hS.2.2 dX8_law_12

set_option maxHeartbeats 4000000 in
set_option maxRecDepth 100000 in
theorem c_X8_limit (l : Launch) (dC : Nat → ClassId) (dI : Nat → Nat → Nat) (sz : Nat) (h0 : Nat) (hRows : Nat) (hMer : Nat) (hEra : Nat) (hTape : Nat) (hRea : Nat) (hTra : Nat) (hWor : Nat) (hPla : Nat) (hMod : Nat) (hHe1 : Nat) (hHe2 : Nat) (tt : Int32) (n : Int32)  : Met l yX8_limit wsX8_limit ({ frames := 2, cells := 0, slots := 0, locals := 42 }) (va_Pc [.ref h0, .int tt, .int n] (fun U => U.heap.size = sz ∧ va_P (dC, dI) vwCl [(h0, .inr (8, [.ref hRows, .ref hMer, .ref hEra, .ref hTape, .ref hRea, .ref hTra, .ref hWor, .ref hPla, .ref hMod, .ref hHe1, .ref hHe2, .int 0, .int 0, .int 0, .int 0, .int (-1), .int 0]))] U.heap ∧ va_K (dC, dI) vwCl [] U ∧ va_D (fun _ => True) [(h0, .inr (8, [.ref hRows, .ref hMer, .ref hEra, .ref hTape, .ref hRea, .ref hTra, .ref hWor, .ref hPla, .ref hMod, .ref hHe1, .ref hHe2, .int 0, .int 0, .int 0, .int 0, .int (-1), .int 0]))] ∧ nw_ok U)) (va_Qi (fun (r : Int32) (_ : Unit) => (0 ≤ n.toInt ∧ n.toInt ≤ 100000 → r.toInt = (-2)) ∧ (¬ (0 ≤ n.toInt ∧ n.toInt ≤ 100000) → r.toInt = (-1))) (fun (_ : Unit) (t : State) => True) (va_A [(h0, .inr (8, [.ref hRows, .ref hMer, .ref hEra, .ref hTape, .ref hRea, .ref hTra, .ref hWor, .ref hPla, .ref hMod, .ref hHe1, .ref hHe2, .int 0, .int 0, .int 0, .int 0, .int (-1), .int 0]))] sz)) 0 0 (va_A [(h0, .inr (8, [.ref hRows, .ref hMer, .ref hEra, .ref hTape, .ref hRea, .ref hTra, .ref hWor, .ref hPla, .ref hMod, .ref hHe1, .ref hHe2, .int 0, .int 0, .int 0, .int 0, .int (-1), .int 0]))] sz) := by
  refine Met.ofW (cc := cX8_limit) (maxL := 5) (ret := (some .int)) (by decide) rfl ?_
  intro p e s m args below meth c s₁ B hml hv
  obtain ⟨rfl, hsz, hP, hK, hD0, hN⟩ := hv
  have hx := B.exec
  have hb := B.bytes
  have hr := B.returns
  have hts := atoms_spec (ws := wsX8_limit) B.pre
  have hown : s.vm.findClass RX8 = some m.cls := findClass_of_methodNamed B.named
  have hlocks := B.notSynchronized
  subst hsz
  have hD := hD0.self (sz := s.heap.size)
  generalize hAe : va_A [(h0, .inr (8, [.ref hRows, .ref hMer, .ref hEra, .ref hTape, .ref hRea, .ref hTra, .ref hWor, .ref hPla, .ref hMod, .ref hHe1, .ref hHe2, .int 0, .int 0, .int 0, .int 0, .int (-1), .int 0]))] s.heap.size = A at hD ⊢
  have hA : ∀ q : Nat, s.heap.size ≤ q → A q := fun q h => by rw [← hAe]; exact Or.inr h
  have hS : va_S A s.heap s.heap [] := va_S.rf
  have hP : va_P (dC, dI) vwCl [(h0, .inr (8, [.ref hRows, .ref hMer, .ref hEra, .ref hTape, .ref hRea, .ref hTra, .ref hWor, .ref hPla, .ref hMod, .ref hHe1, .ref hHe2, .int 0, .int 0, .int 0, .int 0, .int (-1), .int 0]))] s.heap := hP
  have hl := lv_entry ([.ref h0, .int tt, .int n]) (n := 5) (Nat.le_of_ble_eq_true rfl)
  rw [lg_entry_eq]
  generalize (lg_sl ([.ref h0, .int tt, .int n]) ++ List.replicate (5 - (lg_sl ([.ref h0, .int tt, .int n])).length) Slot.unset).toArray = ls at hl ⊢
  have hl : lv_has ls 5 [(0, .ref h0), (1, .int tt), (2, .int n)] := hl
  refine lv_iload_n hx hb dX8_limit_0 rfl (lv_at hl 2 rfl) ?_
  have hPc := hP.sub (ws' := []) [] rfl
  have hDc := hD.sub (ws' := []) [] (by decide) rfl
  have hKc := hK.sub (tys' := []) [] rfl
  have hFc := va_free (wc := []) hD hS hA [] rfl
  refine va_calli (va_runS (As := [.int n]) (rest := []) ⟨hx, hb, hml, hown, hts⟩ (c_X8_isMoment l dC dI s.heap.size n ) (va_cwS 1 hts gX8_limit_X8_isMoment rfl rfl rfl (by decide +kernel) ⟨Nat.le_of_ble_eq_true rfl, Nat.le_of_ble_eq_true rfl⟩) ⟨fun a U g mk q => by obtain ⟨q0, q1, qP, qK, qD, qN⟩ := q; exact ⟨q0, q1, qP, va_K.moved (u := U) (U := U.calling g mk a) (Vm.Alike.refl U.vm) qK, qD, qN.same rfl⟩, fun U hU hW => ⟨rfl, by rw [hU], by rw [hU]; exact hPc, va_K.moved hW.alike hKc, hDc.weaken (fun _ _ _ _ => trivial), hN.warm hW⟩⟩ rfl rfl hl.1 rfl (lv_room (Nat.le_of_ble_eq_true rfl)) dX8_limit_1 ⟨Nat.le_of_ble_eq_true rfl, Nat.le_of_ble_eq_true rfl⟩) hS (fun q _ h => hFc q h) hFc (fun r_1 u_2 t H1 locs ht hvm hw_3 hB hz1 hk1 hS => ?_)
  try dsimp only at hw_3
  obtain ⟨hP1, hK1, hD1⟩ := hB
  rw [ht] at hP1
  have hK1 := va_K.moved hvm.symm hK1
  obtain ⟨hP, hD⟩ := va_join (wr := [(h0, .inr (8, [.ref hRows, .ref hMer, .ref hEra, .ref hTape, .ref hRea, .ref hTra, .ref hWor, .ref hPla, .ref hMod, .ref hHe1, .ref hHe2, .int 0, .int 0, .int 0, .int 0, .int (-1), .int 0]))]) (w1 := []) hP hD [] [0] rfl rfl (by decide) (by decide) hk1 hFc hP1 hD1
  have hK := (hK.sub (tys' := []) [] rfl).app hK1
  generalize H1 = H at hP hS ⊢
  have hP : va_P (dC, dI) vwCl [(h0, .inr (8, [.ref hRows, .ref hMer, .ref hEra, .ref hTape, .ref hRea, .ref hTra, .ref hWor, .ref hPla, .ref hMod, .ref hHe1, .ref hHe2, .int 0, .int 0, .int 0, .int 0, .int (-1), .int 0]))] H := hP
  have hD : va_D A [(h0, .inr (8, [.ref hRows, .ref hMer, .ref hEra, .ref hTape, .ref hRea, .ref hTra, .ref hWor, .ref hPla, .ref hMod, .ref hHe1, .ref hHe2, .int 0, .int 0, .int 0, .int 0, .int (-1), .int 0]))] := hD
  have hK : va_K (dC, dI) vwCl [] s := hK
  refine lv_if_ne (tgt := 13) hx hb dX8_limit_4 (by decide) (fun c_4 => ?_) (fun c_4 => ?_)
  · have dc_4 : ¬ r_1.toInt = 0 := jI_ne c_4 rfl (by decide)
    refine lv_aload_n hx hb dX8_limit_13 rfl (lv_at hl 0 rfl) ?_
    refine lv_iload_n hx hb dX8_limit_14 rfl (lv_at hl 1 rfl) ?_
    have hPc := hP.sub (ws' := [(h0, .inr (8, [.ref hRows, .ref hMer, .ref hEra, .ref hTape, .ref hRea, .ref hTra, .ref hWor, .ref hPla, .ref hMod, .ref hHe1, .ref hHe2, .int 0, .int 0, .int 0, .int 0, .int (-1), .int 0]))]) [0] rfl
    have hDc := hD.sub (ws' := [(h0, .inr (8, [.ref hRows, .ref hMer, .ref hEra, .ref hTape, .ref hRea, .ref hTra, .ref hWor, .ref hPla, .ref hMod, .ref hHe1, .ref hHe2, .int 0, .int 0, .int 0, .int 0, .int (-1), .int 0]))]) [0] (by decide) rfl
    have hKc := hK.sub (tys' := []) [] rfl
    have hFc := va_free (wc := [(h0, .inr (8, [.ref hRows, .ref hMer, .ref hEra, .ref hTape, .ref hRea, .ref hTra, .ref hWor, .ref hPla, .ref hMod, .ref hHe1, .ref hHe2, .int 0, .int 0, .int 0, .int 0, .int (-1), .int 0]))]) hD hS hA [0] rfl
    refine va_callq (va_runV (As := [.int tt]) (rest := []) ⟨hx, hb, hml, hown, hts⟩ (c_X8_traitAt l dC dI H.size h0 hRows hMer hEra hTape hRea hTra hWor hPla hMod hHe1 hHe2 0 0 0 (-1) 0 tt ) (cwV 1 hts gX8_limit_X8_traitAt rfl rfl rfl (by decide +kernel) ⟨Nat.le_of_ble_eq_true rfl, Nat.le_of_ble_eq_true rfl⟩) ⟨fun a U g mk q => by obtain ⟨q0, q1, qP, qK, qD, qN⟩ := q; exact ⟨q0, q1, qP, va_K.moved (u := U) (U := U.calling g mk a) (Vm.Alike.refl U.vm) qK, qD, qN.same rfl⟩, va_recv hKc hPc (ci := 8) (q0 := 0) rfl rfl, fun U hU hW => ⟨rfl, by rw [hU], by rw [hU]; exact hPc, va_K.moved hW.alike hKc, hDc.weaken (fun _ _ _ _ => trivial), hN.warm hW⟩⟩ rfl rfl hl.1 rfl (lv_room (Nat.le_of_ble_eq_true rfl)) dX8_limit_15 ⟨Nat.le_of_ble_eq_true rfl, Nat.le_of_ble_eq_true rfl⟩) hS (fun q _ h => hFc q h) hFc (fun r_5 u_6 t H1 locs ht hvm hw_7 hB hz1 hk1 hS => ?_)
    try dsimp only at hw_7
    obtain ⟨hP1, hK1, hD1⟩ := hB
    rw [ht] at hP1
    have hK1 := va_K.moved hvm.symm hK1
    obtain ⟨hP, hD⟩ := va_join (wr := []) (w1 := [(h0, .inr (8, [.ref hRows, .ref hMer, .ref hEra, .ref hTape, .ref hRea, .ref hTra, .ref hWor, .ref hPla, .ref hMod, .ref hHe1, .ref hHe2, .int 0, .int 0, .int 0, .int 0, .int (-1), .int 0]))]) hP hD [0] [] rfl rfl (by decide) (by decide) hk1 hFc hP1 hD1
    have hK := (hK.sub (tys' := []) [] rfl).app hK1
    generalize H1 = H at hP hS ⊢
    have hP : va_P (dC, dI) vwCl [(h0, .inr (8, [.ref hRows, .ref hMer, .ref hEra, .ref hTape, .ref hRea, .ref hTra, .ref hWor, .ref hPla, .ref hMod, .ref hHe1, .ref hHe2, .int 0, .int 0, .int 0, .int 0, .int (-1), .int 0]))] H := hP
    have hD : va_D A [(h0, .inr (8, [.ref hRows, .ref hMer, .ref hEra, .ref hTape, .ref hRea, .ref hTra, .ref hWor, .ref hPla, .ref hMod, .ref hHe1, .ref hHe2, .int 0, .int 0, .int 0, .int 0, .int (-1), .int 0]))] := hD
    have hK : va_K (dC, dI) vwCl [] s := hK
    obtain rfl : none = r_5 := hw_7.symm
    refine W.eq (g2 := F0 m 18 ls [.null]) rfl ?_
    refine lv_astore_nN (lv' := [(3, .null), (0, .ref h0), (1, .int tt), (2, .int n)]) hx hb dX8_limit_18 rfl hl (by decide) rfl (fun ls hl => ?_)
    refine lv_aload_nN hx hb dX8_limit_19 rfl (lv_at hl 0 rfl) ?_
    refine lv_ifnonnullN hx hb dX8_limit_20 ?_
    refine lv_aload_n hx hb dX8_limit_23 rfl (lv_at hl 1 rfl) ?_
    refine lv_bipush (v := (-2)) hx hb dX8_limit_24 (by decide) ?_
    have hk_8 : ((-2) : Int32).toInt = (-2) := by decide
    have hk_9 : (0 : Int32).toInt = 0 := by decide
    have hk_10 : ((-1) : Int32).toInt = (-1) := by decide
    have hPc := hP.sub (ws' := [(h0, .inr (8, [.ref hRows, .ref hMer, .ref hEra, .ref hTape, .ref hRea, .ref hTra, .ref hWor, .ref hPla, .ref hMod, .ref hHe1, .ref hHe2, .int 0, .int 0, .int 0, .int 0, .int (-1), .int 0]))]) [0] rfl
    have hDc := hD.sub (ws' := [(h0, .inr (8, [.ref hRows, .ref hMer, .ref hEra, .ref hTape, .ref hRea, .ref hTra, .ref hWor, .ref hPla, .ref hMod, .ref hHe1, .ref hHe2, .int 0, .int 0, .int 0, .int 0, .int (-1), .int 0]))]) [0] (by decide) rfl
    have hKc := hK.sub (tys' := []) [] rfl
    have hFc := va_free (wc := [(h0, .inr (8, [.ref hRows, .ref hMer, .ref hEra, .ref hTape, .ref hRea, .ref hTra, .ref hWor, .ref hPla, .ref hMod, .ref hHe1, .ref hHe2, .int 0, .int 0, .int 0, .int 0, .int (-1), .int 0]))]) hD hS hA [0] rfl
    refine va_calli (va_runV (As := [.int (-2)]) (rest := []) ⟨hx, hb, hml, hown, hts⟩ (c_X8_settle l dC dI H.size h0 hRows hMer hEra hTape hRea hTra hWor hPla hMod hHe1 hHe2 0 0 0 0 (-1) 0 (-2) ) (cwV 1 hts gX8_limit_X8_settle rfl rfl rfl (by decide +kernel) ⟨Nat.le_of_ble_eq_true rfl, Nat.le_of_ble_eq_true rfl⟩) ⟨fun a U g mk q => by obtain ⟨q0, q1, qP, qK, qD, qN⟩ := q; exact ⟨q0, q1, qP, va_K.moved (u := U) (U := U.calling g mk a) (Vm.Alike.refl U.vm) qK, qD, qN.same rfl⟩, va_recv hKc hPc (ci := 8) (q0 := 0) rfl rfl, fun U hU hW => ⟨rfl, by rw [hU], by rw [hU]; exact hPc, va_K.moved hW.alike hKc, hDc.weaken (fun _ _ _ _ => trivial), hN.warm hW⟩⟩ rfl rfl hl.1 rfl (lv_room (Nat.le_of_ble_eq_true rfl)) dX8_limit_26 ⟨Nat.le_of_ble_eq_true rfl, Nat.le_of_ble_eq_true rfl⟩) hS (fun q _ h => hFc q h) hFc (fun r_11 u_12 t H1 locs ht hvm hw_13 hB hz1 hk1 hS => ?_)
    obtain ⟨w_14, rfl⟩ : ∃ z, z = u_12 := ⟨_, rfl⟩
    try dsimp only at hw_13
    obtain ⟨hP1, hK1, hD1⟩ := hB
    rw [ht] at hP1
    have hK1 := va_K.moved hvm.symm hK1
    obtain ⟨hP, hD⟩ := va_join (wr := []) (w1 := [(h0, .inr (8, [.ref hRows, .ref hMer, .ref hEra, .ref hTape, .ref hRea, .ref hTra, .ref hWor, .ref hPla, .ref hMod, .ref hHe1, .ref hHe2, .int 0, .int 0, .int 0, .int 0, .int (-1), .int w_14]))]) hP hD [0] [] rfl rfl (by decide) (by decide) hk1 hFc hP1 hD1
    have hK := (hK.sub (tys' := []) [] rfl).app hK1
    generalize H1 = H at hP hS ⊢
    have hP : va_P (dC, dI) vwCl [(h0, .inr (8, [.ref hRows, .ref hMer, .ref hEra, .ref hTape, .ref hRea, .ref hTra, .ref hWor, .ref hPla, .ref hMod, .ref hHe1, .ref hHe2, .int 0, .int 0, .int 0, .int 0, .int (-1), .int w_14]))] H := hP
    have hD : va_D A [(h0, .inr (8, [.ref hRows, .ref hMer, .ref hEra, .ref hTape, .ref hRea, .ref hTra, .ref hWor, .ref hPla, .ref hMod, .ref hHe1, .ref hHe2, .int 0, .int 0, .int 0, .int 0, .int (-1), .int w_14]))] := hD
    have hK : va_K (dC, dI) vwCl [] s := hK
    obtain rfl : (-2) = r_11 := hw_13.symm
    have hans : ((-2) : Int32).toInt = (-2) := (by decide)
    exact W.iret (v := (-2)) hx hb hr (fun t ht hW => ⟨⟨(-2), (), rfl, by first | omega | (dsimp only; omega), trivial⟩, hS.F ht⟩) hS.2.2 dX8_limit_29
  · have dc_4 : r_1.toInt = 0 := jI_eq c_4 rfl (by decide)
    refine lv_aload_n hx hb dX8_limit_7 rfl (lv_at hl 0 rfl) ?_
    refine lv_iconst (v := (-1)) hx hb dX8_limit_8 (by decide) ?_
    have hk_15 : ((-1) : Int32).toInt = (-1) := by decide
    have hk_16 : (0 : Int32).toInt = 0 := by decide
    have hPc := hP.sub (ws' := [(h0, .inr (8, [.ref hRows, .ref hMer, .ref hEra, .ref hTape, .ref hRea, .ref hTra, .ref hWor, .ref hPla, .ref hMod, .ref hHe1, .ref hHe2, .int 0, .int 0, .int 0, .int 0, .int (-1), .int 0]))]) [0] rfl
    have hDc := hD.sub (ws' := [(h0, .inr (8, [.ref hRows, .ref hMer, .ref hEra, .ref hTape, .ref hRea, .ref hTra, .ref hWor, .ref hPla, .ref hMod, .ref hHe1, .ref hHe2, .int 0, .int 0, .int 0, .int 0, .int (-1), .int 0]))]) [0] (by decide) rfl
    have hKc := hK.sub (tys' := []) [] rfl
    have hFc := va_free (wc := [(h0, .inr (8, [.ref hRows, .ref hMer, .ref hEra, .ref hTape, .ref hRea, .ref hTra, .ref hWor, .ref hPla, .ref hMod, .ref hHe1, .ref hHe2, .int 0, .int 0, .int 0, .int 0, .int (-1), .int 0]))]) hD hS hA [0] rfl
    refine va_calli (va_runV (As := [.int (-1)]) (rest := []) ⟨hx, hb, hml, hown, hts⟩ (c_X8_settle l dC dI H.size h0 hRows hMer hEra hTape hRea hTra hWor hPla hMod hHe1 hHe2 0 0 0 0 (-1) 0 (-1) ) (cwV 1 hts gX8_limit_X8_settle rfl rfl rfl (by decide +kernel) ⟨Nat.le_of_ble_eq_true rfl, Nat.le_of_ble_eq_true rfl⟩) ⟨fun a U g mk q => by obtain ⟨q0, q1, qP, qK, qD, qN⟩ := q; exact ⟨q0, q1, qP, va_K.moved (u := U) (U := U.calling g mk a) (Vm.Alike.refl U.vm) qK, qD, qN.same rfl⟩, va_recv hKc hPc (ci := 8) (q0 := 0) rfl rfl, fun U hU hW => ⟨rfl, by rw [hU], by rw [hU]; exact hPc, va_K.moved hW.alike hKc, hDc.weaken (fun _ _ _ _ => trivial), hN.warm hW⟩⟩ rfl rfl hl.1 rfl (lv_room (Nat.le_of_ble_eq_true rfl)) dX8_limit_9 ⟨Nat.le_of_ble_eq_true rfl, Nat.le_of_ble_eq_true rfl⟩) hS (fun q _ h => hFc q h) hFc (fun r_17 u_18 t H1 locs ht hvm hw_19 hB hz1 hk1 hS => ?_)
    obtain ⟨w_20, rfl⟩ : ∃ z, z = u_18 := ⟨_, rfl⟩
    try dsimp only at hw_19
    obtain ⟨hP1, hK1, hD1⟩ := hB
    rw [ht] at hP1
    have hK1 := va_K.moved hvm.symm hK1
    obtain ⟨hP, hD⟩ := va_join (wr := []) (w1 := [(h0, .inr (8, [.ref hRows, .ref hMer, .ref hEra, .ref hTape, .ref hRea, .ref hTra, .ref hWor, .ref hPla, .ref hMod, .ref hHe1, .ref hHe2, .int 0, .int 0, .int 0, .int 0, .int (-1), .int w_20]))]) hP hD [0] [] rfl rfl (by decide) (by decide) hk1 hFc hP1 hD1
    have hK := (hK.sub (tys' := []) [] rfl).app hK1
    generalize H1 = H at hP hS ⊢
    have hP : va_P (dC, dI) vwCl [(h0, .inr (8, [.ref hRows, .ref hMer, .ref hEra, .ref hTape, .ref hRea, .ref hTra, .ref hWor, .ref hPla, .ref hMod, .ref hHe1, .ref hHe2, .int 0, .int 0, .int 0, .int 0, .int (-1), .int w_20]))] H := hP
    have hD : va_D A [(h0, .inr (8, [.ref hRows, .ref hMer, .ref hEra, .ref hTape, .ref hRea, .ref hTra, .ref hWor, .ref hPla, .ref hMod, .ref hHe1, .ref hHe2, .int 0, .int 0, .int 0, .int 0, .int (-1), .int w_20]))] := hD
    have hK : va_K (dC, dI) vwCl [] s := hK
    obtain rfl : (-1) = r_17 := hw_19.symm
    have hans : ((-1) : Int32).toInt = (-1) := (by decide)
    exact W.iret (v := (-1)) hx hb hr (fun t ht hW => ⟨⟨(-1), (), rfl, by first | omega | (dsimp only; omega), trivial⟩, hS.F ht⟩) hS.2.2 dX8_limit_12

set_option maxHeartbeats 4000000 in
set_option maxRecDepth 100000 in
theorem c_X8_freshen (l : Launch) (dC : Nat → ClassId) (dI : Nat → Nat → Nat) (sz : Nat) (h0 : Nat) (hRows : Nat) (hMer : Nat) (hEra : Nat) (hTape : Nat) (hRea : Nat) (hTra : Nat) (hWor : Nat) (hPla : Nat) (hMod : Nat) (hHe1 : Nat) (hHe2 : Nat) (tt : Int32)  : Met l yX8_freshen wsX8_freshen ({ frames := 2, cells := 0, slots := 0, locals := 42 }) (va_Pc [.ref h0, .int tt] (fun U => U.heap.size = sz ∧ va_P (dC, dI) vwCl [(h0, .inr (8, [.ref hRows, .ref hMer, .ref hEra, .ref hTape, .ref hRea, .ref hTra, .ref hWor, .ref hPla, .ref hMod, .ref hHe1, .ref hHe2, .int 0, .int 0, .int 0, .int 0, .int (-1), .int 0]))] U.heap ∧ va_K (dC, dI) vwCl [] U ∧ va_D (fun _ => True) [(h0, .inr (8, [.ref hRows, .ref hMer, .ref hEra, .ref hTape, .ref hRea, .ref hTra, .ref hWor, .ref hPla, .ref hMod, .ref hHe1, .ref hHe2, .int 0, .int 0, .int 0, .int 0, .int (-1), .int 0]))] ∧ nw_ok U)) (va_Qi (fun (r : Int32) (_ : Unit) => r = (-2)) (fun (_ : Unit) (t : State) => True) (va_A [(h0, .inr (8, [.ref hRows, .ref hMer, .ref hEra, .ref hTape, .ref hRea, .ref hTra, .ref hWor, .ref hPla, .ref hMod, .ref hHe1, .ref hHe2, .int 0, .int 0, .int 0, .int 0, .int (-1), .int 0]))] sz)) 0 0 (va_A [(h0, .inr (8, [.ref hRows, .ref hMer, .ref hEra, .ref hTape, .ref hRea, .ref hTra, .ref hWor, .ref hPla, .ref hMod, .ref hHe1, .ref hHe2, .int 0, .int 0, .int 0, .int 0, .int (-1), .int 0]))] sz) := by
  refine Met.ofW (cc := cX8_freshen) (maxL := 5) (ret := (some .int)) (by decide) rfl ?_
  intro p e s m args below meth c s₁ B hml hv
  obtain ⟨rfl, hsz, hP, hK, hD0, hN⟩ := hv
  have hx := B.exec
  have hb := B.bytes
  have hr := B.returns
  have hts := atoms_spec (ws := wsX8_freshen) B.pre
  have hown : s.vm.findClass RX8 = some m.cls := findClass_of_methodNamed B.named
  have hlocks := B.notSynchronized
  subst hsz
  have hD := hD0.self (sz := s.heap.size)
  generalize hAe : va_A [(h0, .inr (8, [.ref hRows, .ref hMer, .ref hEra, .ref hTape, .ref hRea, .ref hTra, .ref hWor, .ref hPla, .ref hMod, .ref hHe1, .ref hHe2, .int 0, .int 0, .int 0, .int 0, .int (-1), .int 0]))] s.heap.size = A at hD ⊢
  have hA : ∀ q : Nat, s.heap.size ≤ q → A q := fun q h => by rw [← hAe]; exact Or.inr h
  have hS : va_S A s.heap s.heap [] := va_S.rf
  have hP : va_P (dC, dI) vwCl [(h0, .inr (8, [.ref hRows, .ref hMer, .ref hEra, .ref hTape, .ref hRea, .ref hTra, .ref hWor, .ref hPla, .ref hMod, .ref hHe1, .ref hHe2, .int 0, .int 0, .int 0, .int 0, .int (-1), .int 0]))] s.heap := hP
  have hl := lv_entry ([.ref h0, .int tt]) (n := 5) (Nat.le_of_ble_eq_true rfl)
  rw [lg_entry_eq]
  generalize (lg_sl ([.ref h0, .int tt]) ++ List.replicate (5 - (lg_sl ([.ref h0, .int tt])).length) Slot.unset).toArray = ls at hl ⊢
  have hl : lv_has ls 5 [(0, .ref h0), (1, .int tt)] := hl
  refine lv_aload_n hx hb dX8_freshen_0 rfl (lv_at hl 0 rfl) ?_
  refine lv_iload_n hx hb dX8_freshen_1 rfl (lv_at hl 1 rfl) ?_
  have hPc := hP.sub (ws' := [(h0, .inr (8, [.ref hRows, .ref hMer, .ref hEra, .ref hTape, .ref hRea, .ref hTra, .ref hWor, .ref hPla, .ref hMod, .ref hHe1, .ref hHe2, .int 0, .int 0, .int 0, .int 0, .int (-1), .int 0]))]) [0] rfl
  have hDc := hD.sub (ws' := [(h0, .inr (8, [.ref hRows, .ref hMer, .ref hEra, .ref hTape, .ref hRea, .ref hTra, .ref hWor, .ref hPla, .ref hMod, .ref hHe1, .ref hHe2, .int 0, .int 0, .int 0, .int 0, .int (-1), .int 0]))]) [0] (by decide) rfl
  have hKc := hK.sub (tys' := []) [] rfl
  have hFc := va_free (wc := [(h0, .inr (8, [.ref hRows, .ref hMer, .ref hEra, .ref hTape, .ref hRea, .ref hTra, .ref hWor, .ref hPla, .ref hMod, .ref hHe1, .ref hHe2, .int 0, .int 0, .int 0, .int 0, .int (-1), .int 0]))]) hD hS hA [0] rfl
  refine va_callq (va_runV (As := [.int tt]) (rest := []) ⟨hx, hb, hml, hown, hts⟩ (c_X8_traitAt l dC dI s.heap.size h0 hRows hMer hEra hTape hRea hTra hWor hPla hMod hHe1 hHe2 0 0 0 (-1) 0 tt ) (cwV 1 hts gX8_freshen_X8_traitAt rfl rfl rfl (by decide +kernel) ⟨Nat.le_of_ble_eq_true rfl, Nat.le_of_ble_eq_true rfl⟩) ⟨fun a U g mk q => by obtain ⟨q0, q1, qP, qK, qD, qN⟩ := q; exact ⟨q0, q1, qP, va_K.moved (u := U) (U := U.calling g mk a) (Vm.Alike.refl U.vm) qK, qD, qN.same rfl⟩, va_recv hKc hPc (ci := 8) (q0 := 0) rfl rfl, fun U hU hW => ⟨rfl, by rw [hU], by rw [hU]; exact hPc, va_K.moved hW.alike hKc, hDc.weaken (fun _ _ _ _ => trivial), hN.warm hW⟩⟩ rfl rfl hl.1 rfl (lv_room (Nat.le_of_ble_eq_true rfl)) dX8_freshen_2 ⟨Nat.le_of_ble_eq_true rfl, Nat.le_of_ble_eq_true rfl⟩) hS (fun q _ h => hFc q h) hFc (fun r_1 u_2 t H1 locs ht hvm hw_3 hB hz1 hk1 hS => ?_)
  try dsimp only at hw_3
  obtain ⟨hP1, hK1, hD1⟩ := hB
  rw [ht] at hP1
  have hK1 := va_K.moved hvm.symm hK1
  obtain ⟨hP, hD⟩ := va_join (wr := []) (w1 := [(h0, .inr (8, [.ref hRows, .ref hMer, .ref hEra, .ref hTape, .ref hRea, .ref hTra, .ref hWor, .ref hPla, .ref hMod, .ref hHe1, .ref hHe2, .int 0, .int 0, .int 0, .int 0, .int (-1), .int 0]))]) hP hD [0] [] rfl rfl (by decide) (by decide) hk1 hFc hP1 hD1
  have hK := (hK.sub (tys' := []) [] rfl).app hK1
  generalize H1 = H at hP hS ⊢
  have hP : va_P (dC, dI) vwCl [(h0, .inr (8, [.ref hRows, .ref hMer, .ref hEra, .ref hTape, .ref hRea, .ref hTra, .ref hWor, .ref hPla, .ref hMod, .ref hHe1, .ref hHe2, .int 0, .int 0, .int 0, .int 0, .int (-1), .int 0]))] H := hP
  have hD : va_D A [(h0, .inr (8, [.ref hRows, .ref hMer, .ref hEra, .ref hTape, .ref hRea, .ref hTra, .ref hWor, .ref hPla, .ref hMod, .ref hHe1, .ref hHe2, .int 0, .int 0, .int 0, .int 0, .int (-1), .int 0]))] := hD
  have hK : va_K (dC, dI) vwCl [] s := hK
  obtain rfl : none = r_1 := hw_3.symm
  refine W.eq (g2 := F0 m 5 ls [.null]) rfl ?_
  refine lv_astore_nN (lv' := [(2, .null), (0, .ref h0), (1, .int tt)]) hx hb dX8_freshen_5 rfl hl (by decide) rfl (fun ls hl => ?_)
  refine lv_aload_nN hx hb dX8_freshen_6 rfl (lv_at hl 0 rfl) ?_
  refine lv_ifnonnullN hx hb dX8_freshen_7 ?_
  refine lv_aload_n hx hb dX8_freshen_10 rfl (lv_at hl 1 rfl) ?_
  refine lv_bipush (v := (-2)) hx hb dX8_freshen_11 (by decide) ?_
  have hk_4 : ((-2) : Int32).toInt = (-2) := by decide
  have hk_5 : (0 : Int32).toInt = 0 := by decide
  have hk_6 : ((-1) : Int32).toInt = (-1) := by decide
  have hPc := hP.sub (ws' := [(h0, .inr (8, [.ref hRows, .ref hMer, .ref hEra, .ref hTape, .ref hRea, .ref hTra, .ref hWor, .ref hPla, .ref hMod, .ref hHe1, .ref hHe2, .int 0, .int 0, .int 0, .int 0, .int (-1), .int 0]))]) [0] rfl
  have hDc := hD.sub (ws' := [(h0, .inr (8, [.ref hRows, .ref hMer, .ref hEra, .ref hTape, .ref hRea, .ref hTra, .ref hWor, .ref hPla, .ref hMod, .ref hHe1, .ref hHe2, .int 0, .int 0, .int 0, .int 0, .int (-1), .int 0]))]) [0] (by decide) rfl
  have hKc := hK.sub (tys' := []) [] rfl
  have hFc := va_free (wc := [(h0, .inr (8, [.ref hRows, .ref hMer, .ref hEra, .ref hTape, .ref hRea, .ref hTra, .ref hWor, .ref hPla, .ref hMod, .ref hHe1, .ref hHe2, .int 0, .int 0, .int 0, .int 0, .int (-1), .int 0]))]) hD hS hA [0] rfl
  refine va_calli (va_runV (As := [.int (-2)]) (rest := []) ⟨hx, hb, hml, hown, hts⟩ (c_X8_settle l dC dI H.size h0 hRows hMer hEra hTape hRea hTra hWor hPla hMod hHe1 hHe2 0 0 0 0 (-1) 0 (-2) ) (cwV 1 hts gX8_freshen_X8_settle rfl rfl rfl (by decide +kernel) ⟨Nat.le_of_ble_eq_true rfl, Nat.le_of_ble_eq_true rfl⟩) ⟨fun a U g mk q => by obtain ⟨q0, q1, qP, qK, qD, qN⟩ := q; exact ⟨q0, q1, qP, va_K.moved (u := U) (U := U.calling g mk a) (Vm.Alike.refl U.vm) qK, qD, qN.same rfl⟩, va_recv hKc hPc (ci := 8) (q0 := 0) rfl rfl, fun U hU hW => ⟨rfl, by rw [hU], by rw [hU]; exact hPc, va_K.moved hW.alike hKc, hDc.weaken (fun _ _ _ _ => trivial), hN.warm hW⟩⟩ rfl rfl hl.1 rfl (lv_room (Nat.le_of_ble_eq_true rfl)) dX8_freshen_13 ⟨Nat.le_of_ble_eq_true rfl, Nat.le_of_ble_eq_true rfl⟩) hS (fun q _ h => hFc q h) hFc (fun r_7 u_8 t H1 locs ht hvm hw_9 hB hz1 hk1 hS => ?_)
  obtain ⟨w_10, rfl⟩ : ∃ z, z = u_8 := ⟨_, rfl⟩
  try dsimp only at hw_9
  obtain ⟨hP1, hK1, hD1⟩ := hB
  rw [ht] at hP1
  have hK1 := va_K.moved hvm.symm hK1
  obtain ⟨hP, hD⟩ := va_join (wr := []) (w1 := [(h0, .inr (8, [.ref hRows, .ref hMer, .ref hEra, .ref hTape, .ref hRea, .ref hTra, .ref hWor, .ref hPla, .ref hMod, .ref hHe1, .ref hHe2, .int 0, .int 0, .int 0, .int 0, .int (-1), .int w_10]))]) hP hD [0] [] rfl rfl (by decide) (by decide) hk1 hFc hP1 hD1
  have hK := (hK.sub (tys' := []) [] rfl).app hK1
  generalize H1 = H at hP hS ⊢
  have hP : va_P (dC, dI) vwCl [(h0, .inr (8, [.ref hRows, .ref hMer, .ref hEra, .ref hTape, .ref hRea, .ref hTra, .ref hWor, .ref hPla, .ref hMod, .ref hHe1, .ref hHe2, .int 0, .int 0, .int 0, .int 0, .int (-1), .int w_10]))] H := hP
  have hD : va_D A [(h0, .inr (8, [.ref hRows, .ref hMer, .ref hEra, .ref hTape, .ref hRea, .ref hTra, .ref hWor, .ref hPla, .ref hMod, .ref hHe1, .ref hHe2, .int 0, .int 0, .int 0, .int 0, .int (-1), .int w_10]))] := hD
  have hK : va_K (dC, dI) vwCl [] s := hK
  obtain rfl : (-2) = r_7 := hw_9.symm
  exact W.iret (v := (-2)) hx hb hr (fun t ht hW => ⟨⟨(-2), (), rfl, rfl, trivial⟩, hS.F ht⟩) hS.2.2 dX8_freshen_16

set_option maxHeartbeats 4000000 in
set_option maxRecDepth 100000 in
theorem c_X8_kept (l : Launch) (dC : Nat → ClassId) (dI : Nat → Nat → Nat) (sz : Nat) (h0 : Nat) (hRows : Nat) (hMer : Nat) (hEra : Nat) (hTape : Nat) (hRea : Nat) (hTra : Nat) (hWor : Nat) (hPla : Nat) (hMod : Nat) (hHe1 : Nat) (hHe2 : Nat) (tt : Int32) (pp : Int32)  : Met l yX8_kept wsX8_kept ({ frames := 1, cells := 0, slots := 0, locals := 21 }) (va_Pc [.ref h0, .int tt, .int pp] (fun U => U.heap.size = sz ∧ va_P (dC, dI) vwCl [(h0, .inr (8, [.ref hRows, .ref hMer, .ref hEra, .ref hTape, .ref hRea, .ref hTra, .ref hWor, .ref hPla, .ref hMod, .ref hHe1, .ref hHe2, .int 0, .int 0, .int 0, .int 0, .int (-1), .int 0]))] U.heap ∧ va_K (dC, dI) vwCl [] U ∧ va_D (fun _ => True) [(h0, .inr (8, [.ref hRows, .ref hMer, .ref hEra, .ref hTape, .ref hRea, .ref hTra, .ref hWor, .ref hPla, .ref hMod, .ref hHe1, .ref hHe2, .int 0, .int 0, .int 0, .int 0, .int (-1), .int 0]))] ∧ nw_ok U)) (va_Ql (fun (r : Int64) (_ : Unit) => r = (-9000000000000000000)) (fun (_ : Unit) (t : State) => True) (va_A [(h0, .inr (8, [.ref hRows, .ref hMer, .ref hEra, .ref hTape, .ref hRea, .ref hTra, .ref hWor, .ref hPla, .ref hMod, .ref hHe1, .ref hHe2, .int 0, .int 0, .int 0, .int 0, .int (-1), .int 0]))] sz)) 0 0 (va_A [(h0, .inr (8, [.ref hRows, .ref hMer, .ref hEra, .ref hTape, .ref hRea, .ref hTra, .ref hWor, .ref hPla, .ref hMod, .ref hHe1, .ref hHe2, .int 0, .int 0, .int 0, .int 0, .int (-1), .int 0]))] sz) := by
  refine Met.ofW (cc := cX8_kept) (maxL := 4) (ret := (some .long)) (by decide) rfl ?_
  intro p e s m args below meth c s₁ B hml hv
  obtain ⟨rfl, hsz, hP, hK, hD0, hN⟩ := hv
  have hx := B.exec
  have hb := B.bytes
  have hr := B.returns
  have hts := atoms_spec (ws := wsX8_kept) B.pre
  have hown : s.vm.findClass RX8 = some m.cls := findClass_of_methodNamed B.named
  have hlocks := B.notSynchronized
  subst hsz
  have hD := hD0.self (sz := s.heap.size)
  generalize hAe : va_A [(h0, .inr (8, [.ref hRows, .ref hMer, .ref hEra, .ref hTape, .ref hRea, .ref hTra, .ref hWor, .ref hPla, .ref hMod, .ref hHe1, .ref hHe2, .int 0, .int 0, .int 0, .int 0, .int (-1), .int 0]))] s.heap.size = A at hD ⊢
  have hA : ∀ q : Nat, s.heap.size ≤ q → A q := fun q h => by rw [← hAe]; exact Or.inr h
  have hS : va_S A s.heap s.heap [] := va_S.rf
  have hP : va_P (dC, dI) vwCl [(h0, .inr (8, [.ref hRows, .ref hMer, .ref hEra, .ref hTape, .ref hRea, .ref hTra, .ref hWor, .ref hPla, .ref hMod, .ref hHe1, .ref hHe2, .int 0, .int 0, .int 0, .int 0, .int (-1), .int 0]))] s.heap := hP
  have hl := lv_entry ([.ref h0, .int tt, .int pp]) (n := 4) (Nat.le_of_ble_eq_true rfl)
  rw [lg_entry_eq]
  generalize (lg_sl ([.ref h0, .int tt, .int pp]) ++ List.replicate (4 - (lg_sl ([.ref h0, .int tt, .int pp])).length) Slot.unset).toArray = ls at hl ⊢
  have hl : lv_has ls 4 [(0, .ref h0), (1, .int tt), (2, .int pp)] := hl
  refine lv_aload_n hx hb dX8_kept_0 rfl (lv_at hl 0 rfl) ?_
  refine lv_iload_n hx hb dX8_kept_1 rfl (lv_at hl 1 rfl) ?_
  have hPc := hP.sub (ws' := [(h0, .inr (8, [.ref hRows, .ref hMer, .ref hEra, .ref hTape, .ref hRea, .ref hTra, .ref hWor, .ref hPla, .ref hMod, .ref hHe1, .ref hHe2, .int 0, .int 0, .int 0, .int 0, .int (-1), .int 0]))]) [0] rfl
  have hDc := hD.sub (ws' := [(h0, .inr (8, [.ref hRows, .ref hMer, .ref hEra, .ref hTape, .ref hRea, .ref hTra, .ref hWor, .ref hPla, .ref hMod, .ref hHe1, .ref hHe2, .int 0, .int 0, .int 0, .int 0, .int (-1), .int 0]))]) [0] (by decide) rfl
  have hKc := hK.sub (tys' := []) [] rfl
  have hFc := va_free (wc := [(h0, .inr (8, [.ref hRows, .ref hMer, .ref hEra, .ref hTape, .ref hRea, .ref hTra, .ref hWor, .ref hPla, .ref hMod, .ref hHe1, .ref hHe2, .int 0, .int 0, .int 0, .int 0, .int (-1), .int 0]))]) hD hS hA [0] rfl
  refine va_callq (va_runV (As := [.int tt]) (rest := []) ⟨hx, hb, hml, hown, hts⟩ (c_X8_traitAt l dC dI s.heap.size h0 hRows hMer hEra hTape hRea hTra hWor hPla hMod hHe1 hHe2 0 0 0 (-1) 0 tt ) (cwV 1 hts gX8_kept_X8_traitAt rfl rfl rfl (by decide +kernel) ⟨Nat.le_of_ble_eq_true rfl, Nat.le_of_ble_eq_true rfl⟩) ⟨fun a U g mk q => by obtain ⟨q0, q1, qP, qK, qD, qN⟩ := q; exact ⟨q0, q1, qP, va_K.moved (u := U) (U := U.calling g mk a) (Vm.Alike.refl U.vm) qK, qD, qN.same rfl⟩, va_recv hKc hPc (ci := 8) (q0 := 0) rfl rfl, fun U hU hW => ⟨rfl, by rw [hU], by rw [hU]; exact hPc, va_K.moved hW.alike hKc, hDc.weaken (fun _ _ _ _ => trivial), hN.warm hW⟩⟩ rfl rfl hl.1 rfl (lv_room (Nat.le_of_ble_eq_true rfl)) dX8_kept_2 ⟨Nat.le_of_ble_eq_true rfl, Nat.le_of_ble_eq_true rfl⟩) hS (fun q _ h => hFc q h) hFc (fun r_1 u_2 t H1 locs ht hvm hw_3 hB hz1 hk1 hS => ?_)
  try dsimp only at hw_3
  obtain ⟨hP1, hK1, hD1⟩ := hB
  rw [ht] at hP1
  have hK1 := va_K.moved hvm.symm hK1
  obtain ⟨hP, hD⟩ := va_join (wr := []) (w1 := [(h0, .inr (8, [.ref hRows, .ref hMer, .ref hEra, .ref hTape, .ref hRea, .ref hTra, .ref hWor, .ref hPla, .ref hMod, .ref hHe1, .ref hHe2, .int 0, .int 0, .int 0, .int 0, .int (-1), .int 0]))]) hP hD [0] [] rfl rfl (by decide) (by decide) hk1 hFc hP1 hD1
  have hK := (hK.sub (tys' := []) [] rfl).app hK1
  generalize H1 = H at hP hS ⊢
  have hP : va_P (dC, dI) vwCl [(h0, .inr (8, [.ref hRows, .ref hMer, .ref hEra, .ref hTape, .ref hRea, .ref hTra, .ref hWor, .ref hPla, .ref hMod, .ref hHe1, .ref hHe2, .int 0, .int 0, .int 0, .int 0, .int (-1), .int 0]))] H := hP
  have hD : va_D A [(h0, .inr (8, [.ref hRows, .ref hMer, .ref hEra, .ref hTape, .ref hRea, .ref hTra, .ref hWor, .ref hPla, .ref hMod, .ref hHe1, .ref hHe2, .int 0, .int 0, .int 0, .int 0, .int (-1), .int 0]))] := hD
  have hK : va_K (dC, dI) vwCl [] s := hK
  obtain rfl : none = r_1 := hw_3.symm
  refine W.eq (g2 := F0 m 5 ls [.null]) rfl ?_
  refine lv_astore_nN (lv' := [(3, .null), (0, .ref h0), (1, .int tt), (2, .int pp)]) hx hb dX8_kept_5 rfl hl (by decide) rfl (fun ls hl => ?_)
  refine lv_aload_nN hx hb dX8_kept_6 rfl (lv_at hl 0 rfl) ?_
  refine lv_ifnullN (tgt := 17) hx hb dX8_kept_7 (by decide) ?_
  refine lv_ldc2 hx hb hown (hts (.constantLong RX8 175 (-9000000000000000000)) (by decide +kernel)) dX8_kept_17 ?_
  exact W.lret (v := (-9000000000000000000)) hx hb hr (fun t ht hW => ⟨⟨(-9000000000000000000), (), rfl, rfl, trivial⟩, hS.F ht⟩) hS.2.2 dX8_kept_20

set_option maxHeartbeats 4000000 in
set_option maxRecDepth 100000 in
theorem c_X8_age (l : Launch) (dC : Nat → ClassId) (dI : Nat → Nat → Nat) (sz : Nat) (h0 : Nat) (hRows : Nat) (hMer : Nat) (hEra : Nat) (hTape : Nat) (hRea : Nat) (hTra : Nat) (hWor : Nat) (hPla : Nat) (hMod : Nat) (hHe1 : Nat) (hHe2 : Nat) (tt : Int32) (pp : Int32) (w : Int32)  : Met l yX8_age wsX8_age ({ frames := 1, cells := 0, slots := 0, locals := 21 }) (va_Pc [.ref h0, .int tt, .int pp, .int w] (fun U => U.heap.size = sz ∧ va_P (dC, dI) vwCl [(h0, .inr (8, [.ref hRows, .ref hMer, .ref hEra, .ref hTape, .ref hRea, .ref hTra, .ref hWor, .ref hPla, .ref hMod, .ref hHe1, .ref hHe2, .int 0, .int 0, .int 0, .int 0, .int (-1), .int 0]))] U.heap ∧ va_K (dC, dI) vwCl [] U ∧ va_D (fun _ => True) [(h0, .inr (8, [.ref hRows, .ref hMer, .ref hEra, .ref hTape, .ref hRea, .ref hTra, .ref hWor, .ref hPla, .ref hMod, .ref hHe1, .ref hHe2, .int 0, .int 0, .int 0, .int 0, .int (-1), .int 0]))] ∧ nw_ok U)) (va_Qi (fun (r : Int32) (_ : Unit) => r = (-1)) (fun (_ : Unit) (t : State) => True) (va_A [(h0, .inr (8, [.ref hRows, .ref hMer, .ref hEra, .ref hTape, .ref hRea, .ref hTra, .ref hWor, .ref hPla, .ref hMod, .ref hHe1, .ref hHe2, .int 0, .int 0, .int 0, .int 0, .int (-1), .int 0]))] sz)) 0 0 (va_A [(h0, .inr (8, [.ref hRows, .ref hMer, .ref hEra, .ref hTape, .ref hRea, .ref hTra, .ref hWor, .ref hPla, .ref hMod, .ref hHe1, .ref hHe2, .int 0, .int 0, .int 0, .int 0, .int (-1), .int 0]))] sz) := by
  refine Met.ofW (cc := cX8_age) (maxL := 5) (ret := (some .int)) (by decide) rfl ?_
  intro p e s m args below meth c s₁ B hml hv
  obtain ⟨rfl, hsz, hP, hK, hD0, hN⟩ := hv
  have hx := B.exec
  have hb := B.bytes
  have hr := B.returns
  have hts := atoms_spec (ws := wsX8_age) B.pre
  have hown : s.vm.findClass RX8 = some m.cls := findClass_of_methodNamed B.named
  have hlocks := B.notSynchronized
  subst hsz
  have hD := hD0.self (sz := s.heap.size)
  generalize hAe : va_A [(h0, .inr (8, [.ref hRows, .ref hMer, .ref hEra, .ref hTape, .ref hRea, .ref hTra, .ref hWor, .ref hPla, .ref hMod, .ref hHe1, .ref hHe2, .int 0, .int 0, .int 0, .int 0, .int (-1), .int 0]))] s.heap.size = A at hD ⊢
  have hA : ∀ q : Nat, s.heap.size ≤ q → A q := fun q h => by rw [← hAe]; exact Or.inr h
  have hS : va_S A s.heap s.heap [] := va_S.rf
  have hP : va_P (dC, dI) vwCl [(h0, .inr (8, [.ref hRows, .ref hMer, .ref hEra, .ref hTape, .ref hRea, .ref hTra, .ref hWor, .ref hPla, .ref hMod, .ref hHe1, .ref hHe2, .int 0, .int 0, .int 0, .int 0, .int (-1), .int 0]))] s.heap := hP
  have hl := lv_entry ([.ref h0, .int tt, .int pp, .int w]) (n := 5) (Nat.le_of_ble_eq_true rfl)
  rw [lg_entry_eq]
  generalize (lg_sl ([.ref h0, .int tt, .int pp, .int w]) ++ List.replicate (5 - (lg_sl ([.ref h0, .int tt, .int pp, .int w])).length) Slot.unset).toArray = ls at hl ⊢
  have hl : lv_has ls 5 [(0, .ref h0), (1, .int tt), (2, .int pp), (3, .int w)] := hl
  refine lv_aload_n hx hb dX8_age_0 rfl (lv_at hl 0 rfl) ?_
  refine lv_iload_n hx hb dX8_age_1 rfl (lv_at hl 1 rfl) ?_
  have hPc := hP.sub (ws' := [(h0, .inr (8, [.ref hRows, .ref hMer, .ref hEra, .ref hTape, .ref hRea, .ref hTra, .ref hWor, .ref hPla, .ref hMod, .ref hHe1, .ref hHe2, .int 0, .int 0, .int 0, .int 0, .int (-1), .int 0]))]) [0] rfl
  have hDc := hD.sub (ws' := [(h0, .inr (8, [.ref hRows, .ref hMer, .ref hEra, .ref hTape, .ref hRea, .ref hTra, .ref hWor, .ref hPla, .ref hMod, .ref hHe1, .ref hHe2, .int 0, .int 0, .int 0, .int 0, .int (-1), .int 0]))]) [0] (by decide) rfl
  have hKc := hK.sub (tys' := []) [] rfl
  have hFc := va_free (wc := [(h0, .inr (8, [.ref hRows, .ref hMer, .ref hEra, .ref hTape, .ref hRea, .ref hTra, .ref hWor, .ref hPla, .ref hMod, .ref hHe1, .ref hHe2, .int 0, .int 0, .int 0, .int 0, .int (-1), .int 0]))]) hD hS hA [0] rfl
  refine va_callq (va_runV (As := [.int tt]) (rest := []) ⟨hx, hb, hml, hown, hts⟩ (c_X8_traitAt l dC dI s.heap.size h0 hRows hMer hEra hTape hRea hTra hWor hPla hMod hHe1 hHe2 0 0 0 (-1) 0 tt ) (cwV 1 hts gX8_age_X8_traitAt rfl rfl rfl (by decide +kernel) ⟨Nat.le_of_ble_eq_true rfl, Nat.le_of_ble_eq_true rfl⟩) ⟨fun a U g mk q => by obtain ⟨q0, q1, qP, qK, qD, qN⟩ := q; exact ⟨q0, q1, qP, va_K.moved (u := U) (U := U.calling g mk a) (Vm.Alike.refl U.vm) qK, qD, qN.same rfl⟩, va_recv hKc hPc (ci := 8) (q0 := 0) rfl rfl, fun U hU hW => ⟨rfl, by rw [hU], by rw [hU]; exact hPc, va_K.moved hW.alike hKc, hDc.weaken (fun _ _ _ _ => trivial), hN.warm hW⟩⟩ rfl rfl hl.1 rfl (lv_room (Nat.le_of_ble_eq_true rfl)) dX8_age_2 ⟨Nat.le_of_ble_eq_true rfl, Nat.le_of_ble_eq_true rfl⟩) hS (fun q _ h => hFc q h) hFc (fun r_1 u_2 t H1 locs ht hvm hw_3 hB hz1 hk1 hS => ?_)
  try dsimp only at hw_3
  obtain ⟨hP1, hK1, hD1⟩ := hB
  rw [ht] at hP1
  have hK1 := va_K.moved hvm.symm hK1
  obtain ⟨hP, hD⟩ := va_join (wr := []) (w1 := [(h0, .inr (8, [.ref hRows, .ref hMer, .ref hEra, .ref hTape, .ref hRea, .ref hTra, .ref hWor, .ref hPla, .ref hMod, .ref hHe1, .ref hHe2, .int 0, .int 0, .int 0, .int 0, .int (-1), .int 0]))]) hP hD [0] [] rfl rfl (by decide) (by decide) hk1 hFc hP1 hD1
  have hK := (hK.sub (tys' := []) [] rfl).app hK1
  generalize H1 = H at hP hS ⊢
  have hP : va_P (dC, dI) vwCl [(h0, .inr (8, [.ref hRows, .ref hMer, .ref hEra, .ref hTape, .ref hRea, .ref hTra, .ref hWor, .ref hPla, .ref hMod, .ref hHe1, .ref hHe2, .int 0, .int 0, .int 0, .int 0, .int (-1), .int 0]))] H := hP
  have hD : va_D A [(h0, .inr (8, [.ref hRows, .ref hMer, .ref hEra, .ref hTape, .ref hRea, .ref hTra, .ref hWor, .ref hPla, .ref hMod, .ref hHe1, .ref hHe2, .int 0, .int 0, .int 0, .int 0, .int (-1), .int 0]))] := hD
  have hK : va_K (dC, dI) vwCl [] s := hK
  obtain rfl : none = r_1 := hw_3.symm
  refine W.eq (g2 := F0 m 5 ls [.null]) rfl ?_
  refine lv_astoreN (lv' := [(4, .null), (0, .ref h0), (1, .int tt), (2, .int pp), (3, .int w)]) hx hb dX8_age_5 hl (by decide) rfl (fun ls hl => ?_)
  refine lv_aloadN hx hb dX8_age_7 (lv_at hl 0 rfl) ?_
  refine lv_ifnullN (tgt := 28) hx hb dX8_age_9 (by decide) ?_
  refine lv_iconst (v := (-1)) hx hb dX8_age_28 (by decide) ?_
  exact W.iret (v := (-1)) hx hb hr (fun t ht hW => ⟨⟨(-1), (), rfl, rfl, trivial⟩, hS.F ht⟩) hS.2.2 dX8_age_29

set_option maxHeartbeats 4000000 in
set_option maxRecDepth 100000 in
theorem c_X8_held (l : Launch) (dC : Nat → ClassId) (dI : Nat → Nat → Nat) (sz : Nat) (h0 : Nat) (hRows : Nat) (hMer : Nat) (hEra : Nat) (hTape : Nat) (hRea : Nat) (hTra : Nat) (hWor : Nat) (hPla : Nat) (hMod : Nat) (hHe1 : Nat) (hHe2 : Nat) (tt : Int32)  : Met l yX8_held wsX8_held ({ frames := 1, cells := 0, slots := 0, locals := 21 }) (va_Pc [.ref h0, .int tt] (fun U => U.heap.size = sz ∧ va_P (dC, dI) vwCl [(h0, .inr (8, [.ref hRows, .ref hMer, .ref hEra, .ref hTape, .ref hRea, .ref hTra, .ref hWor, .ref hPla, .ref hMod, .ref hHe1, .ref hHe2, .int 0, .int 0, .int 0, .int 0, .int (-1), .int 0]))] U.heap ∧ va_K (dC, dI) vwCl [] U ∧ va_D (fun _ => True) [(h0, .inr (8, [.ref hRows, .ref hMer, .ref hEra, .ref hTape, .ref hRea, .ref hTra, .ref hWor, .ref hPla, .ref hMod, .ref hHe1, .ref hHe2, .int 0, .int 0, .int 0, .int 0, .int (-1), .int 0]))] ∧ nw_ok U)) (va_Qi (fun (r : Int32) (_ : Unit) => r = (-1)) (fun (_ : Unit) (t : State) => True) (va_A [(h0, .inr (8, [.ref hRows, .ref hMer, .ref hEra, .ref hTape, .ref hRea, .ref hTra, .ref hWor, .ref hPla, .ref hMod, .ref hHe1, .ref hHe2, .int 0, .int 0, .int 0, .int 0, .int (-1), .int 0]))] sz)) 0 0 (va_A [(h0, .inr (8, [.ref hRows, .ref hMer, .ref hEra, .ref hTape, .ref hRea, .ref hTra, .ref hWor, .ref hPla, .ref hMod, .ref hHe1, .ref hHe2, .int 0, .int 0, .int 0, .int 0, .int (-1), .int 0]))] sz) := by
  refine Met.ofW (cc := cX8_held) (maxL := 3) (ret := (some .int)) (by decide) rfl ?_
  intro p e s m args below meth c s₁ B hml hv
  obtain ⟨rfl, hsz, hP, hK, hD0, hN⟩ := hv
  have hx := B.exec
  have hb := B.bytes
  have hr := B.returns
  have hts := atoms_spec (ws := wsX8_held) B.pre
  have hown : s.vm.findClass RX8 = some m.cls := findClass_of_methodNamed B.named
  have hlocks := B.notSynchronized
  subst hsz
  have hD := hD0.self (sz := s.heap.size)
  generalize hAe : va_A [(h0, .inr (8, [.ref hRows, .ref hMer, .ref hEra, .ref hTape, .ref hRea, .ref hTra, .ref hWor, .ref hPla, .ref hMod, .ref hHe1, .ref hHe2, .int 0, .int 0, .int 0, .int 0, .int (-1), .int 0]))] s.heap.size = A at hD ⊢
  have hA : ∀ q : Nat, s.heap.size ≤ q → A q := fun q h => by rw [← hAe]; exact Or.inr h
  have hS : va_S A s.heap s.heap [] := va_S.rf
  have hP : va_P (dC, dI) vwCl [(h0, .inr (8, [.ref hRows, .ref hMer, .ref hEra, .ref hTape, .ref hRea, .ref hTra, .ref hWor, .ref hPla, .ref hMod, .ref hHe1, .ref hHe2, .int 0, .int 0, .int 0, .int 0, .int (-1), .int 0]))] s.heap := hP
  have hl := lv_entry ([.ref h0, .int tt]) (n := 3) (Nat.le_of_ble_eq_true rfl)
  rw [lg_entry_eq]
  generalize (lg_sl ([.ref h0, .int tt]) ++ List.replicate (3 - (lg_sl ([.ref h0, .int tt])).length) Slot.unset).toArray = ls at hl ⊢
  have hl : lv_has ls 3 [(0, .ref h0), (1, .int tt)] := hl
  refine lv_aload_n hx hb dX8_held_0 rfl (lv_at hl 0 rfl) ?_
  refine lv_iload_n hx hb dX8_held_1 rfl (lv_at hl 1 rfl) ?_
  have hPc := hP.sub (ws' := [(h0, .inr (8, [.ref hRows, .ref hMer, .ref hEra, .ref hTape, .ref hRea, .ref hTra, .ref hWor, .ref hPla, .ref hMod, .ref hHe1, .ref hHe2, .int 0, .int 0, .int 0, .int 0, .int (-1), .int 0]))]) [0] rfl
  have hDc := hD.sub (ws' := [(h0, .inr (8, [.ref hRows, .ref hMer, .ref hEra, .ref hTape, .ref hRea, .ref hTra, .ref hWor, .ref hPla, .ref hMod, .ref hHe1, .ref hHe2, .int 0, .int 0, .int 0, .int 0, .int (-1), .int 0]))]) [0] (by decide) rfl
  have hKc := hK.sub (tys' := []) [] rfl
  have hFc := va_free (wc := [(h0, .inr (8, [.ref hRows, .ref hMer, .ref hEra, .ref hTape, .ref hRea, .ref hTra, .ref hWor, .ref hPla, .ref hMod, .ref hHe1, .ref hHe2, .int 0, .int 0, .int 0, .int 0, .int (-1), .int 0]))]) hD hS hA [0] rfl
  refine va_callq (va_runV (As := [.int tt]) (rest := []) ⟨hx, hb, hml, hown, hts⟩ (c_X8_traitAt l dC dI s.heap.size h0 hRows hMer hEra hTape hRea hTra hWor hPla hMod hHe1 hHe2 0 0 0 (-1) 0 tt ) (cwV 1 hts gX8_held_X8_traitAt rfl rfl rfl (by decide +kernel) ⟨Nat.le_of_ble_eq_true rfl, Nat.le_of_ble_eq_true rfl⟩) ⟨fun a U g mk q => by obtain ⟨q0, q1, qP, qK, qD, qN⟩ := q; exact ⟨q0, q1, qP, va_K.moved (u := U) (U := U.calling g mk a) (Vm.Alike.refl U.vm) qK, qD, qN.same rfl⟩, va_recv hKc hPc (ci := 8) (q0 := 0) rfl rfl, fun U hU hW => ⟨rfl, by rw [hU], by rw [hU]; exact hPc, va_K.moved hW.alike hKc, hDc.weaken (fun _ _ _ _ => trivial), hN.warm hW⟩⟩ rfl rfl hl.1 rfl (lv_room (Nat.le_of_ble_eq_true rfl)) dX8_held_2 ⟨Nat.le_of_ble_eq_true rfl, Nat.le_of_ble_eq_true rfl⟩) hS (fun q _ h => hFc q h) hFc (fun r_1 u_2 t H1 locs ht hvm hw_3 hB hz1 hk1 hS => ?_)
  try dsimp only at hw_3
  obtain ⟨hP1, hK1, hD1⟩ := hB
  rw [ht] at hP1
  have hK1 := va_K.moved hvm.symm hK1
  obtain ⟨hP, hD⟩ := va_join (wr := []) (w1 := [(h0, .inr (8, [.ref hRows, .ref hMer, .ref hEra, .ref hTape, .ref hRea, .ref hTra, .ref hWor, .ref hPla, .ref hMod, .ref hHe1, .ref hHe2, .int 0, .int 0, .int 0, .int 0, .int (-1), .int 0]))]) hP hD [0] [] rfl rfl (by decide) (by decide) hk1 hFc hP1 hD1
  have hK := (hK.sub (tys' := []) [] rfl).app hK1
  generalize H1 = H at hP hS ⊢
  have hP : va_P (dC, dI) vwCl [(h0, .inr (8, [.ref hRows, .ref hMer, .ref hEra, .ref hTape, .ref hRea, .ref hTra, .ref hWor, .ref hPla, .ref hMod, .ref hHe1, .ref hHe2, .int 0, .int 0, .int 0, .int 0, .int (-1), .int 0]))] H := hP
  have hD : va_D A [(h0, .inr (8, [.ref hRows, .ref hMer, .ref hEra, .ref hTape, .ref hRea, .ref hTra, .ref hWor, .ref hPla, .ref hMod, .ref hHe1, .ref hHe2, .int 0, .int 0, .int 0, .int 0, .int (-1), .int 0]))] := hD
  have hK : va_K (dC, dI) vwCl [] s := hK
  obtain rfl : none = r_1 := hw_3.symm
  refine W.eq (g2 := F0 m 5 ls [.null]) rfl ?_
  refine lv_astore_nN (lv' := [(2, .null), (0, .ref h0), (1, .int tt)]) hx hb dX8_held_5 rfl hl (by decide) rfl (fun ls hl => ?_)
  refine lv_aload_nN hx hb dX8_held_6 rfl (lv_at hl 0 rfl) ?_
  refine lv_ifnonnullN hx hb dX8_held_7 ?_
  refine lv_iconst (v := (-1)) hx hb dX8_held_10 (by decide) ?_
  refine lv_goto (tgt := 18) hx hb dX8_held_11 (by decide) ?_
  exact W.iret (v := (-1)) hx hb hr (fun t ht hW => ⟨⟨(-1), (), rfl, rfl, trivial⟩, hS.F ht⟩) hS.2.2 dX8_held_18

set_option maxHeartbeats 4000000 in
set_option maxRecDepth 100000 in
theorem c_X8_placeOf (l : Launch) (dC : Nat → ClassId) (dI : Nat → Nat → Nat) (sz : Nat) (h0 : Nat) (hRows : Nat) (hMer : Nat) (hEra : Nat) (hTape : Nat) (hRea : Nat) (hTra : Nat) (hWor : Nat) (hPla : Nat) (hMod : Nat) (hHe1 : Nat) (hHe2 : Nat) (tt : Int32) (pp : Int32) (mo : Int32)  : Met l yX8_placeOf wsX8_placeOf ({ frames := 1, cells := 0, slots := 0, locals := 21 }) (va_Pc [.ref h0, .int tt, .int pp, .int mo] (fun U => U.heap.size = sz ∧ va_P (dC, dI) vwCl [(h0, .inr (8, [.ref hRows, .ref hMer, .ref hEra, .ref hTape, .ref hRea, .ref hTra, .ref hWor, .ref hPla, .ref hMod, .ref hHe1, .ref hHe2, .int 0, .int 0, .int 0, .int 0, .int (-1), .int 0]))] U.heap ∧ va_K (dC, dI) vwCl [] U ∧ va_D (fun _ => True) [(h0, .inr (8, [.ref hRows, .ref hMer, .ref hEra, .ref hTape, .ref hRea, .ref hTra, .ref hWor, .ref hPla, .ref hMod, .ref hHe1, .ref hHe2, .int 0, .int 0, .int 0, .int 0, .int (-1), .int 0]))] ∧ nw_ok U)) (va_Qi (fun (r : Int32) (_ : Unit) => r = (-1)) (fun (_ : Unit) (t : State) => va_P (dC, dI) vwCl [(h0, .inr (8, [.ref hRows, .ref hMer, .ref hEra, .ref hTape, .ref hRea, .ref hTra, .ref hWor, .ref hPla, .ref hMod, .ref hHe1, .ref hHe2, .int 0, .int 0, .int 0, .int 0, .int (-1), .int 0]))] t.heap ∧ va_K (dC, dI) vwCl [] t ∧ va_D (va_A [(h0, .inr (8, [.ref hRows, .ref hMer, .ref hEra, .ref hTape, .ref hRea, .ref hTra, .ref hWor, .ref hPla, .ref hMod, .ref hHe1, .ref hHe2, .int 0, .int 0, .int 0, .int 0, .int (-1), .int 0]))] sz) [(h0, .inr (8, [.ref hRows, .ref hMer, .ref hEra, .ref hTape, .ref hRea, .ref hTra, .ref hWor, .ref hPla, .ref hMod, .ref hHe1, .ref hHe2, .int 0, .int 0, .int 0, .int 0, .int (-1), .int 0]))]) (va_A [(h0, .inr (8, [.ref hRows, .ref hMer, .ref hEra, .ref hTape, .ref hRea, .ref hTra, .ref hWor, .ref hPla, .ref hMod, .ref hHe1, .ref hHe2, .int 0, .int 0, .int 0, .int 0, .int (-1), .int 0]))] sz)) 0 0 (va_A [(h0, .inr (8, [.ref hRows, .ref hMer, .ref hEra, .ref hTape, .ref hRea, .ref hTra, .ref hWor, .ref hPla, .ref hMod, .ref hHe1, .ref hHe2, .int 0, .int 0, .int 0, .int 0, .int (-1), .int 0]))] sz) := by
  refine Met.ofW (cc := cX8_placeOf) (maxL := 4) (ret := (some .int)) (by decide) rfl ?_
  intro p e s m args below meth c s₁ B hml hv
  obtain ⟨rfl, hsz, hP, hK, hD0, hN⟩ := hv
  have hx := B.exec
  have hb := B.bytes
  have hr := B.returns
  have hts := atoms_spec (ws := wsX8_placeOf) B.pre
  have hown : s.vm.findClass RX8 = some m.cls := findClass_of_methodNamed B.named
  have hlocks := B.notSynchronized
  subst hsz
  have hD := hD0.self (sz := s.heap.size)
  generalize hAe : va_A [(h0, .inr (8, [.ref hRows, .ref hMer, .ref hEra, .ref hTape, .ref hRea, .ref hTra, .ref hWor, .ref hPla, .ref hMod, .ref hHe1, .ref hHe2, .int 0, .int 0, .int 0, .int 0, .int (-1), .int 0]))] s.heap.size = A at hD ⊢
  have hA : ∀ q : Nat, s.heap.size ≤ q → A q := fun q h => by rw [← hAe]; exact Or.inr h
  have hS : va_S A s.heap s.heap [] := va_S.rf
  have hP : va_P (dC, dI) vwCl [(h0, .inr (8, [.ref hRows, .ref hMer, .ref hEra, .ref hTape, .ref hRea, .ref hTra, .ref hWor, .ref hPla, .ref hMod, .ref hHe1, .ref hHe2, .int 0, .int 0, .int 0, .int 0, .int (-1), .int 0]))] s.heap := hP
  have hl := lv_entry ([.ref h0, .int tt, .int pp, .int mo]) (n := 4) (Nat.le_of_ble_eq_true rfl)
  rw [lg_entry_eq]
  generalize (lg_sl ([.ref h0, .int tt, .int pp, .int mo]) ++ List.replicate (4 - (lg_sl ([.ref h0, .int tt, .int pp, .int mo])).length) Slot.unset).toArray = ls at hl ⊢
  have hl : lv_has ls 4 [(0, .ref h0), (1, .int tt), (2, .int pp), (3, .int mo)] := hl
  refine lv_aload_n hx hb dX8_placeOf_0 rfl (lv_at hl 0 rfl) ?_
  refine lv_iload_n hx hb dX8_placeOf_1 rfl (lv_at hl 1 rfl) ?_
  have hPc := hP.sub (ws' := [(h0, .inr (8, [.ref hRows, .ref hMer, .ref hEra, .ref hTape, .ref hRea, .ref hTra, .ref hWor, .ref hPla, .ref hMod, .ref hHe1, .ref hHe2, .int 0, .int 0, .int 0, .int 0, .int (-1), .int 0]))]) [0] rfl
  have hDc := hD.sub (ws' := [(h0, .inr (8, [.ref hRows, .ref hMer, .ref hEra, .ref hTape, .ref hRea, .ref hTra, .ref hWor, .ref hPla, .ref hMod, .ref hHe1, .ref hHe2, .int 0, .int 0, .int 0, .int 0, .int (-1), .int 0]))]) [0] (by decide) rfl
  have hKc := hK.sub (tys' := []) [] rfl
  have hFc := va_free (wc := [(h0, .inr (8, [.ref hRows, .ref hMer, .ref hEra, .ref hTape, .ref hRea, .ref hTra, .ref hWor, .ref hPla, .ref hMod, .ref hHe1, .ref hHe2, .int 0, .int 0, .int 0, .int 0, .int (-1), .int 0]))]) hD hS hA [0] rfl
  refine va_callq (va_runV (As := [.int tt]) (rest := []) ⟨hx, hb, hml, hown, hts⟩ (c_X8_traitAt l dC dI s.heap.size h0 hRows hMer hEra hTape hRea hTra hWor hPla hMod hHe1 hHe2 0 0 0 (-1) 0 tt ) (cwV 1 hts gX8_placeOf_X8_traitAt rfl rfl rfl (by decide +kernel) ⟨Nat.le_of_ble_eq_true rfl, Nat.le_of_ble_eq_true rfl⟩) ⟨fun a U g mk q => by obtain ⟨q0, q1, qP, qK, qD, qN⟩ := q; exact ⟨q0, q1, qP, va_K.moved (u := U) (U := U.calling g mk a) (Vm.Alike.refl U.vm) qK, qD, qN.same rfl⟩, va_recv hKc hPc (ci := 8) (q0 := 0) rfl rfl, fun U hU hW => ⟨rfl, by rw [hU], by rw [hU]; exact hPc, va_K.moved hW.alike hKc, hDc.weaken (fun _ _ _ _ => trivial), hN.warm hW⟩⟩ rfl rfl hl.1 rfl (lv_room (Nat.le_of_ble_eq_true rfl)) dX8_placeOf_2 ⟨Nat.le_of_ble_eq_true rfl, Nat.le_of_ble_eq_true rfl⟩) hS (fun q _ h => hFc q h) hFc (fun r_1 u_2 t H1 locs ht hvm hw_3 hB hz1 hk1 hS => ?_)
  try dsimp only at hw_3
  obtain ⟨hP1, hK1, hD1⟩ := hB
  rw [ht] at hP1
  have hK1 := va_K.moved hvm.symm hK1
  obtain ⟨hP, hD⟩ := va_join (wr := []) (w1 := [(h0, .inr (8, [.ref hRows, .ref hMer, .ref hEra, .ref hTape, .ref hRea, .ref hTra, .ref hWor, .ref hPla, .ref hMod, .ref hHe1, .ref hHe2, .int 0, .int 0, .int 0, .int 0, .int (-1), .int 0]))]) hP hD [0] [] rfl rfl (by decide) (by decide) hk1 hFc hP1 hD1
  have hK := (hK.sub (tys' := []) [] rfl).app hK1
  generalize H1 = H at hP hS ⊢
  have hP : va_P (dC, dI) vwCl [(h0, .inr (8, [.ref hRows, .ref hMer, .ref hEra, .ref hTape, .ref hRea, .ref hTra, .ref hWor, .ref hPla, .ref hMod, .ref hHe1, .ref hHe2, .int 0, .int 0, .int 0, .int 0, .int (-1), .int 0]))] H := hP
  have hD : va_D A [(h0, .inr (8, [.ref hRows, .ref hMer, .ref hEra, .ref hTape, .ref hRea, .ref hTra, .ref hWor, .ref hPla, .ref hMod, .ref hHe1, .ref hHe2, .int 0, .int 0, .int 0, .int 0, .int (-1), .int 0]))] := hD
  have hK : va_K (dC, dI) vwCl [] s := hK
  obtain rfl : none = r_1 := hw_3.symm
  refine W.eq (g2 := F0 m 5 ls [.null]) rfl ?_
  refine lv_ifnullN (tgt := 22) hx hb dX8_placeOf_5 (by decide) ?_
  refine lv_iconst (v := (-1)) hx hb dX8_placeOf_22 (by decide) ?_
  have hP9 := hP.sub (ws' := [(h0, .inr (8, [.ref hRows, .ref hMer, .ref hEra, .ref hTape, .ref hRea, .ref hTra, .ref hWor, .ref hPla, .ref hMod, .ref hHe1, .ref hHe2, .int 0, .int 0, .int 0, .int 0, .int (-1), .int 0]))]) [0] rfl
  have hD9 := hD.sub (ws' := [(h0, .inr (8, [.ref hRows, .ref hMer, .ref hEra, .ref hTape, .ref hRea, .ref hTra, .ref hWor, .ref hPla, .ref hMod, .ref hHe1, .ref hHe2, .int 0, .int 0, .int 0, .int 0, .int (-1), .int 0]))]) [0] (by decide) rfl
  have hK9 := hK.sub (tys' := []) [] rfl
  exact W.iret (v := (-1)) hx hb hr (fun t ht hW => ⟨⟨(-1), (), rfl, rfl, by rw [ht]; exact hP9, va_K.moved hW.alike hK9, hD9⟩, hS.F ht⟩) hS.2.2 dX8_placeOf_23

set_option maxHeartbeats 4000000 in
set_option maxRecDepth 100000 in
theorem c_X8_history (l : Launch) (dC : Nat → ClassId) (dI : Nat → Nat → Nat) (sz : Nat) (h0 : Nat) (hRows : Nat) (hMer : Nat) (hEra : Nat) (hTape : Nat) (hRea : Nat) (hTra : Nat) (hWor : Nat) (hPla : Nat) (hMod : Nat) (hHe1 : Nat) (hHe2 : Nat) (tt : Int32) (pp : Int32) (mo : Int32)  : Met l yX8_history wsX8_history ({ frames := 2, cells := 0, slots := 0, locals := 44 }) (va_Pc [.ref h0, .int tt, .int pp, .int mo] (fun U => U.heap.size = sz ∧ va_P (dC, dI) vwCl [(h0, .inr (8, [.ref hRows, .ref hMer, .ref hEra, .ref hTape, .ref hRea, .ref hTra, .ref hWor, .ref hPla, .ref hMod, .ref hHe1, .ref hHe2, .int 0, .int 0, .int 0, .int 0, .int (-1), .int 0]))] U.heap ∧ va_K (dC, dI) vwCl [] U ∧ va_D (fun _ => True) [(h0, .inr (8, [.ref hRows, .ref hMer, .ref hEra, .ref hTape, .ref hRea, .ref hTra, .ref hWor, .ref hPla, .ref hMod, .ref hHe1, .ref hHe2, .int 0, .int 0, .int 0, .int 0, .int (-1), .int 0]))] ∧ nw_ok U)) (va_Ql (fun (r : Int64) (_ : Unit) => r = (-9000000000000000000)) (fun (_ : Unit) (t : State) => True) (va_A [(h0, .inr (8, [.ref hRows, .ref hMer, .ref hEra, .ref hTape, .ref hRea, .ref hTra, .ref hWor, .ref hPla, .ref hMod, .ref hHe1, .ref hHe2, .int 0, .int 0, .int 0, .int 0, .int (-1), .int 0]))] sz)) 0 0 (va_A [(h0, .inr (8, [.ref hRows, .ref hMer, .ref hEra, .ref hTape, .ref hRea, .ref hTra, .ref hWor, .ref hPla, .ref hMod, .ref hHe1, .ref hHe2, .int 0, .int 0, .int 0, .int 0, .int (-1), .int 0]))] sz) := by
  refine Met.ofW (cc := cX8_history) (maxL := 5) (ret := (some .long)) (by decide) rfl ?_
  intro p e s m args below meth c s₁ B hml hv
  obtain ⟨rfl, hsz, hP, hK, hD0, hN⟩ := hv
  have hx := B.exec
  have hb := B.bytes
  have hr := B.returns
  have hts := atoms_spec (ws := wsX8_history) B.pre
  have hown : s.vm.findClass RX8 = some m.cls := findClass_of_methodNamed B.named
  have hlocks := B.notSynchronized
  subst hsz
  have hD := hD0.self (sz := s.heap.size)
  generalize hAe : va_A [(h0, .inr (8, [.ref hRows, .ref hMer, .ref hEra, .ref hTape, .ref hRea, .ref hTra, .ref hWor, .ref hPla, .ref hMod, .ref hHe1, .ref hHe2, .int 0, .int 0, .int 0, .int 0, .int (-1), .int 0]))] s.heap.size = A at hD ⊢
  have hA : ∀ q : Nat, s.heap.size ≤ q → A q := fun q h => by rw [← hAe]; exact Or.inr h
  have hS : va_S A s.heap s.heap [] := va_S.rf
  have hP : va_P (dC, dI) vwCl [(h0, .inr (8, [.ref hRows, .ref hMer, .ref hEra, .ref hTape, .ref hRea, .ref hTra, .ref hWor, .ref hPla, .ref hMod, .ref hHe1, .ref hHe2, .int 0, .int 0, .int 0, .int 0, .int (-1), .int 0]))] s.heap := hP
  have hl := lv_entry ([.ref h0, .int tt, .int pp, .int mo]) (n := 5) (Nat.le_of_ble_eq_true rfl)
  rw [lg_entry_eq]
  generalize (lg_sl ([.ref h0, .int tt, .int pp, .int mo]) ++ List.replicate (5 - (lg_sl ([.ref h0, .int tt, .int pp, .int mo])).length) Slot.unset).toArray = ls at hl ⊢
  have hl : lv_has ls 5 [(0, .ref h0), (1, .int tt), (2, .int pp), (3, .int mo)] := hl
  refine lv_aload_n hx hb dX8_history_0 rfl (lv_at hl 0 rfl) ?_
  refine lv_iload_n hx hb dX8_history_1 rfl (lv_at hl 1 rfl) ?_
  refine lv_iload_n hx hb dX8_history_2 rfl (lv_at hl 2 rfl) ?_
  refine lv_iload_n hx hb dX8_history_3 rfl (lv_at hl 3 rfl) ?_
  have hPc := hP.sub (ws' := [(h0, .inr (8, [.ref hRows, .ref hMer, .ref hEra, .ref hTape, .ref hRea, .ref hTra, .ref hWor, .ref hPla, .ref hMod, .ref hHe1, .ref hHe2, .int 0, .int 0, .int 0, .int 0, .int (-1), .int 0]))]) [0] rfl
  have hDc := hD.sub (ws' := [(h0, .inr (8, [.ref hRows, .ref hMer, .ref hEra, .ref hTape, .ref hRea, .ref hTra, .ref hWor, .ref hPla, .ref hMod, .ref hHe1, .ref hHe2, .int 0, .int 0, .int 0, .int 0, .int (-1), .int 0]))]) [0] (by decide) rfl
  have hKc := hK.sub (tys' := []) [] rfl
  have hFc := va_free (wc := [(h0, .inr (8, [.ref hRows, .ref hMer, .ref hEra, .ref hTape, .ref hRea, .ref hTra, .ref hWor, .ref hPla, .ref hMod, .ref hHe1, .ref hHe2, .int 0, .int 0, .int 0, .int 0, .int (-1), .int 0]))]) hD hS hA [0] rfl
  refine va_calli (va_runV (As := [.int tt, .int pp, .int mo]) (rest := []) ⟨hx, hb, hml, hown, hts⟩ (c_X8_placeOf l dC dI s.heap.size h0 hRows hMer hEra hTape hRea hTra hWor hPla hMod hHe1 hHe2 tt pp mo ) (cwV 3 hts gX8_history_X8_placeOf rfl rfl rfl (by decide +kernel) ⟨Nat.le_of_ble_eq_true rfl, Nat.le_of_ble_eq_true rfl⟩) ⟨fun a U g mk q => by obtain ⟨q0, q1, qP, qK, qD, qN⟩ := q; exact ⟨q0, q1, qP, va_K.moved (u := U) (U := U.calling g mk a) (Vm.Alike.refl U.vm) qK, qD, qN.same rfl⟩, va_recv hKc hPc (ci := 8) (q0 := 0) rfl rfl, fun U hU hW => ⟨rfl, by rw [hU], by rw [hU]; exact hPc, va_K.moved hW.alike hKc, hDc.weaken (fun _ _ _ _ => trivial), hN.warm hW⟩⟩ rfl rfl hl.1 rfl (lv_room (Nat.le_of_ble_eq_true rfl)) dX8_history_4 ⟨Nat.le_of_ble_eq_true rfl, Nat.le_of_ble_eq_true rfl⟩) hS (fun q _ h => hFc q h) hFc (fun r_1 u_2 t H1 locs ht hvm hw_3 hB hz1 hk1 hS => ?_)
  try dsimp only at hw_3
  obtain ⟨hP1, hK1, hD1⟩ := hB
  rw [ht] at hP1
  have hK1 := va_K.moved hvm.symm hK1
  obtain ⟨hP, hD⟩ := va_join (wr := []) (w1 := [(h0, .inr (8, [.ref hRows, .ref hMer, .ref hEra, .ref hTape, .ref hRea, .ref hTra, .ref hWor, .ref hPla, .ref hMod, .ref hHe1, .ref hHe2, .int 0, .int 0, .int 0, .int 0, .int (-1), .int 0]))]) hP hD [0] [] rfl rfl (by decide) (by decide) hk1 hFc hP1 hD1
  have hK := (hK.sub (tys' := []) [] rfl).app hK1
  generalize H1 = H at hP hS ⊢
  have hP : va_P (dC, dI) vwCl [(h0, .inr (8, [.ref hRows, .ref hMer, .ref hEra, .ref hTape, .ref hRea, .ref hTra, .ref hWor, .ref hPla, .ref hMod, .ref hHe1, .ref hHe2, .int 0, .int 0, .int 0, .int 0, .int (-1), .int 0]))] H := hP
  have hD : va_D A [(h0, .inr (8, [.ref hRows, .ref hMer, .ref hEra, .ref hTape, .ref hRea, .ref hTra, .ref hWor, .ref hPla, .ref hMod, .ref hHe1, .ref hHe2, .int 0, .int 0, .int 0, .int 0, .int (-1), .int 0]))] := hD
  have hK : va_K (dC, dI) vwCl [] s := hK
  obtain rfl : (-1) = r_1 := hw_3.symm
  refine lv_istore (lv' := [(4, .int (-1)), (0, .ref h0), (1, .int tt), (2, .int pp), (3, .int mo)]) hx hb dX8_history_7 hl (by decide) rfl (fun ls hl => ?_)
  refine lv_iload hx hb dX8_history_9 (lv_at hl 0 rfl) ?_
  refine lv_iconst (v := (-1)) hx hb dX8_history_11 (by decide) ?_
  refine lv_icmp_ne (tgt := 21) hx hb dX8_history_12 (by decide) (fun c_4 => absurd c_4 (by decide)) (fun c_4 => ?_)
  refine lv_ldc2 hx hb hown (hts (.constantLong RX8 175 (-9000000000000000000)) (by decide +kernel)) dX8_history_15 ?_
  refine lv_goto (tgt := 31) hx hb dX8_history_18 (by decide) ?_
  exact W.lret (v := (-9000000000000000000)) hx hb hr (fun t ht hW => ⟨⟨(-9000000000000000000), (), rfl, rfl, trivial⟩, hS.F ht⟩) hS.2.2 dX8_history_31

set_option maxHeartbeats 4000000 in
set_option maxRecDepth 100000 in
theorem c_X8_told (l : Launch) (dC : Nat → ClassId) (dI : Nat → Nat → Nat) (sz : Nat) (h0 : Nat) (hRows : Nat) (hMer : Nat) (hEra : Nat) (hTape : Nat) (hRea : Nat) (hTra : Nat) (hWor : Nat) (hPla : Nat) (hMod : Nat) (hHe1 : Nat) (hHe2 : Nat) (tt : Int32) (pp : Int32) (mo : Int32) (w : Int32)  : Met l yX8_told wsX8_told ({ frames := 2, cells := 0, slots := 0, locals := 44 }) (va_Pc [.ref h0, .int tt, .int pp, .int mo, .int w] (fun U => U.heap.size = sz ∧ va_P (dC, dI) vwCl [(h0, .inr (8, [.ref hRows, .ref hMer, .ref hEra, .ref hTape, .ref hRea, .ref hTra, .ref hWor, .ref hPla, .ref hMod, .ref hHe1, .ref hHe2, .int 0, .int 0, .int 0, .int 0, .int (-1), .int 0]))] U.heap ∧ va_K (dC, dI) vwCl [] U ∧ va_D (fun _ => True) [(h0, .inr (8, [.ref hRows, .ref hMer, .ref hEra, .ref hTape, .ref hRea, .ref hTra, .ref hWor, .ref hPla, .ref hMod, .ref hHe1, .ref hHe2, .int 0, .int 0, .int 0, .int 0, .int (-1), .int 0]))] ∧ nw_ok U)) (va_Qi (fun (r : Int32) (_ : Unit) => r = (-1)) (fun (_ : Unit) (t : State) => True) (va_A [(h0, .inr (8, [.ref hRows, .ref hMer, .ref hEra, .ref hTape, .ref hRea, .ref hTra, .ref hWor, .ref hPla, .ref hMod, .ref hHe1, .ref hHe2, .int 0, .int 0, .int 0, .int 0, .int (-1), .int 0]))] sz)) 0 0 (va_A [(h0, .inr (8, [.ref hRows, .ref hMer, .ref hEra, .ref hTape, .ref hRea, .ref hTra, .ref hWor, .ref hPla, .ref hMod, .ref hHe1, .ref hHe2, .int 0, .int 0, .int 0, .int 0, .int (-1), .int 0]))] sz) := by
  refine Met.ofW (cc := cX8_told) (maxL := 6) (ret := (some .int)) (by decide) rfl ?_
  intro p e s m args below meth c s₁ B hml hv
  obtain ⟨rfl, hsz, hP, hK, hD0, hN⟩ := hv
  have hx := B.exec
  have hb := B.bytes
  have hr := B.returns
  have hts := atoms_spec (ws := wsX8_told) B.pre
  have hown : s.vm.findClass RX8 = some m.cls := findClass_of_methodNamed B.named
  have hlocks := B.notSynchronized
  subst hsz
  have hD := hD0.self (sz := s.heap.size)
  generalize hAe : va_A [(h0, .inr (8, [.ref hRows, .ref hMer, .ref hEra, .ref hTape, .ref hRea, .ref hTra, .ref hWor, .ref hPla, .ref hMod, .ref hHe1, .ref hHe2, .int 0, .int 0, .int 0, .int 0, .int (-1), .int 0]))] s.heap.size = A at hD ⊢
  have hA : ∀ q : Nat, s.heap.size ≤ q → A q := fun q h => by rw [← hAe]; exact Or.inr h
  have hS : va_S A s.heap s.heap [] := va_S.rf
  have hP : va_P (dC, dI) vwCl [(h0, .inr (8, [.ref hRows, .ref hMer, .ref hEra, .ref hTape, .ref hRea, .ref hTra, .ref hWor, .ref hPla, .ref hMod, .ref hHe1, .ref hHe2, .int 0, .int 0, .int 0, .int 0, .int (-1), .int 0]))] s.heap := hP
  have hl := lv_entry ([.ref h0, .int tt, .int pp, .int mo, .int w]) (n := 6) (Nat.le_of_ble_eq_true rfl)
  rw [lg_entry_eq]
  generalize (lg_sl ([.ref h0, .int tt, .int pp, .int mo, .int w]) ++ List.replicate (6 - (lg_sl ([.ref h0, .int tt, .int pp, .int mo, .int w])).length) Slot.unset).toArray = ls at hl ⊢
  have hl : lv_has ls 6 [(0, .ref h0), (1, .int tt), (2, .int pp), (3, .int mo), (4, .int w)] := hl
  refine lv_aload_n hx hb dX8_told_0 rfl (lv_at hl 0 rfl) ?_
  refine lv_iload_n hx hb dX8_told_1 rfl (lv_at hl 1 rfl) ?_
  refine lv_iload_n hx hb dX8_told_2 rfl (lv_at hl 2 rfl) ?_
  refine lv_iload_n hx hb dX8_told_3 rfl (lv_at hl 3 rfl) ?_
  have hPc := hP.sub (ws' := [(h0, .inr (8, [.ref hRows, .ref hMer, .ref hEra, .ref hTape, .ref hRea, .ref hTra, .ref hWor, .ref hPla, .ref hMod, .ref hHe1, .ref hHe2, .int 0, .int 0, .int 0, .int 0, .int (-1), .int 0]))]) [0] rfl
  have hDc := hD.sub (ws' := [(h0, .inr (8, [.ref hRows, .ref hMer, .ref hEra, .ref hTape, .ref hRea, .ref hTra, .ref hWor, .ref hPla, .ref hMod, .ref hHe1, .ref hHe2, .int 0, .int 0, .int 0, .int 0, .int (-1), .int 0]))]) [0] (by decide) rfl
  have hKc := hK.sub (tys' := []) [] rfl
  have hFc := va_free (wc := [(h0, .inr (8, [.ref hRows, .ref hMer, .ref hEra, .ref hTape, .ref hRea, .ref hTra, .ref hWor, .ref hPla, .ref hMod, .ref hHe1, .ref hHe2, .int 0, .int 0, .int 0, .int 0, .int (-1), .int 0]))]) hD hS hA [0] rfl
  refine va_calli (va_runV (As := [.int tt, .int pp, .int mo]) (rest := []) ⟨hx, hb, hml, hown, hts⟩ (c_X8_placeOf l dC dI s.heap.size h0 hRows hMer hEra hTape hRea hTra hWor hPla hMod hHe1 hHe2 tt pp mo ) (cwV 3 hts gX8_told_X8_placeOf rfl rfl rfl (by decide +kernel) ⟨Nat.le_of_ble_eq_true rfl, Nat.le_of_ble_eq_true rfl⟩) ⟨fun a U g mk q => by obtain ⟨q0, q1, qP, qK, qD, qN⟩ := q; exact ⟨q0, q1, qP, va_K.moved (u := U) (U := U.calling g mk a) (Vm.Alike.refl U.vm) qK, qD, qN.same rfl⟩, va_recv hKc hPc (ci := 8) (q0 := 0) rfl rfl, fun U hU hW => ⟨rfl, by rw [hU], by rw [hU]; exact hPc, va_K.moved hW.alike hKc, hDc.weaken (fun _ _ _ _ => trivial), hN.warm hW⟩⟩ rfl rfl hl.1 rfl (lv_room (Nat.le_of_ble_eq_true rfl)) dX8_told_4 ⟨Nat.le_of_ble_eq_true rfl, Nat.le_of_ble_eq_true rfl⟩) hS (fun q _ h => hFc q h) hFc (fun r_1 u_2 t H1 locs ht hvm hw_3 hB hz1 hk1 hS => ?_)
  try dsimp only at hw_3
  obtain ⟨hP1, hK1, hD1⟩ := hB
  rw [ht] at hP1
  have hK1 := va_K.moved hvm.symm hK1
  obtain ⟨hP, hD⟩ := va_join (wr := []) (w1 := [(h0, .inr (8, [.ref hRows, .ref hMer, .ref hEra, .ref hTape, .ref hRea, .ref hTra, .ref hWor, .ref hPla, .ref hMod, .ref hHe1, .ref hHe2, .int 0, .int 0, .int 0, .int 0, .int (-1), .int 0]))]) hP hD [0] [] rfl rfl (by decide) (by decide) hk1 hFc hP1 hD1
  have hK := (hK.sub (tys' := []) [] rfl).app hK1
  generalize H1 = H at hP hS ⊢
  have hP : va_P (dC, dI) vwCl [(h0, .inr (8, [.ref hRows, .ref hMer, .ref hEra, .ref hTape, .ref hRea, .ref hTra, .ref hWor, .ref hPla, .ref hMod, .ref hHe1, .ref hHe2, .int 0, .int 0, .int 0, .int 0, .int (-1), .int 0]))] H := hP
  have hD : va_D A [(h0, .inr (8, [.ref hRows, .ref hMer, .ref hEra, .ref hTape, .ref hRea, .ref hTra, .ref hWor, .ref hPla, .ref hMod, .ref hHe1, .ref hHe2, .int 0, .int 0, .int 0, .int 0, .int (-1), .int 0]))] := hD
  have hK : va_K (dC, dI) vwCl [] s := hK
  obtain rfl : (-1) = r_1 := hw_3.symm
  refine lv_istore (lv' := [(5, .int (-1)), (0, .ref h0), (1, .int tt), (2, .int pp), (3, .int mo), (4, .int w)]) hx hb dX8_told_7 hl (by decide) rfl (fun ls hl => ?_)
  refine lv_iload hx hb dX8_told_9 (lv_at hl 0 rfl) ?_
  refine lv_iconst (v := (-1)) hx hb dX8_told_11 (by decide) ?_
  refine lv_icmp_ne (tgt := 17) hx hb dX8_told_12 (by decide) (fun c_4 => absurd c_4 (by decide)) (fun c_4 => ?_)
  refine lv_iconst (v := (-1)) hx hb dX8_told_15 (by decide) ?_
  exact W.iret (v := (-1)) hx hb hr (fun t ht hW => ⟨⟨(-1), (), rfl, rfl, trivial⟩, hS.F ht⟩) hS.2.2 dX8_told_16

set_option maxHeartbeats 4000000 in
set_option maxRecDepth 100000 in
theorem c_X8_needed (l : Launch) (dC : Nat → ClassId) (dI : Nat → Nat → Nat) (sz : Nat) (h0 : Nat) (hRows : Nat) (hMer : Nat) (hEra : Nat) (hTape : Nat) (hRea : Nat) (hTra : Nat) (hWor : Nat) (hPla : Nat) (hMod : Nat) (hHe1 : Nat) (hHe2 : Nat) (a : Int32)  : Met l yX8_needed wsX8_needed ({ frames := 1, cells := 0, slots := 0, locals := 21 }) (va_Pc [.ref h0, .int a] (fun U => U.heap.size = sz ∧ va_P (dC, dI) vwCl [(h0, .inr (8, [.ref hRows, .ref hMer, .ref hEra, .ref hTape, .ref hRea, .ref hTra, .ref hWor, .ref hPla, .ref hMod, .ref hHe1, .ref hHe2, .int 0, .int 0, .int 0, .int 0, .int (-1), .int 0]))] U.heap ∧ va_K (dC, dI) vwCl [] U ∧ va_D (fun _ => True) [(h0, .inr (8, [.ref hRows, .ref hMer, .ref hEra, .ref hTape, .ref hRea, .ref hTra, .ref hWor, .ref hPla, .ref hMod, .ref hHe1, .ref hHe2, .int 0, .int 0, .int 0, .int 0, .int (-1), .int 0]))] ∧ nw_ok U)) (va_Qi (fun (r : Int32) (_ : Unit) => r = 0) (fun (_ : Unit) (t : State) => True) (va_A [(h0, .inr (8, [.ref hRows, .ref hMer, .ref hEra, .ref hTape, .ref hRea, .ref hTra, .ref hWor, .ref hPla, .ref hMod, .ref hHe1, .ref hHe2, .int 0, .int 0, .int 0, .int 0, .int (-1), .int 0]))] sz)) 0 0 (va_A [(h0, .inr (8, [.ref hRows, .ref hMer, .ref hEra, .ref hTape, .ref hRea, .ref hTra, .ref hWor, .ref hPla, .ref hMod, .ref hHe1, .ref hHe2, .int 0, .int 0, .int 0, .int 0, .int (-1), .int 0]))] sz) := by
  refine Met.ofW (cc := cX8_needed) (maxL := 2) (ret := (some .int)) (by decide) rfl ?_
  intro p e s m args below meth c s₁ B hml hv
  obtain ⟨rfl, hsz, hP, hK, hD0, hN⟩ := hv
  have hx := B.exec
  have hb := B.bytes
  have hr := B.returns
  have hts := atoms_spec (ws := wsX8_needed) B.pre
  have hown : s.vm.findClass RX8 = some m.cls := findClass_of_methodNamed B.named
  have hlocks := B.notSynchronized
  subst hsz
  have hD := hD0.self (sz := s.heap.size)
  generalize hAe : va_A [(h0, .inr (8, [.ref hRows, .ref hMer, .ref hEra, .ref hTape, .ref hRea, .ref hTra, .ref hWor, .ref hPla, .ref hMod, .ref hHe1, .ref hHe2, .int 0, .int 0, .int 0, .int 0, .int (-1), .int 0]))] s.heap.size = A at hD ⊢
  have hA : ∀ q : Nat, s.heap.size ≤ q → A q := fun q h => by rw [← hAe]; exact Or.inr h
  have hS : va_S A s.heap s.heap [] := va_S.rf
  have hP : va_P (dC, dI) vwCl [(h0, .inr (8, [.ref hRows, .ref hMer, .ref hEra, .ref hTape, .ref hRea, .ref hTra, .ref hWor, .ref hPla, .ref hMod, .ref hHe1, .ref hHe2, .int 0, .int 0, .int 0, .int 0, .int (-1), .int 0]))] s.heap := hP
  have hl := lv_entry ([.ref h0, .int a]) (n := 2) (Nat.le_of_ble_eq_true rfl)
  rw [lg_entry_eq]
  generalize (lg_sl ([.ref h0, .int a]) ++ List.replicate (2 - (lg_sl ([.ref h0, .int a])).length) Slot.unset).toArray = ls at hl ⊢
  have hl : lv_has ls 2 [(0, .ref h0), (1, .int a)] := hl
  refine lv_aload_n hx hb dX8_needed_0 rfl (lv_at hl 0 rfl) ?_
  refine lv_iload_n hx hb dX8_needed_1 rfl (lv_at hl 1 rfl) ?_
  have hPc := hP.sub (ws' := [(h0, .inr (8, [.ref hRows, .ref hMer, .ref hEra, .ref hTape, .ref hRea, .ref hTra, .ref hWor, .ref hPla, .ref hMod, .ref hHe1, .ref hHe2, .int 0, .int 0, .int 0, .int 0, .int (-1), .int 0]))]) [0] rfl
  have hDc := hD.sub (ws' := [(h0, .inr (8, [.ref hRows, .ref hMer, .ref hEra, .ref hTape, .ref hRea, .ref hTra, .ref hWor, .ref hPla, .ref hMod, .ref hHe1, .ref hHe2, .int 0, .int 0, .int 0, .int 0, .int (-1), .int 0]))]) [0] (by decide) rfl
  have hKc := hK.sub (tys' := []) [] rfl
  have hFc := va_free (wc := [(h0, .inr (8, [.ref hRows, .ref hMer, .ref hEra, .ref hTape, .ref hRea, .ref hTra, .ref hWor, .ref hPla, .ref hMod, .ref hHe1, .ref hHe2, .int 0, .int 0, .int 0, .int 0, .int (-1), .int 0]))]) hD hS hA [0] rfl
  refine va_calli (va_runV (As := [.int a]) (rest := []) ⟨hx, hb, hml, hown, hts⟩ (c_X8_isModel l dC dI s.heap.size h0 hRows hMer hEra hTape hRea hTra hWor hPla hMod hHe1 hHe2 a ) (cwV 1 hts gX8_needed_X8_isModel rfl rfl rfl (by decide +kernel) ⟨Nat.le_of_ble_eq_true rfl, Nat.le_of_ble_eq_true rfl⟩) ⟨fun a U g mk q => by obtain ⟨q0, q1, qP, qK, qD, qN⟩ := q; exact ⟨q0, q1, qP, va_K.moved (u := U) (U := U.calling g mk a) (Vm.Alike.refl U.vm) qK, qD, qN.same rfl⟩, va_recv hKc hPc (ci := 8) (q0 := 0) rfl rfl, fun U hU hW => ⟨rfl, by rw [hU], by rw [hU]; exact hPc, va_K.moved hW.alike hKc, hDc.weaken (fun _ _ _ _ => trivial), hN.warm hW⟩⟩ rfl rfl hl.1 rfl (lv_room (Nat.le_of_ble_eq_true rfl)) dX8_needed_2 ⟨Nat.le_of_ble_eq_true rfl, Nat.le_of_ble_eq_true rfl⟩) hS (fun q _ h => hFc q h) hFc (fun r_1 u_2 t H1 locs ht hvm hw_3 hB hz1 hk1 hS => ?_)
  try dsimp only at hw_3
  obtain ⟨hP1, hK1, hD1⟩ := hB
  rw [ht] at hP1
  have hK1 := va_K.moved hvm.symm hK1
  obtain ⟨hP, hD⟩ := va_join (wr := []) (w1 := [(h0, .inr (8, [.ref hRows, .ref hMer, .ref hEra, .ref hTape, .ref hRea, .ref hTra, .ref hWor, .ref hPla, .ref hMod, .ref hHe1, .ref hHe2, .int 0, .int 0, .int 0, .int 0, .int (-1), .int 0]))]) hP hD [0] [] rfl rfl (by decide) (by decide) hk1 hFc hP1 hD1
  have hK := (hK.sub (tys' := []) [] rfl).app hK1
  generalize H1 = H at hP hS ⊢
  have hP : va_P (dC, dI) vwCl [(h0, .inr (8, [.ref hRows, .ref hMer, .ref hEra, .ref hTape, .ref hRea, .ref hTra, .ref hWor, .ref hPla, .ref hMod, .ref hHe1, .ref hHe2, .int 0, .int 0, .int 0, .int 0, .int (-1), .int 0]))] H := hP
  have hD : va_D A [(h0, .inr (8, [.ref hRows, .ref hMer, .ref hEra, .ref hTape, .ref hRea, .ref hTra, .ref hWor, .ref hPla, .ref hMod, .ref hHe1, .ref hHe2, .int 0, .int 0, .int 0, .int 0, .int (-1), .int 0]))] := hD
  have hK : va_K (dC, dI) vwCl [] s := hK
  obtain rfl : 0 = r_1 := hw_3.symm
  refine lv_if_eq (tgt := 17) hx hb dX8_needed_5 (by decide) (fun c_4 => ?_) (fun c_4 => absurd (by decide) c_4)
  refine lv_iconst (v := 0) hx hb dX8_needed_17 (by decide) ?_
  exact W.iret (v := 0) hx hb hr (fun t ht hW => ⟨⟨0, (), rfl, rfl, trivial⟩, hS.F ht⟩) hS.2.2 dX8_needed_18

set_option maxHeartbeats 4000000 in
set_option maxRecDepth 100000 in
theorem c_X8_hung (l : Launch) (dC : Nat → ClassId) (dI : Nat → Nat → Nat) (sz : Nat) (h0 : Nat) (hRows : Nat) (hMer : Nat) (hEra : Nat) (hTape : Nat) (hRea : Nat) (hTra : Nat) (hWor : Nat) (hPla : Nat) (hMod : Nat) (hHe1 : Nat) (hHe2 : Nat) (tt : Int32)  : Met l yX8_hung wsX8_hung ({ frames := 1, cells := 0, slots := 0, locals := 21 }) (va_Pc [.ref h0, .int tt] (fun U => U.heap.size = sz ∧ va_P (dC, dI) vwCl [(h0, .inr (8, [.ref hRows, .ref hMer, .ref hEra, .ref hTape, .ref hRea, .ref hTra, .ref hWor, .ref hPla, .ref hMod, .ref hHe1, .ref hHe2, .int 0, .int 0, .int 0, .int 0, .int (-1), .int 0]))] U.heap ∧ va_K (dC, dI) vwCl [] U ∧ va_D (fun _ => True) [(h0, .inr (8, [.ref hRows, .ref hMer, .ref hEra, .ref hTape, .ref hRea, .ref hTra, .ref hWor, .ref hPla, .ref hMod, .ref hHe1, .ref hHe2, .int 0, .int 0, .int 0, .int 0, .int (-1), .int 0]))] ∧ nw_ok U)) (va_Qi (fun (r : Int32) (_ : Unit) => r = (-1)) (fun (_ : Unit) (t : State) => True) (va_A [(h0, .inr (8, [.ref hRows, .ref hMer, .ref hEra, .ref hTape, .ref hRea, .ref hTra, .ref hWor, .ref hPla, .ref hMod, .ref hHe1, .ref hHe2, .int 0, .int 0, .int 0, .int 0, .int (-1), .int 0]))] sz)) 0 0 (va_A [(h0, .inr (8, [.ref hRows, .ref hMer, .ref hEra, .ref hTape, .ref hRea, .ref hTra, .ref hWor, .ref hPla, .ref hMod, .ref hHe1, .ref hHe2, .int 0, .int 0, .int 0, .int 0, .int (-1), .int 0]))] sz) := by
  refine Met.ofW (cc := cX8_hung) (maxL := 4) (ret := (some .int)) (by decide) rfl ?_
  intro p e s m args below meth c s₁ B hml hv
  obtain ⟨rfl, hsz, hP, hK, hD0, hN⟩ := hv
  have hx := B.exec
  have hb := B.bytes
  have hr := B.returns
  have hts := atoms_spec (ws := wsX8_hung) B.pre
  have hown : s.vm.findClass RX8 = some m.cls := findClass_of_methodNamed B.named
  have hlocks := B.notSynchronized
  subst hsz
  have hD := hD0.self (sz := s.heap.size)
  generalize hAe : va_A [(h0, .inr (8, [.ref hRows, .ref hMer, .ref hEra, .ref hTape, .ref hRea, .ref hTra, .ref hWor, .ref hPla, .ref hMod, .ref hHe1, .ref hHe2, .int 0, .int 0, .int 0, .int 0, .int (-1), .int 0]))] s.heap.size = A at hD ⊢
  have hA : ∀ q : Nat, s.heap.size ≤ q → A q := fun q h => by rw [← hAe]; exact Or.inr h
  have hS : va_S A s.heap s.heap [] := va_S.rf
  have hP : va_P (dC, dI) vwCl [(h0, .inr (8, [.ref hRows, .ref hMer, .ref hEra, .ref hTape, .ref hRea, .ref hTra, .ref hWor, .ref hPla, .ref hMod, .ref hHe1, .ref hHe2, .int 0, .int 0, .int 0, .int 0, .int (-1), .int 0]))] s.heap := hP
  have hl := lv_entry ([.ref h0, .int tt]) (n := 4) (Nat.le_of_ble_eq_true rfl)
  rw [lg_entry_eq]
  generalize (lg_sl ([.ref h0, .int tt]) ++ List.replicate (4 - (lg_sl ([.ref h0, .int tt])).length) Slot.unset).toArray = ls at hl ⊢
  have hl : lv_has ls 4 [(0, .ref h0), (1, .int tt)] := hl
  refine lv_aload_n hx hb dX8_hung_0 rfl (lv_at hl 0 rfl) ?_
  refine lv_iload_n hx hb dX8_hung_1 rfl (lv_at hl 1 rfl) ?_
  have hPc := hP.sub (ws' := [(h0, .inr (8, [.ref hRows, .ref hMer, .ref hEra, .ref hTape, .ref hRea, .ref hTra, .ref hWor, .ref hPla, .ref hMod, .ref hHe1, .ref hHe2, .int 0, .int 0, .int 0, .int 0, .int (-1), .int 0]))]) [0] rfl
  have hDc := hD.sub (ws' := [(h0, .inr (8, [.ref hRows, .ref hMer, .ref hEra, .ref hTape, .ref hRea, .ref hTra, .ref hWor, .ref hPla, .ref hMod, .ref hHe1, .ref hHe2, .int 0, .int 0, .int 0, .int 0, .int (-1), .int 0]))]) [0] (by decide) rfl
  have hKc := hK.sub (tys' := []) [] rfl
  have hFc := va_free (wc := [(h0, .inr (8, [.ref hRows, .ref hMer, .ref hEra, .ref hTape, .ref hRea, .ref hTra, .ref hWor, .ref hPla, .ref hMod, .ref hHe1, .ref hHe2, .int 0, .int 0, .int 0, .int 0, .int (-1), .int 0]))]) hD hS hA [0] rfl
  refine va_callq (va_runV (As := [.int tt]) (rest := []) ⟨hx, hb, hml, hown, hts⟩ (c_X8_traitAt l dC dI s.heap.size h0 hRows hMer hEra hTape hRea hTra hWor hPla hMod hHe1 hHe2 0 0 0 (-1) 0 tt ) (cwV 1 hts gX8_hung_X8_traitAt rfl rfl rfl (by decide +kernel) ⟨Nat.le_of_ble_eq_true rfl, Nat.le_of_ble_eq_true rfl⟩) ⟨fun a U g mk q => by obtain ⟨q0, q1, qP, qK, qD, qN⟩ := q; exact ⟨q0, q1, qP, va_K.moved (u := U) (U := U.calling g mk a) (Vm.Alike.refl U.vm) qK, qD, qN.same rfl⟩, va_recv hKc hPc (ci := 8) (q0 := 0) rfl rfl, fun U hU hW => ⟨rfl, by rw [hU], by rw [hU]; exact hPc, va_K.moved hW.alike hKc, hDc.weaken (fun _ _ _ _ => trivial), hN.warm hW⟩⟩ rfl rfl hl.1 rfl (lv_room (Nat.le_of_ble_eq_true rfl)) dX8_hung_2 ⟨Nat.le_of_ble_eq_true rfl, Nat.le_of_ble_eq_true rfl⟩) hS (fun q _ h => hFc q h) hFc (fun r_1 u_2 t H1 locs ht hvm hw_3 hB hz1 hk1 hS => ?_)
  try dsimp only at hw_3
  obtain ⟨hP1, hK1, hD1⟩ := hB
  rw [ht] at hP1
  have hK1 := va_K.moved hvm.symm hK1
  obtain ⟨hP, hD⟩ := va_join (wr := []) (w1 := [(h0, .inr (8, [.ref hRows, .ref hMer, .ref hEra, .ref hTape, .ref hRea, .ref hTra, .ref hWor, .ref hPla, .ref hMod, .ref hHe1, .ref hHe2, .int 0, .int 0, .int 0, .int 0, .int (-1), .int 0]))]) hP hD [0] [] rfl rfl (by decide) (by decide) hk1 hFc hP1 hD1
  have hK := (hK.sub (tys' := []) [] rfl).app hK1
  generalize H1 = H at hP hS ⊢
  have hP : va_P (dC, dI) vwCl [(h0, .inr (8, [.ref hRows, .ref hMer, .ref hEra, .ref hTape, .ref hRea, .ref hTra, .ref hWor, .ref hPla, .ref hMod, .ref hHe1, .ref hHe2, .int 0, .int 0, .int 0, .int 0, .int (-1), .int 0]))] H := hP
  have hD : va_D A [(h0, .inr (8, [.ref hRows, .ref hMer, .ref hEra, .ref hTape, .ref hRea, .ref hTra, .ref hWor, .ref hPla, .ref hMod, .ref hHe1, .ref hHe2, .int 0, .int 0, .int 0, .int 0, .int (-1), .int 0]))] := hD
  have hK : va_K (dC, dI) vwCl [] s := hK
  obtain rfl : none = r_1 := hw_3.symm
  refine W.eq (g2 := F0 m 5 ls [.null]) rfl ?_
  refine lv_ifnonnullN hx hb dX8_hung_5 ?_
  refine lv_iconst (v := (-1)) hx hb dX8_hung_8 (by decide) ?_
  exact W.iret (v := (-1)) hx hb hr (fun t ht hW => ⟨⟨(-1), (), rfl, rfl, trivial⟩, hS.F ht⟩) hS.2.2 dX8_hung_9

set_option maxHeartbeats 4000000 in
set_option maxRecDepth 100000 in
theorem c_X8_misses (l : Launch) (dC : Nat → ClassId) (dI : Nat → Nat → Nat) (sz : Nat) (h0 : Nat) (hRows : Nat) (hMer : Nat) (hEra : Nat) (hTape : Nat) (hRea : Nat) (hTra : Nat) (hWor : Nat) (hPla : Nat) (hMod : Nat) (hHe1 : Nat) (hHe2 : Nat) (a : Int32) (pp : Int32)  : Met l yX8_misses wsX8_misses ({ frames := 1, cells := 0, slots := 0, locals := 21 }) (va_Pc [.ref h0, .int a, .int pp] (fun U => U.heap.size = sz ∧ va_P (dC, dI) vwCl [(h0, .inr (8, [.ref hRows, .ref hMer, .ref hEra, .ref hTape, .ref hRea, .ref hTra, .ref hWor, .ref hPla, .ref hMod, .ref hHe1, .ref hHe2, .int 0, .int 0, .int 0, .int 0, .int (-1), .int 0]))] U.heap ∧ va_K (dC, dI) vwCl [] U ∧ va_D (fun _ => True) [(h0, .inr (8, [.ref hRows, .ref hMer, .ref hEra, .ref hTape, .ref hRea, .ref hTra, .ref hWor, .ref hPla, .ref hMod, .ref hHe1, .ref hHe2, .int 0, .int 0, .int 0, .int 0, .int (-1), .int 0]))] ∧ nw_ok U)) (va_Qi (fun (r : Int32) (_ : Unit) => r = (-1)) (fun (_ : Unit) (t : State) => True) (va_A [(h0, .inr (8, [.ref hRows, .ref hMer, .ref hEra, .ref hTape, .ref hRea, .ref hTra, .ref hWor, .ref hPla, .ref hMod, .ref hHe1, .ref hHe2, .int 0, .int 0, .int 0, .int 0, .int (-1), .int 0]))] sz)) 0 0 (va_A [(h0, .inr (8, [.ref hRows, .ref hMer, .ref hEra, .ref hTape, .ref hRea, .ref hTra, .ref hWor, .ref hPla, .ref hMod, .ref hHe1, .ref hHe2, .int 0, .int 0, .int 0, .int 0, .int (-1), .int 0]))] sz) := by
  refine Met.ofW (cc := cX8_misses) (maxL := 6) (ret := (some .int)) (by decide) rfl ?_
  intro p e s m args below meth c s₁ B hml hv
  obtain ⟨rfl, hsz, hP, hK, hD0, hN⟩ := hv
  have hx := B.exec
  have hb := B.bytes
  have hr := B.returns
  have hts := atoms_spec (ws := wsX8_misses) B.pre
  have hown : s.vm.findClass RX8 = some m.cls := findClass_of_methodNamed B.named
  have hlocks := B.notSynchronized
  subst hsz
  have hD := hD0.self (sz := s.heap.size)
  generalize hAe : va_A [(h0, .inr (8, [.ref hRows, .ref hMer, .ref hEra, .ref hTape, .ref hRea, .ref hTra, .ref hWor, .ref hPla, .ref hMod, .ref hHe1, .ref hHe2, .int 0, .int 0, .int 0, .int 0, .int (-1), .int 0]))] s.heap.size = A at hD ⊢
  have hA : ∀ q : Nat, s.heap.size ≤ q → A q := fun q h => by rw [← hAe]; exact Or.inr h
  have hS : va_S A s.heap s.heap [] := va_S.rf
  have hP : va_P (dC, dI) vwCl [(h0, .inr (8, [.ref hRows, .ref hMer, .ref hEra, .ref hTape, .ref hRea, .ref hTra, .ref hWor, .ref hPla, .ref hMod, .ref hHe1, .ref hHe2, .int 0, .int 0, .int 0, .int 0, .int (-1), .int 0]))] s.heap := hP
  have hl := lv_entry ([.ref h0, .int a, .int pp]) (n := 6) (Nat.le_of_ble_eq_true rfl)
  rw [lg_entry_eq]
  generalize (lg_sl ([.ref h0, .int a, .int pp]) ++ List.replicate (6 - (lg_sl ([.ref h0, .int a, .int pp])).length) Slot.unset).toArray = ls at hl ⊢
  have hl : lv_has ls 6 [(0, .ref h0), (1, .int a), (2, .int pp)] := hl
  refine lv_aload_n hx hb dX8_misses_0 rfl (lv_at hl 0 rfl) ?_
  refine lv_iload_n hx hb dX8_misses_1 rfl (lv_at hl 1 rfl) ?_
  have hPc := hP.sub (ws' := [(h0, .inr (8, [.ref hRows, .ref hMer, .ref hEra, .ref hTape, .ref hRea, .ref hTra, .ref hWor, .ref hPla, .ref hMod, .ref hHe1, .ref hHe2, .int 0, .int 0, .int 0, .int 0, .int (-1), .int 0]))]) [0] rfl
  have hDc := hD.sub (ws' := [(h0, .inr (8, [.ref hRows, .ref hMer, .ref hEra, .ref hTape, .ref hRea, .ref hTra, .ref hWor, .ref hPla, .ref hMod, .ref hHe1, .ref hHe2, .int 0, .int 0, .int 0, .int 0, .int (-1), .int 0]))]) [0] (by decide) rfl
  have hKc := hK.sub (tys' := []) [] rfl
  have hFc := va_free (wc := [(h0, .inr (8, [.ref hRows, .ref hMer, .ref hEra, .ref hTape, .ref hRea, .ref hTra, .ref hWor, .ref hPla, .ref hMod, .ref hHe1, .ref hHe2, .int 0, .int 0, .int 0, .int 0, .int (-1), .int 0]))]) hD hS hA [0] rfl
  refine va_calli (va_runV (As := [.int a]) (rest := []) ⟨hx, hb, hml, hown, hts⟩ (c_X8_isModel l dC dI s.heap.size h0 hRows hMer hEra hTape hRea hTra hWor hPla hMod hHe1 hHe2 a ) (cwV 1 hts gX8_misses_X8_isModel rfl rfl rfl (by decide +kernel) ⟨Nat.le_of_ble_eq_true rfl, Nat.le_of_ble_eq_true rfl⟩) ⟨fun a U g mk q => by obtain ⟨q0, q1, qP, qK, qD, qN⟩ := q; exact ⟨q0, q1, qP, va_K.moved (u := U) (U := U.calling g mk a) (Vm.Alike.refl U.vm) qK, qD, qN.same rfl⟩, va_recv hKc hPc (ci := 8) (q0 := 0) rfl rfl, fun U hU hW => ⟨rfl, by rw [hU], by rw [hU]; exact hPc, va_K.moved hW.alike hKc, hDc.weaken (fun _ _ _ _ => trivial), hN.warm hW⟩⟩ rfl rfl hl.1 rfl (lv_room (Nat.le_of_ble_eq_true rfl)) dX8_misses_2 ⟨Nat.le_of_ble_eq_true rfl, Nat.le_of_ble_eq_true rfl⟩) hS (fun q _ h => hFc q h) hFc (fun r_1 u_2 t H1 locs ht hvm hw_3 hB hz1 hk1 hS => ?_)
  try dsimp only at hw_3
  obtain ⟨hP1, hK1, hD1⟩ := hB
  rw [ht] at hP1
  have hK1 := va_K.moved hvm.symm hK1
  obtain ⟨hP, hD⟩ := va_join (wr := []) (w1 := [(h0, .inr (8, [.ref hRows, .ref hMer, .ref hEra, .ref hTape, .ref hRea, .ref hTra, .ref hWor, .ref hPla, .ref hMod, .ref hHe1, .ref hHe2, .int 0, .int 0, .int 0, .int 0, .int (-1), .int 0]))]) hP hD [0] [] rfl rfl (by decide) (by decide) hk1 hFc hP1 hD1
  have hK := (hK.sub (tys' := []) [] rfl).app hK1
  generalize H1 = H at hP hS ⊢
  have hP : va_P (dC, dI) vwCl [(h0, .inr (8, [.ref hRows, .ref hMer, .ref hEra, .ref hTape, .ref hRea, .ref hTra, .ref hWor, .ref hPla, .ref hMod, .ref hHe1, .ref hHe2, .int 0, .int 0, .int 0, .int 0, .int (-1), .int 0]))] H := hP
  have hD : va_D A [(h0, .inr (8, [.ref hRows, .ref hMer, .ref hEra, .ref hTape, .ref hRea, .ref hTra, .ref hWor, .ref hPla, .ref hMod, .ref hHe1, .ref hHe2, .int 0, .int 0, .int 0, .int 0, .int (-1), .int 0]))] := hD
  have hK : va_K (dC, dI) vwCl [] s := hK
  obtain rfl : 0 = r_1 := hw_3.symm
  refine lv_if_eq (tgt := 15) hx hb dX8_misses_5 (by decide) (fun c_4 => ?_) (fun c_4 => absurd (by decide) c_4)
  refine lv_iconst (v := (-1)) hx hb dX8_misses_15 (by decide) ?_
  exact W.iret (v := (-1)) hx hb hr (fun t ht hW => ⟨⟨(-1), (), rfl, rfl, trivial⟩, hS.F ht⟩) hS.2.2 dX8_misses_16

set_option maxHeartbeats 4000000 in
set_option maxRecDepth 100000 in
theorem c_X8_status (l : Launch) (dC : Nat → ClassId) (dI : Nat → Nat → Nat) (sz : Nat) (h0 : Nat) (hRows : Nat) (hMer : Nat) (hEra : Nat) (hTape : Nat) (hRea : Nat) (hTra : Nat) (hWor : Nat) (hPla : Nat) (hMod : Nat) (hHe1 : Nat) (hHe2 : Nat)  : Met l yX8_status wsX8_status ({ frames := 0, cells := 0, slots := 0, locals := 0 }) (va_Pc [.ref h0] (fun U => U.heap.size = sz ∧ va_P (dC, dI) vwCl [(h0, .inr (8, [.ref hRows, .ref hMer, .ref hEra, .ref hTape, .ref hRea, .ref hTra, .ref hWor, .ref hPla, .ref hMod, .ref hHe1, .ref hHe2, .int 0, .int 0, .int 0, .int 0, .int (-1), .int 0]))] U.heap ∧ va_K (dC, dI) vwCl [] U ∧ va_D (fun _ => True) [(h0, .inr (8, [.ref hRows, .ref hMer, .ref hEra, .ref hTape, .ref hRea, .ref hTra, .ref hWor, .ref hPla, .ref hMod, .ref hHe1, .ref hHe2, .int 0, .int 0, .int 0, .int 0, .int (-1), .int 0]))] ∧ nw_ok U)) (va_Qi (fun (r : Int32) (_ : Unit) => r = 0) (fun (_ : Unit) (t : State) => True) (va_A [(h0, .inr (8, [.ref hRows, .ref hMer, .ref hEra, .ref hTape, .ref hRea, .ref hTra, .ref hWor, .ref hPla, .ref hMod, .ref hHe1, .ref hHe2, .int 0, .int 0, .int 0, .int 0, .int (-1), .int 0]))] sz)) 0 0 (va_A [(h0, .inr (8, [.ref hRows, .ref hMer, .ref hEra, .ref hTape, .ref hRea, .ref hTra, .ref hWor, .ref hPla, .ref hMod, .ref hHe1, .ref hHe2, .int 0, .int 0, .int 0, .int 0, .int (-1), .int 0]))] sz) := by
  refine Met.ofW (cc := cX8_status) (maxL := 1) (ret := (some .int)) (by decide) rfl ?_
  intro p e s m args below meth c s₁ B hml hv
  obtain ⟨rfl, hsz, hP, hK, hD0, hN⟩ := hv
  have hx := B.exec
  have hb := B.bytes
  have hr := B.returns
  have hts := atoms_spec (ws := wsX8_status) B.pre
  have hown : s.vm.findClass RX8 = some m.cls := findClass_of_methodNamed B.named
  have hlocks := B.notSynchronized
  subst hsz
  have hD := hD0.self (sz := s.heap.size)
  generalize hAe : va_A [(h0, .inr (8, [.ref hRows, .ref hMer, .ref hEra, .ref hTape, .ref hRea, .ref hTra, .ref hWor, .ref hPla, .ref hMod, .ref hHe1, .ref hHe2, .int 0, .int 0, .int 0, .int 0, .int (-1), .int 0]))] s.heap.size = A at hD ⊢
  have hA : ∀ q : Nat, s.heap.size ≤ q → A q := fun q h => by rw [← hAe]; exact Or.inr h
  have hS : va_S A s.heap s.heap [] := va_S.rf
  have hP : va_P (dC, dI) vwCl [(h0, .inr (8, [.ref hRows, .ref hMer, .ref hEra, .ref hTape, .ref hRea, .ref hTra, .ref hWor, .ref hPla, .ref hMod, .ref hHe1, .ref hHe2, .int 0, .int 0, .int 0, .int 0, .int (-1), .int 0]))] s.heap := hP
  have hIX8 : ∀ w ∈ u_ws RX8 TX8 17, w ∈ wsX8_status := by decide +kernel
  have hl := lv_entry ([.ref h0]) (n := 1) (Nat.le_of_ble_eq_true rfl)
  rw [lg_entry_eq]
  generalize (lg_sl ([.ref h0]) ++ List.replicate (1 - (lg_sl ([.ref h0])).length) Slot.unset).toArray = ls at hl ⊢
  have hl : lv_has ls 1 [(0, .ref h0)] := hl
  refine lv_aload_n hx hb dX8_status_0 rfl (lv_at hl 0 rfl) ?_
  refine va_get (D := (dC, dI)) (ci := 8) (v := .int 0) (C := RX8) (T := TX8) (N := 17) hx hb hts hIX8 hown hK hP 0 rfl rfl 16 (by decide) (hts (.fieldLink RX8 289 "TraitHouse" "latestRefusal" "I") (by decide +kernel)) (fun _ h9 => h9) rfl dX8_status_1 ?_
  exact W.iret (v := 0) hx hb hr (fun t ht hW => ⟨⟨0, (), rfl, rfl, trivial⟩, hS.F ht⟩) hS.2.2 dX8_status_4

set_option maxHeartbeats 4000000 in
set_option maxRecDepth 100000 in
theorem c_X8_shift (l : Launch) (dC : Nat → ClassId) (dI : Nat → Nat → Nat) (sz : Nat) (h0 : Nat) (hRows : Nat) (hMer : Nat) (hEra : Nat) (hTape : Nat) (hRea : Nat) (hTra : Nat) (hWor : Nat) (hPla : Nat) (hMod : Nat) (hHe1 : Nat) (hHe2 : Nat) (tt : Int32) (m1 : Int32) (m2 : Int32) (a : Int64) (b : Int64) (d : Int64) (w : Int32)  : Met l yX8_shift wsX8_shift ({ frames := 1, cells := 0, slots := 0, locals := 21 }) (va_Pc [.ref h0, .int tt, .int m1, .int m2, .long a, .long b, .long d, .int w] (fun U => U.heap.size = sz ∧ va_P (dC, dI) vwCl [(h0, .inr (8, [.ref hRows, .ref hMer, .ref hEra, .ref hTape, .ref hRea, .ref hTra, .ref hWor, .ref hPla, .ref hMod, .ref hHe1, .ref hHe2, .int 0, .int 0, .int 0, .int 0, .int (-1), .int 0]))] U.heap ∧ va_K (dC, dI) vwCl [] U ∧ va_D (fun _ => True) [(h0, .inr (8, [.ref hRows, .ref hMer, .ref hEra, .ref hTape, .ref hRea, .ref hTra, .ref hWor, .ref hPla, .ref hMod, .ref hHe1, .ref hHe2, .int 0, .int 0, .int 0, .int 0, .int (-1), .int 0]))] ∧ nw_ok U)) (va_Ql (fun (r : Int64) (_ : Unit) => ((0 ≤ w.toInt ∧ w.toInt ≤ 1 ∧ 0 ≤ m1.toInt ∧ m1.toInt ≤ 100000 ∧ 0 ≤ m2.toInt ∧ m2.toInt ≤ 100000 ∧ a.toInt ≤ b.toInt ∧ b.toInt ≤ d.toInt) → r.toInt = (-2)) ∧ (¬ (0 ≤ w.toInt ∧ w.toInt ≤ 1 ∧ 0 ≤ m1.toInt ∧ m1.toInt ≤ 100000 ∧ 0 ≤ m2.toInt ∧ m2.toInt ≤ 100000 ∧ a.toInt ≤ b.toInt ∧ b.toInt ≤ d.toInt) → r.toInt = (-1))) (fun (_ : Unit) (t : State) => True) (va_A [(h0, .inr (8, [.ref hRows, .ref hMer, .ref hEra, .ref hTape, .ref hRea, .ref hTra, .ref hWor, .ref hPla, .ref hMod, .ref hHe1, .ref hHe2, .int 0, .int 0, .int 0, .int 0, .int (-1), .int 0]))] sz)) 0 0 (va_A [(h0, .inr (8, [.ref hRows, .ref hMer, .ref hEra, .ref hTape, .ref hRea, .ref hTra, .ref hWor, .ref hPla, .ref hMod, .ref hHe1, .ref hHe2, .int 0, .int 0, .int 0, .int 0, .int (-1), .int 0]))] sz) := by
  refine Met.ofW (cc := cX8_shift) (maxL := 16) (ret := (some .long)) (by decide) rfl ?_
  intro p e s m args below meth c s₁ B hml hv
  obtain ⟨rfl, hsz, hP, hK, hD0, hN⟩ := hv
  have hx := B.exec
  have hb := B.bytes
  have hr := B.returns
  have hts := atoms_spec (ws := wsX8_shift) B.pre
  have hown : s.vm.findClass RX8 = some m.cls := findClass_of_methodNamed B.named
  have hlocks := B.notSynchronized
  subst hsz
  have hD := hD0.self (sz := s.heap.size)
  generalize hAe : va_A [(h0, .inr (8, [.ref hRows, .ref hMer, .ref hEra, .ref hTape, .ref hRea, .ref hTra, .ref hWor, .ref hPla, .ref hMod, .ref hHe1, .ref hHe2, .int 0, .int 0, .int 0, .int 0, .int (-1), .int 0]))] s.heap.size = A at hD ⊢
  have hA : ∀ q : Nat, s.heap.size ≤ q → A q := fun q h => by rw [← hAe]; exact Or.inr h
  have hS : va_S A s.heap s.heap [] := va_S.rf
  have hP : va_P (dC, dI) vwCl [(h0, .inr (8, [.ref hRows, .ref hMer, .ref hEra, .ref hTape, .ref hRea, .ref hTra, .ref hWor, .ref hPla, .ref hMod, .ref hHe1, .ref hHe2, .int 0, .int 0, .int 0, .int 0, .int (-1), .int 0]))] s.heap := hP
  have hl := lv_entry ([.ref h0, .int tt, .int m1, .int m2, .long a, .long b, .long d, .int w]) (n := 16) (Nat.le_of_ble_eq_true rfl)
  rw [lg_entry_eq]
  generalize (lg_sl ([.ref h0, .int tt, .int m1, .int m2, .long a, .long b, .long d, .int w]) ++ List.replicate (16 - (lg_sl ([.ref h0, .int tt, .int m1, .int m2, .long a, .long b, .long d, .int w])).length) Slot.unset).toArray = ls at hl ⊢
  have hl : lv_has ls 16 [(0, .ref h0), (1, .int tt), (2, .int m1), (3, .int m2), (4, .long a), (6, .long b), (8, .long d), (10, .int w)] := hl
  refine lv_iload hx hb dX8_shift_0 (lv_at hl 7 rfl) ?_
  refine lv_if_eq (tgt := 11) hx hb dX8_shift_2 (by decide) (fun c_1 => ?_) (fun c_1 => ?_)
  · have dc_1 : w.toInt = 0 := jI_eq c_1 rfl (by decide)
    refine lv_iload_n hx hb dX8_shift_11 rfl (lv_at hl 2 rfl) ?_
    have hPc := hP.sub (ws' := []) [] rfl
    have hDc := hD.sub (ws' := []) [] (by decide) rfl
    have hKc := hK.sub (tys' := []) [] rfl
    have hFc := va_free (wc := []) hD hS hA [] rfl
    refine va_calli (va_runS (As := [.int m1]) (rest := []) ⟨hx, hb, hml, hown, hts⟩ (c_X8_isMoment l dC dI s.heap.size m1 ) (va_cwS 1 hts gX8_shift_X8_isMoment rfl rfl rfl (by decide +kernel) ⟨Nat.le_of_ble_eq_true rfl, Nat.le_of_ble_eq_true rfl⟩) ⟨fun a U g mk q => by obtain ⟨q0, q1, qP, qK, qD, qN⟩ := q; exact ⟨q0, q1, qP, va_K.moved (u := U) (U := U.calling g mk a) (Vm.Alike.refl U.vm) qK, qD, qN.same rfl⟩, fun U hU hW => ⟨rfl, by rw [hU], by rw [hU]; exact hPc, va_K.moved hW.alike hKc, hDc.weaken (fun _ _ _ _ => trivial), hN.warm hW⟩⟩ rfl rfl hl.1 rfl (lv_room (Nat.le_of_ble_eq_true rfl)) dX8_shift_12 ⟨Nat.le_of_ble_eq_true rfl, Nat.le_of_ble_eq_true rfl⟩) hS (fun q _ h => hFc q h) hFc (fun r_2 u_3 t H1 locs ht hvm hw_4 hB hz1 hk1 hS => ?_)
    try dsimp only at hw_4
    obtain ⟨hP1, hK1, hD1⟩ := hB
    rw [ht] at hP1
    have hK1 := va_K.moved hvm.symm hK1
    obtain ⟨hP, hD⟩ := va_join (wr := [(h0, .inr (8, [.ref hRows, .ref hMer, .ref hEra, .ref hTape, .ref hRea, .ref hTra, .ref hWor, .ref hPla, .ref hMod, .ref hHe1, .ref hHe2, .int 0, .int 0, .int 0, .int 0, .int (-1), .int 0]))]) (w1 := []) hP hD [] [0] rfl rfl (by decide) (by decide) hk1 hFc hP1 hD1
    have hK := (hK.sub (tys' := []) [] rfl).app hK1
    generalize H1 = H at hP hS ⊢
    have hP : va_P (dC, dI) vwCl [(h0, .inr (8, [.ref hRows, .ref hMer, .ref hEra, .ref hTape, .ref hRea, .ref hTra, .ref hWor, .ref hPla, .ref hMod, .ref hHe1, .ref hHe2, .int 0, .int 0, .int 0, .int 0, .int (-1), .int 0]))] H := hP
    have hD : va_D A [(h0, .inr (8, [.ref hRows, .ref hMer, .ref hEra, .ref hTape, .ref hRea, .ref hTra, .ref hWor, .ref hPla, .ref hMod, .ref hHe1, .ref hHe2, .int 0, .int 0, .int 0, .int 0, .int (-1), .int 0]))] := hD
    have hK : va_K (dC, dI) vwCl [] s := hK
    refine lv_if_eq (tgt := 41) hx hb dX8_shift_15 (by decide) (fun c_5 => ?_) (fun c_5 => ?_)
    · have dc_5 : r_2.toInt = 0 := jI_eq c_5 rfl (by decide)
      refine lv_ldc2 hx hb hown (hts (.constantLong RX8 262 (-1)) (by decide +kernel)) dX8_shift_41 ?_
      have hans : ((-1) : Int64).toInt = (-1) := (by decide)
      exact W.lret (v := (-1)) hx hb hr (fun t ht hW => ⟨⟨(-1), (), rfl, by first | omega | (dsimp only; omega), trivial⟩, hS.F ht⟩) hS.2.2 dX8_shift_44
    · have dc_5 : ¬ r_2.toInt = 0 := jI_ne c_5 rfl (by decide)
      refine lv_iload_n hx hb dX8_shift_18 rfl (lv_at hl 3 rfl) ?_
      have hPc := hP.sub (ws' := []) [] rfl
      have hDc := hD.sub (ws' := []) [] (by decide) rfl
      have hKc := hK.sub (tys' := []) [] rfl
      have hFc := va_free (wc := []) hD hS hA [] rfl
      refine va_calli (va_runS (As := [.int m2]) (rest := []) ⟨hx, hb, hml, hown, hts⟩ (c_X8_isMoment l dC dI H.size m2 ) (va_cwS 1 hts gX8_shift_X8_isMoment rfl rfl rfl (by decide +kernel) ⟨Nat.le_of_ble_eq_true rfl, Nat.le_of_ble_eq_true rfl⟩) ⟨fun a U g mk q => by obtain ⟨q0, q1, qP, qK, qD, qN⟩ := q; exact ⟨q0, q1, qP, va_K.moved (u := U) (U := U.calling g mk a) (Vm.Alike.refl U.vm) qK, qD, qN.same rfl⟩, fun U hU hW => ⟨rfl, by rw [hU], by rw [hU]; exact hPc, va_K.moved hW.alike hKc, hDc.weaken (fun _ _ _ _ => trivial), hN.warm hW⟩⟩ rfl rfl hl.1 rfl (lv_room (Nat.le_of_ble_eq_true rfl)) dX8_shift_19 ⟨Nat.le_of_ble_eq_true rfl, Nat.le_of_ble_eq_true rfl⟩) hS (fun q _ h => hFc q h) hFc (fun r_6 u_7 t H1 locs ht hvm hw_8 hB hz1 hk1 hS => ?_)
      try dsimp only at hw_8
      obtain ⟨hP1, hK1, hD1⟩ := hB
      rw [ht] at hP1
      have hK1 := va_K.moved hvm.symm hK1
      obtain ⟨hP, hD⟩ := va_join (wr := [(h0, .inr (8, [.ref hRows, .ref hMer, .ref hEra, .ref hTape, .ref hRea, .ref hTra, .ref hWor, .ref hPla, .ref hMod, .ref hHe1, .ref hHe2, .int 0, .int 0, .int 0, .int 0, .int (-1), .int 0]))]) (w1 := []) hP hD [] [0] rfl rfl (by decide) (by decide) hk1 hFc hP1 hD1
      have hK := (hK.sub (tys' := []) [] rfl).app hK1
      generalize H1 = H at hP hS ⊢
      have hP : va_P (dC, dI) vwCl [(h0, .inr (8, [.ref hRows, .ref hMer, .ref hEra, .ref hTape, .ref hRea, .ref hTra, .ref hWor, .ref hPla, .ref hMod, .ref hHe1, .ref hHe2, .int 0, .int 0, .int 0, .int 0, .int (-1), .int 0]))] H := hP
      have hD : va_D A [(h0, .inr (8, [.ref hRows, .ref hMer, .ref hEra, .ref hTape, .ref hRea, .ref hTra, .ref hWor, .ref hPla, .ref hMod, .ref hHe1, .ref hHe2, .int 0, .int 0, .int 0, .int 0, .int (-1), .int 0]))] := hD
      have hK : va_K (dC, dI) vwCl [] s := hK
      refine lv_if_eq (tgt := 41) hx hb dX8_shift_22 (by decide) (fun c_9 => ?_) (fun c_9 => ?_)
      · have dc_9 : r_6.toInt = 0 := jI_eq c_9 rfl (by decide)
        refine lv_ldc2 hx hb hown (hts (.constantLong RX8 262 (-1)) (by decide +kernel)) dX8_shift_41 ?_
        have hans : ((-1) : Int64).toInt = (-1) := (by decide)
        exact W.lret (v := (-1)) hx hb hr (fun t ht hW => ⟨⟨(-1), (), rfl, by first | omega | (dsimp only; omega), trivial⟩, hS.F ht⟩) hS.2.2 dX8_shift_44
      · have dc_9 : ¬ r_6.toInt = 0 := jI_ne c_9 rfl (by decide)
        refine lv_lload hx hb dX8_shift_25 (lv_at hl 4 rfl) ?_
        refine lv_lload hx hb dX8_shift_27 (lv_at hl 5 rfl) ?_
        refine W.lcmp hx hb dX8_shift_29 ?_
        refine lv_topi (fun k_10 ek_10 => ?_)
        have dk_10 : (k_10.toInt < 0 ↔ a.toInt < b.toInt) ∧ (k_10.toInt = 0 ↔ a.toInt = b.toInt) ∧ (0 < k_10.toInt ↔ b.toInt < a.toInt) := jI_cmp ek_10 rfl rfl
        refine lv_if_gt (tgt := 41) hx hb dX8_shift_30 (by decide) (fun c_11 => ?_) (fun c_11 => ?_)
        · have dc_11 : 0 < k_10.toInt := jI_lt c_11 (by decide) rfl
          refine lv_ldc2 hx hb hown (hts (.constantLong RX8 262 (-1)) (by decide +kernel)) dX8_shift_41 ?_
          have hans : ((-1) : Int64).toInt = (-1) := (by decide)
          exact W.lret (v := (-1)) hx hb hr (fun t ht hW => ⟨⟨(-1), (), rfl, by first | omega | (dsimp only; omega), trivial⟩, hS.F ht⟩) hS.2.2 dX8_shift_44
        · have dc_11 : k_10.toInt ≤ 0 := jI_nlt c_11 (by decide) rfl
          refine lv_lload hx hb dX8_shift_33 (lv_at hl 5 rfl) ?_
          refine lv_lload hx hb dX8_shift_35 (lv_at hl 6 rfl) ?_
          refine W.lcmp hx hb dX8_shift_37 ?_
          refine lv_topi (fun k_12 ek_12 => ?_)
          have dk_12 : (k_12.toInt < 0 ↔ b.toInt < d.toInt) ∧ (k_12.toInt = 0 ↔ b.toInt = d.toInt) ∧ (0 < k_12.toInt ↔ d.toInt < b.toInt) := jI_cmp ek_12 rfl rfl
          refine lv_if_le (tgt := 45) hx hb dX8_shift_38 (by decide) (fun c_13 => ?_) (fun c_13 => ?_)
          · have dc_13 : k_12.toInt ≤ 0 := jI_le c_13 rfl (by decide)
            refine lv_aload_n hx hb dX8_shift_45 rfl (lv_at hl 0 rfl) ?_
            refine lv_iload_n hx hb dX8_shift_46 rfl (lv_at hl 1 rfl) ?_
            have hPc := hP.sub (ws' := [(h0, .inr (8, [.ref hRows, .ref hMer, .ref hEra, .ref hTape, .ref hRea, .ref hTra, .ref hWor, .ref hPla, .ref hMod, .ref hHe1, .ref hHe2, .int 0, .int 0, .int 0, .int 0, .int (-1), .int 0]))]) [0] rfl
            have hDc := hD.sub (ws' := [(h0, .inr (8, [.ref hRows, .ref hMer, .ref hEra, .ref hTape, .ref hRea, .ref hTra, .ref hWor, .ref hPla, .ref hMod, .ref hHe1, .ref hHe2, .int 0, .int 0, .int 0, .int 0, .int (-1), .int 0]))]) [0] (by decide) rfl
            have hKc := hK.sub (tys' := []) [] rfl
            have hFc := va_free (wc := [(h0, .inr (8, [.ref hRows, .ref hMer, .ref hEra, .ref hTape, .ref hRea, .ref hTra, .ref hWor, .ref hPla, .ref hMod, .ref hHe1, .ref hHe2, .int 0, .int 0, .int 0, .int 0, .int (-1), .int 0]))]) hD hS hA [0] rfl
            refine va_callq (va_runV (As := [.int tt]) (rest := []) ⟨hx, hb, hml, hown, hts⟩ (c_X8_traitAt l dC dI H.size h0 hRows hMer hEra hTape hRea hTra hWor hPla hMod hHe1 hHe2 0 0 0 (-1) 0 tt ) (cwV 1 hts gX8_shift_X8_traitAt rfl rfl rfl (by decide +kernel) ⟨Nat.le_of_ble_eq_true rfl, Nat.le_of_ble_eq_true rfl⟩) ⟨fun a U g mk q => by obtain ⟨q0, q1, qP, qK, qD, qN⟩ := q; exact ⟨q0, q1, qP, va_K.moved (u := U) (U := U.calling g mk a) (Vm.Alike.refl U.vm) qK, qD, qN.same rfl⟩, va_recv hKc hPc (ci := 8) (q0 := 0) rfl rfl, fun U hU hW => ⟨rfl, by rw [hU], by rw [hU]; exact hPc, va_K.moved hW.alike hKc, hDc.weaken (fun _ _ _ _ => trivial), hN.warm hW⟩⟩ rfl rfl hl.1 rfl (lv_room (Nat.le_of_ble_eq_true rfl)) dX8_shift_47 ⟨Nat.le_of_ble_eq_true rfl, Nat.le_of_ble_eq_true rfl⟩) hS (fun q _ h => hFc q h) hFc (fun r_14 u_15 t H1 locs ht hvm hw_16 hB hz1 hk1 hS => ?_)
            try dsimp only at hw_16
            obtain ⟨hP1, hK1, hD1⟩ := hB
            rw [ht] at hP1
            have hK1 := va_K.moved hvm.symm hK1
            obtain ⟨hP, hD⟩ := va_join (wr := []) (w1 := [(h0, .inr (8, [.ref hRows, .ref hMer, .ref hEra, .ref hTape, .ref hRea, .ref hTra, .ref hWor, .ref hPla, .ref hMod, .ref hHe1, .ref hHe2, .int 0, .int 0, .int 0, .int 0, .int (-1), .int 0]))]) hP hD [0] [] rfl rfl (by decide) (by decide) hk1 hFc hP1 hD1
            have hK := (hK.sub (tys' := []) [] rfl).app hK1
            generalize H1 = H at hP hS ⊢
            have hP : va_P (dC, dI) vwCl [(h0, .inr (8, [.ref hRows, .ref hMer, .ref hEra, .ref hTape, .ref hRea, .ref hTra, .ref hWor, .ref hPla, .ref hMod, .ref hHe1, .ref hHe2, .int 0, .int 0, .int 0, .int 0, .int (-1), .int 0]))] H := hP
            have hD : va_D A [(h0, .inr (8, [.ref hRows, .ref hMer, .ref hEra, .ref hTape, .ref hRea, .ref hTra, .ref hWor, .ref hPla, .ref hMod, .ref hHe1, .ref hHe2, .int 0, .int 0, .int 0, .int 0, .int (-1), .int 0]))] := hD
            have hK : va_K (dC, dI) vwCl [] s := hK
            obtain rfl : none = r_14 := hw_16.symm
            refine W.eq (g2 := F0 m 50 ls [.null]) rfl ?_
            refine lv_ifnonnullN hx hb dX8_shift_50 ?_
            refine lv_ldc2 hx hb hown (hts (.constantLong RX8 264 (-2)) (by decide +kernel)) dX8_shift_53 ?_
            have hans : ((-2) : Int64).toInt = (-2) := (by decide)
            exact W.lret (v := (-2)) hx hb hr (fun t ht hW => ⟨⟨(-2), (), rfl, by first | omega | (dsimp only; omega), trivial⟩, hS.F ht⟩) hS.2.2 dX8_shift_56
          · have dc_13 : 0 < k_12.toInt := jI_nle c_13 rfl (by decide)
            refine lv_ldc2 hx hb hown (hts (.constantLong RX8 262 (-1)) (by decide +kernel)) dX8_shift_41 ?_
            have hans : ((-1) : Int64).toInt = (-1) := (by decide)
            exact W.lret (v := (-1)) hx hb hr (fun t ht hW => ⟨⟨(-1), (), rfl, by first | omega | (dsimp only; omega), trivial⟩, hS.F ht⟩) hS.2.2 dX8_shift_44
  · have dc_1 : ¬ w.toInt = 0 := jI_ne c_1 rfl (by decide)
    refine lv_iload hx hb dX8_shift_5 (lv_at hl 7 rfl) ?_
    refine lv_iconst (v := 1) hx hb dX8_shift_7 (by decide) ?_
    refine lv_icmp_ne (tgt := 41) hx hb dX8_shift_8 (by decide) (fun c_17 => ?_) (fun c_17 => ?_)
    · have dc_17 : ¬ w.toInt = 1 := jI_ne c_17 rfl (by decide)
      refine lv_ldc2 hx hb hown (hts (.constantLong RX8 262 (-1)) (by decide +kernel)) dX8_shift_41 ?_
      have hans : ((-1) : Int64).toInt = (-1) := (by decide)
      exact W.lret (v := (-1)) hx hb hr (fun t ht hW => ⟨⟨(-1), (), rfl, by first | omega | (dsimp only; omega), trivial⟩, hS.F ht⟩) hS.2.2 dX8_shift_44
    · have dc_17 : w.toInt = 1 := jI_eq c_17 rfl (by decide)
      refine lv_iload_n hx hb dX8_shift_11 rfl (lv_at hl 2 rfl) ?_
      have hPc := hP.sub (ws' := []) [] rfl
      have hDc := hD.sub (ws' := []) [] (by decide) rfl
      have hKc := hK.sub (tys' := []) [] rfl
      have hFc := va_free (wc := []) hD hS hA [] rfl
      refine va_calli (va_runS (As := [.int m1]) (rest := []) ⟨hx, hb, hml, hown, hts⟩ (c_X8_isMoment l dC dI s.heap.size m1 ) (va_cwS 1 hts gX8_shift_X8_isMoment rfl rfl rfl (by decide +kernel) ⟨Nat.le_of_ble_eq_true rfl, Nat.le_of_ble_eq_true rfl⟩) ⟨fun a U g mk q => by obtain ⟨q0, q1, qP, qK, qD, qN⟩ := q; exact ⟨q0, q1, qP, va_K.moved (u := U) (U := U.calling g mk a) (Vm.Alike.refl U.vm) qK, qD, qN.same rfl⟩, fun U hU hW => ⟨rfl, by rw [hU], by rw [hU]; exact hPc, va_K.moved hW.alike hKc, hDc.weaken (fun _ _ _ _ => trivial), hN.warm hW⟩⟩ rfl rfl hl.1 rfl (lv_room (Nat.le_of_ble_eq_true rfl)) dX8_shift_12 ⟨Nat.le_of_ble_eq_true rfl, Nat.le_of_ble_eq_true rfl⟩) hS (fun q _ h => hFc q h) hFc (fun r_18 u_19 t H1 locs ht hvm hw_20 hB hz1 hk1 hS => ?_)
      try dsimp only at hw_20
      obtain ⟨hP1, hK1, hD1⟩ := hB
      rw [ht] at hP1
      have hK1 := va_K.moved hvm.symm hK1
      obtain ⟨hP, hD⟩ := va_join (wr := [(h0, .inr (8, [.ref hRows, .ref hMer, .ref hEra, .ref hTape, .ref hRea, .ref hTra, .ref hWor, .ref hPla, .ref hMod, .ref hHe1, .ref hHe2, .int 0, .int 0, .int 0, .int 0, .int (-1), .int 0]))]) (w1 := []) hP hD [] [0] rfl rfl (by decide) (by decide) hk1 hFc hP1 hD1
      have hK := (hK.sub (tys' := []) [] rfl).app hK1
      generalize H1 = H at hP hS ⊢
      have hP : va_P (dC, dI) vwCl [(h0, .inr (8, [.ref hRows, .ref hMer, .ref hEra, .ref hTape, .ref hRea, .ref hTra, .ref hWor, .ref hPla, .ref hMod, .ref hHe1, .ref hHe2, .int 0, .int 0, .int 0, .int 0, .int (-1), .int 0]))] H := hP
      have hD : va_D A [(h0, .inr (8, [.ref hRows, .ref hMer, .ref hEra, .ref hTape, .ref hRea, .ref hTra, .ref hWor, .ref hPla, .ref hMod, .ref hHe1, .ref hHe2, .int 0, .int 0, .int 0, .int 0, .int (-1), .int 0]))] := hD
      have hK : va_K (dC, dI) vwCl [] s := hK
      refine lv_if_eq (tgt := 41) hx hb dX8_shift_15 (by decide) (fun c_21 => ?_) (fun c_21 => ?_)
      · have dc_21 : r_18.toInt = 0 := jI_eq c_21 rfl (by decide)
        refine lv_ldc2 hx hb hown (hts (.constantLong RX8 262 (-1)) (by decide +kernel)) dX8_shift_41 ?_
        have hans : ((-1) : Int64).toInt = (-1) := (by decide)
        exact W.lret (v := (-1)) hx hb hr (fun t ht hW => ⟨⟨(-1), (), rfl, by first | omega | (dsimp only; omega), trivial⟩, hS.F ht⟩) hS.2.2 dX8_shift_44
      · have dc_21 : ¬ r_18.toInt = 0 := jI_ne c_21 rfl (by decide)
        refine lv_iload_n hx hb dX8_shift_18 rfl (lv_at hl 3 rfl) ?_
        have hPc := hP.sub (ws' := []) [] rfl
        have hDc := hD.sub (ws' := []) [] (by decide) rfl
        have hKc := hK.sub (tys' := []) [] rfl
        have hFc := va_free (wc := []) hD hS hA [] rfl
        refine va_calli (va_runS (As := [.int m2]) (rest := []) ⟨hx, hb, hml, hown, hts⟩ (c_X8_isMoment l dC dI H.size m2 ) (va_cwS 1 hts gX8_shift_X8_isMoment rfl rfl rfl (by decide +kernel) ⟨Nat.le_of_ble_eq_true rfl, Nat.le_of_ble_eq_true rfl⟩) ⟨fun a U g mk q => by obtain ⟨q0, q1, qP, qK, qD, qN⟩ := q; exact ⟨q0, q1, qP, va_K.moved (u := U) (U := U.calling g mk a) (Vm.Alike.refl U.vm) qK, qD, qN.same rfl⟩, fun U hU hW => ⟨rfl, by rw [hU], by rw [hU]; exact hPc, va_K.moved hW.alike hKc, hDc.weaken (fun _ _ _ _ => trivial), hN.warm hW⟩⟩ rfl rfl hl.1 rfl (lv_room (Nat.le_of_ble_eq_true rfl)) dX8_shift_19 ⟨Nat.le_of_ble_eq_true rfl, Nat.le_of_ble_eq_true rfl⟩) hS (fun q _ h => hFc q h) hFc (fun r_22 u_23 t H1 locs ht hvm hw_24 hB hz1 hk1 hS => ?_)
        try dsimp only at hw_24
        obtain ⟨hP1, hK1, hD1⟩ := hB
        rw [ht] at hP1
        have hK1 := va_K.moved hvm.symm hK1
        obtain ⟨hP, hD⟩ := va_join (wr := [(h0, .inr (8, [.ref hRows, .ref hMer, .ref hEra, .ref hTape, .ref hRea, .ref hTra, .ref hWor, .ref hPla, .ref hMod, .ref hHe1, .ref hHe2, .int 0, .int 0, .int 0, .int 0, .int (-1), .int 0]))]) (w1 := []) hP hD [] [0] rfl rfl (by decide) (by decide) hk1 hFc hP1 hD1
        have hK := (hK.sub (tys' := []) [] rfl).app hK1
        generalize H1 = H at hP hS ⊢
        have hP : va_P (dC, dI) vwCl [(h0, .inr (8, [.ref hRows, .ref hMer, .ref hEra, .ref hTape, .ref hRea, .ref hTra, .ref hWor, .ref hPla, .ref hMod, .ref hHe1, .ref hHe2, .int 0, .int 0, .int 0, .int 0, .int (-1), .int 0]))] H := hP
        have hD : va_D A [(h0, .inr (8, [.ref hRows, .ref hMer, .ref hEra, .ref hTape, .ref hRea, .ref hTra, .ref hWor, .ref hPla, .ref hMod, .ref hHe1, .ref hHe2, .int 0, .int 0, .int 0, .int 0, .int (-1), .int 0]))] := hD
        have hK : va_K (dC, dI) vwCl [] s := hK
        refine lv_if_eq (tgt := 41) hx hb dX8_shift_22 (by decide) (fun c_25 => ?_) (fun c_25 => ?_)
        · have dc_25 : r_22.toInt = 0 := jI_eq c_25 rfl (by decide)
          refine lv_ldc2 hx hb hown (hts (.constantLong RX8 262 (-1)) (by decide +kernel)) dX8_shift_41 ?_
          have hans : ((-1) : Int64).toInt = (-1) := (by decide)
          exact W.lret (v := (-1)) hx hb hr (fun t ht hW => ⟨⟨(-1), (), rfl, by first | omega | (dsimp only; omega), trivial⟩, hS.F ht⟩) hS.2.2 dX8_shift_44
        · have dc_25 : ¬ r_22.toInt = 0 := jI_ne c_25 rfl (by decide)
          refine lv_lload hx hb dX8_shift_25 (lv_at hl 4 rfl) ?_
          refine lv_lload hx hb dX8_shift_27 (lv_at hl 5 rfl) ?_
          refine W.lcmp hx hb dX8_shift_29 ?_
          refine lv_topi (fun k_26 ek_26 => ?_)
          have dk_26 : (k_26.toInt < 0 ↔ a.toInt < b.toInt) ∧ (k_26.toInt = 0 ↔ a.toInt = b.toInt) ∧ (0 < k_26.toInt ↔ b.toInt < a.toInt) := jI_cmp ek_26 rfl rfl
          refine lv_if_gt (tgt := 41) hx hb dX8_shift_30 (by decide) (fun c_27 => ?_) (fun c_27 => ?_)
          · have dc_27 : 0 < k_26.toInt := jI_lt c_27 (by decide) rfl
            refine lv_ldc2 hx hb hown (hts (.constantLong RX8 262 (-1)) (by decide +kernel)) dX8_shift_41 ?_
            have hans : ((-1) : Int64).toInt = (-1) := (by decide)
            exact W.lret (v := (-1)) hx hb hr (fun t ht hW => ⟨⟨(-1), (), rfl, by first | omega | (dsimp only; omega), trivial⟩, hS.F ht⟩) hS.2.2 dX8_shift_44
          · have dc_27 : k_26.toInt ≤ 0 := jI_nlt c_27 (by decide) rfl
            refine lv_lload hx hb dX8_shift_33 (lv_at hl 5 rfl) ?_
            refine lv_lload hx hb dX8_shift_35 (lv_at hl 6 rfl) ?_
            refine W.lcmp hx hb dX8_shift_37 ?_
            refine lv_topi (fun k_28 ek_28 => ?_)
            have dk_28 : (k_28.toInt < 0 ↔ b.toInt < d.toInt) ∧ (k_28.toInt = 0 ↔ b.toInt = d.toInt) ∧ (0 < k_28.toInt ↔ d.toInt < b.toInt) := jI_cmp ek_28 rfl rfl
            refine lv_if_le (tgt := 45) hx hb dX8_shift_38 (by decide) (fun c_29 => ?_) (fun c_29 => ?_)
            · have dc_29 : k_28.toInt ≤ 0 := jI_le c_29 rfl (by decide)
              refine lv_aload_n hx hb dX8_shift_45 rfl (lv_at hl 0 rfl) ?_
              refine lv_iload_n hx hb dX8_shift_46 rfl (lv_at hl 1 rfl) ?_
              have hPc := hP.sub (ws' := [(h0, .inr (8, [.ref hRows, .ref hMer, .ref hEra, .ref hTape, .ref hRea, .ref hTra, .ref hWor, .ref hPla, .ref hMod, .ref hHe1, .ref hHe2, .int 0, .int 0, .int 0, .int 0, .int (-1), .int 0]))]) [0] rfl
              have hDc := hD.sub (ws' := [(h0, .inr (8, [.ref hRows, .ref hMer, .ref hEra, .ref hTape, .ref hRea, .ref hTra, .ref hWor, .ref hPla, .ref hMod, .ref hHe1, .ref hHe2, .int 0, .int 0, .int 0, .int 0, .int (-1), .int 0]))]) [0] (by decide) rfl
              have hKc := hK.sub (tys' := []) [] rfl
              have hFc := va_free (wc := [(h0, .inr (8, [.ref hRows, .ref hMer, .ref hEra, .ref hTape, .ref hRea, .ref hTra, .ref hWor, .ref hPla, .ref hMod, .ref hHe1, .ref hHe2, .int 0, .int 0, .int 0, .int 0, .int (-1), .int 0]))]) hD hS hA [0] rfl
              refine va_callq (va_runV (As := [.int tt]) (rest := []) ⟨hx, hb, hml, hown, hts⟩ (c_X8_traitAt l dC dI H.size h0 hRows hMer hEra hTape hRea hTra hWor hPla hMod hHe1 hHe2 0 0 0 (-1) 0 tt ) (cwV 1 hts gX8_shift_X8_traitAt rfl rfl rfl (by decide +kernel) ⟨Nat.le_of_ble_eq_true rfl, Nat.le_of_ble_eq_true rfl⟩) ⟨fun a U g mk q => by obtain ⟨q0, q1, qP, qK, qD, qN⟩ := q; exact ⟨q0, q1, qP, va_K.moved (u := U) (U := U.calling g mk a) (Vm.Alike.refl U.vm) qK, qD, qN.same rfl⟩, va_recv hKc hPc (ci := 8) (q0 := 0) rfl rfl, fun U hU hW => ⟨rfl, by rw [hU], by rw [hU]; exact hPc, va_K.moved hW.alike hKc, hDc.weaken (fun _ _ _ _ => trivial), hN.warm hW⟩⟩ rfl rfl hl.1 rfl (lv_room (Nat.le_of_ble_eq_true rfl)) dX8_shift_47 ⟨Nat.le_of_ble_eq_true rfl, Nat.le_of_ble_eq_true rfl⟩) hS (fun q _ h => hFc q h) hFc (fun r_30 u_31 t H1 locs ht hvm hw_32 hB hz1 hk1 hS => ?_)
              try dsimp only at hw_32
              obtain ⟨hP1, hK1, hD1⟩ := hB
              rw [ht] at hP1
              have hK1 := va_K.moved hvm.symm hK1
              obtain ⟨hP, hD⟩ := va_join (wr := []) (w1 := [(h0, .inr (8, [.ref hRows, .ref hMer, .ref hEra, .ref hTape, .ref hRea, .ref hTra, .ref hWor, .ref hPla, .ref hMod, .ref hHe1, .ref hHe2, .int 0, .int 0, .int 0, .int 0, .int (-1), .int 0]))]) hP hD [0] [] rfl rfl (by decide) (by decide) hk1 hFc hP1 hD1
              have hK := (hK.sub (tys' := []) [] rfl).app hK1
              generalize H1 = H at hP hS ⊢
              have hP : va_P (dC, dI) vwCl [(h0, .inr (8, [.ref hRows, .ref hMer, .ref hEra, .ref hTape, .ref hRea, .ref hTra, .ref hWor, .ref hPla, .ref hMod, .ref hHe1, .ref hHe2, .int 0, .int 0, .int 0, .int 0, .int (-1), .int 0]))] H := hP
              have hD : va_D A [(h0, .inr (8, [.ref hRows, .ref hMer, .ref hEra, .ref hTape, .ref hRea, .ref hTra, .ref hWor, .ref hPla, .ref hMod, .ref hHe1, .ref hHe2, .int 0, .int 0, .int 0, .int 0, .int (-1), .int 0]))] := hD
              have hK : va_K (dC, dI) vwCl [] s := hK
              obtain rfl : none = r_30 := hw_32.symm
              refine W.eq (g2 := F0 m 50 ls [.null]) rfl ?_
              refine lv_ifnonnullN hx hb dX8_shift_50 ?_
              refine lv_ldc2 hx hb hown (hts (.constantLong RX8 264 (-2)) (by decide +kernel)) dX8_shift_53 ?_
              have hans : ((-2) : Int64).toInt = (-2) := (by decide)
              exact W.lret (v := (-2)) hx hb hr (fun t ht hW => ⟨⟨(-2), (), rfl, by first | omega | (dsimp only; omega), trivial⟩, hS.F ht⟩) hS.2.2 dX8_shift_56
            · have dc_29 : 0 < k_28.toInt := jI_nle c_29 rfl (by decide)
              refine lv_ldc2 hx hb hown (hts (.constantLong RX8 262 (-1)) (by decide +kernel)) dX8_shift_41 ?_
              have hans : ((-1) : Int64).toInt = (-1) := (by decide)
              exact W.lret (v := (-1)) hx hb hr (fun t ht hW => ⟨⟨(-1), (), rfl, by first | omega | (dsimp only; omega), trivial⟩, hS.F ht⟩) hS.2.2 dX8_shift_44

set_option maxHeartbeats 4000000 in
set_option maxRecDepth 100000 in
theorem c_X8_end (l : Launch) (dC : Nat → ClassId) (dI : Nat → Nat → Nat) (sz : Nat) (h0 : Nat) (hRows : Nat) (hMer : Nat) (hEra : Nat) (hTape : Nat) (hRea : Nat) (hTra : Nat) (hWor : Nat) (hPla : Nat) (hMod : Nat) (hHe1 : Nat) (hHe2 : Nat) (aB : Nat) (n : Int32)  : Met l yX8_end wsX8_end ({ frames := 0, cells := 0, slots := 0, locals := 0 }) (va_Pc [.ref h0, .int n] (fun U => U.heap.size = sz ∧ va_P (dC, dI) vwCl [(h0, .inr (8, [.ref hRows, .ref hMer, .ref hEra, .ref hTape, .ref hRea, .ref hTra, .ref hWor, .ref hPla, .ref hMod, .ref hHe1, .ref hHe2, .int 0, .int 0, .int 0, .int 0, .int (-1), .int 0])), (hTape, .inr (5, [.ref aB, .int 0]))] U.heap ∧ va_K (dC, dI) vwCl [] U ∧ va_D (fun _ => True) [(h0, .inr (8, [.ref hRows, .ref hMer, .ref hEra, .ref hTape, .ref hRea, .ref hTra, .ref hWor, .ref hPla, .ref hMod, .ref hHe1, .ref hHe2, .int 0, .int 0, .int 0, .int 0, .int (-1), .int 0])), (hTape, .inr (5, [.ref aB, .int 0]))] ∧ nw_ok U)) (va_Qi (fun (r : Int32) (_ : Unit) => (n.toInt = 0 → r.toInt = 0) ∧ (¬ n.toInt = 0 → r.toInt = (-1))) (fun (_ : Unit) (t : State) => True) (va_A [(h0, .inr (8, [.ref hRows, .ref hMer, .ref hEra, .ref hTape, .ref hRea, .ref hTra, .ref hWor, .ref hPla, .ref hMod, .ref hHe1, .ref hHe2, .int 0, .int 0, .int 0, .int 0, .int (-1), .int 0])), (hTape, .inr (5, [.ref aB, .int 0]))] sz)) 0 0 (va_A [(h0, .inr (8, [.ref hRows, .ref hMer, .ref hEra, .ref hTape, .ref hRea, .ref hTra, .ref hWor, .ref hPla, .ref hMod, .ref hHe1, .ref hHe2, .int 0, .int 0, .int 0, .int 0, .int (-1), .int 0])), (hTape, .inr (5, [.ref aB, .int 0]))] sz) := by
  refine Met.ofW (cc := cX8_end) (maxL := 2) (ret := (some .int)) (by decide) rfl ?_
  intro p e s m args below meth c s₁ B hml hv
  obtain ⟨rfl, hsz, hP, hK, hD0, hN⟩ := hv
  have hx := B.exec
  have hb := B.bytes
  have hr := B.returns
  have hts := atoms_spec (ws := wsX8_end) B.pre
  have hown : s.vm.findClass RX8 = some m.cls := findClass_of_methodNamed B.named
  have hlocks := B.notSynchronized
  subst hsz
  have hD := hD0.self (sz := s.heap.size)
  generalize hAe : va_A [(h0, .inr (8, [.ref hRows, .ref hMer, .ref hEra, .ref hTape, .ref hRea, .ref hTra, .ref hWor, .ref hPla, .ref hMod, .ref hHe1, .ref hHe2, .int 0, .int 0, .int 0, .int 0, .int (-1), .int 0])), (hTape, .inr (5, [.ref aB, .int 0]))] s.heap.size = A at hD ⊢
  have hA : ∀ q : Nat, s.heap.size ≤ q → A q := fun q h => by rw [← hAe]; exact Or.inr h
  have hS : va_S A s.heap s.heap [] := va_S.rf
  have hP : va_P (dC, dI) vwCl [(h0, .inr (8, [.ref hRows, .ref hMer, .ref hEra, .ref hTape, .ref hRea, .ref hTra, .ref hWor, .ref hPla, .ref hMod, .ref hHe1, .ref hHe2, .int 0, .int 0, .int 0, .int 0, .int (-1), .int 0])), (hTape, .inr (5, [.ref aB, .int 0]))] s.heap := hP
  have hIX5 : ∀ w ∈ u_ws RX5 TX5 2, w ∈ wsX8_end := by decide +kernel
  have hIX8 : ∀ w ∈ u_ws RX8 TX8 17, w ∈ wsX8_end := by decide +kernel
  have hl := lv_entry ([.ref h0, .int n]) (n := 2) (Nat.le_of_ble_eq_true rfl)
  rw [lg_entry_eq]
  generalize (lg_sl ([.ref h0, .int n]) ++ List.replicate (2 - (lg_sl ([.ref h0, .int n])).length) Slot.unset).toArray = ls at hl ⊢
  have hl : lv_has ls 2 [(0, .ref h0), (1, .int n)] := hl
  refine lv_iload_n hx hb dX8_end_0 rfl (lv_at hl 1 rfl) ?_
  refine lv_if_lt (tgt := 15) hx hb dX8_end_1 (by decide) (fun c_1 => ?_) (fun c_1 => ?_)
  · have dc_1 : n.toInt < 0 := jI_lt c_1 rfl (by decide)
    refine lv_iconst (v := (-1)) hx hb dX8_end_15 (by decide) ?_
    have hans : ((-1) : Int32).toInt = (-1) := (by decide)
    exact W.iret (v := (-1)) hx hb hr (fun t ht hW => ⟨⟨(-1), (), rfl, by first | omega | (dsimp only; omega), trivial⟩, hS.F ht⟩) hS.2.2 dX8_end_16
  · have dc_1 : 0 ≤ n.toInt := jI_nlt c_1 rfl (by decide)
    refine lv_iload_n hx hb dX8_end_4 rfl (lv_at hl 1 rfl) ?_
    refine lv_aload_n hx hb dX8_end_5 rfl (lv_at hl 0 rfl) ?_
    refine va_get (D := (dC, dI)) (ci := 8) (v := .ref hTape) (C := RX8) (T := TX8) (N := 17) hx hb hts hIX8 hown hK hP 0 rfl rfl 3 (by decide) (hts (.fieldLink RX8 30 "TraitHouse" "tape" "LTraitHouse$Tape;") (by decide +kernel)) (fun _ h9 => h9) rfl dX8_end_6 ?_
    refine va_getN (D := (dC, dI)) (ci := 5) (v := .int 0) (C := RX5) (T := TX5) (N := 2) hx hb hts hIX5 hown hK hP 1 rfl rfl 1 (by decide) (va_Nw.use rfl (nw_at hN 10 rfl)) (fun _ h9 => h9) rfl dX8_end_9 ?_
    refine lv_icmp_le (tgt := 17) hx hb dX8_end_12 (by decide) (fun c_2 => ?_) (fun c_2 => ?_)
    · have dc_2 : n.toInt ≤ 0 := jI_le c_2 rfl (by decide)
      refine lv_aload_n hx hb dX8_end_17 rfl (lv_at hl 0 rfl) ?_
      refine va_get (D := (dC, dI)) (ci := 8) (v := .ref hTape) (C := RX8) (T := TX8) (N := 17) hx hb hts hIX8 hown hK hP 0 rfl rfl 3 (by decide) (hts (.fieldLink RX8 30 "TraitHouse" "tape" "LTraitHouse$Tape;") (by decide +kernel)) (fun _ h9 => h9) rfl dX8_end_18 ?_
      refine lv_iload_n hx hb dX8_end_21 rfl (lv_at hl 1 rfl) ?_
      refine va_putN (D := (dC, dI)) (ci := 5) (v := .int n) (ty := .int) (C := RX5) (T := TX5) (N := 2) hx hb hts hIX5 tyX5 tyX5_ok nmX5 hown hK hP hD hS 1 rfl rfl 1 (by decide) (va_Nw.use rfl (nw_at hN 10 rfl)) (fun _ h9 => h9) rfl (by decide +kernel) rfl rfl (Nat.le_of_ble_eq_true rfl) dX8_end_22 (fun H locs hP hD hS => ?_)
      have hP : va_P (dC, dI) vwCl [(h0, .inr (8, [.ref hRows, .ref hMer, .ref hEra, .ref hTape, .ref hRea, .ref hTra, .ref hWor, .ref hPla, .ref hMod, .ref hHe1, .ref hHe2, .int 0, .int 0, .int 0, .int 0, .int (-1), .int 0])), (hTape, .inr (5, [.ref aB, .int n]))] H := hP
      have hD : va_D A [(h0, .inr (8, [.ref hRows, .ref hMer, .ref hEra, .ref hTape, .ref hRea, .ref hTra, .ref hWor, .ref hPla, .ref hMod, .ref hHe1, .ref hHe2, .int 0, .int 0, .int 0, .int 0, .int (-1), .int 0])), (hTape, .inr (5, [.ref aB, .int n]))] := hD
      refine lv_iload_n hx hb dX8_end_25 rfl (lv_at hl 1 rfl) ?_
      have hans : (n : Int32).toInt = n.toInt := rfl
      exact W.iret (v := n) hx hb hr (fun t ht hW => ⟨⟨n, (), rfl, by first | omega | (dsimp only; omega), trivial⟩, hS.F ht⟩) hS.2.2 dX8_end_26
    · have dc_2 : 0 < n.toInt := jI_nle c_2 rfl (by decide)
      refine lv_iconst (v := (-1)) hx hb dX8_end_15 (by decide) ?_
      have hans : ((-1) : Int32).toInt = (-1) := (by decide)
      exact W.iret (v := (-1)) hx hb hr (fun t ht hW => ⟨⟨(-1), (), rfl, by first | omega | (dsimp only; omega), trivial⟩, hS.F ht⟩) hS.2.2 dX8_end_16

set_option maxHeartbeats 4000000 in
set_option maxRecDepth 100000 in
theorem c_X8_count (l : Launch) (dC : Nat → ClassId) (dI : Nat → Nat → Nat) (sz : Nat) (h0 : Nat) (hRows : Nat) (hMer : Nat) (hEra : Nat) (hTape : Nat) (hRea : Nat) (hTra : Nat) (hWor : Nat) (hPla : Nat) (hMod : Nat) (hHe1 : Nat) (hHe2 : Nat) (aB : Nat) (aO : Nat) (aQ : Nat) (aF : Nat) (aW : Nat) (aT : Nat) (aN : Nat) (aP : Nat) (aS : Nat) (aM : Nat) (aK : Nat) (aV : Nat) (a : Int32)  : Met l yX8_count wsX8_count ({ frames := 0, cells := 0, slots := 0, locals := 0 }) (va_Pc [.ref h0, .int a] (fun U => U.heap.size = sz ∧ va_P (dC, dI) vwCl [(h0, .inr (8, [.ref hRows, .ref hMer, .ref hEra, .ref hTape, .ref hRea, .ref hTra, .ref hWor, .ref hPla, .ref hMod, .ref hHe1, .ref hHe2, .int 0, .int 0, .int 0, .int 0, .int (-1), .int 0])), (hTape, .inr (5, [.ref aB, .int 0])), (hPla, .inr (1, [.ref aO, .ref aQ, .ref aF, .ref aW, .int 0])), (hMer, .inr (0, [.ref aT, .ref aN, .int 0])), (hRows, .inr (3, [.ref aP, .ref aS, .ref aM, .ref aK, .ref aV, .int 0, .int 0]))] U.heap ∧ va_K (dC, dI) vwCl [] U ∧ va_D (fun _ => True) [(h0, .inr (8, [.ref hRows, .ref hMer, .ref hEra, .ref hTape, .ref hRea, .ref hTra, .ref hWor, .ref hPla, .ref hMod, .ref hHe1, .ref hHe2, .int 0, .int 0, .int 0, .int 0, .int (-1), .int 0])), (hTape, .inr (5, [.ref aB, .int 0])), (hPla, .inr (1, [.ref aO, .ref aQ, .ref aF, .ref aW, .int 0])), (hMer, .inr (0, [.ref aT, .ref aN, .int 0])), (hRows, .inr (3, [.ref aP, .ref aS, .ref aM, .ref aK, .ref aV, .int 0, .int 0]))] ∧ nw_ok U)) (va_Qi (fun (r : Int32) (_ : Unit) => (0 ≤ a.toInt ∧ a.toInt ≤ 7 → r.toInt = 0) ∧ (¬ (0 ≤ a.toInt ∧ a.toInt ≤ 7) → r.toInt = (-1))) (fun (_ : Unit) (t : State) => True) (va_A [(h0, .inr (8, [.ref hRows, .ref hMer, .ref hEra, .ref hTape, .ref hRea, .ref hTra, .ref hWor, .ref hPla, .ref hMod, .ref hHe1, .ref hHe2, .int 0, .int 0, .int 0, .int 0, .int (-1), .int 0])), (hTape, .inr (5, [.ref aB, .int 0])), (hPla, .inr (1, [.ref aO, .ref aQ, .ref aF, .ref aW, .int 0])), (hMer, .inr (0, [.ref aT, .ref aN, .int 0])), (hRows, .inr (3, [.ref aP, .ref aS, .ref aM, .ref aK, .ref aV, .int 0, .int 0]))] sz)) 0 0 (va_A [(h0, .inr (8, [.ref hRows, .ref hMer, .ref hEra, .ref hTape, .ref hRea, .ref hTra, .ref hWor, .ref hPla, .ref hMod, .ref hHe1, .ref hHe2, .int 0, .int 0, .int 0, .int 0, .int (-1), .int 0])), (hTape, .inr (5, [.ref aB, .int 0])), (hPla, .inr (1, [.ref aO, .ref aQ, .ref aF, .ref aW, .int 0])), (hMer, .inr (0, [.ref aT, .ref aN, .int 0])), (hRows, .inr (3, [.ref aP, .ref aS, .ref aM, .ref aK, .ref aV, .int 0, .int 0]))] sz) := by
  refine Met.ofW (cc := cX8_count) (maxL := 2) (ret := (some .int)) (by decide) rfl ?_
  intro p e s m args below meth c s₁ B hml hv
  obtain ⟨rfl, hsz, hP, hK, hD0, hN⟩ := hv
  have hx := B.exec
  have hb := B.bytes
  have hr := B.returns
  have hts := atoms_spec (ws := wsX8_count) B.pre
  have hown : s.vm.findClass RX8 = some m.cls := findClass_of_methodNamed B.named
  have hlocks := B.notSynchronized
  subst hsz
  have hD := hD0.self (sz := s.heap.size)
  generalize hAe : va_A [(h0, .inr (8, [.ref hRows, .ref hMer, .ref hEra, .ref hTape, .ref hRea, .ref hTra, .ref hWor, .ref hPla, .ref hMod, .ref hHe1, .ref hHe2, .int 0, .int 0, .int 0, .int 0, .int (-1), .int 0])), (hTape, .inr (5, [.ref aB, .int 0])), (hPla, .inr (1, [.ref aO, .ref aQ, .ref aF, .ref aW, .int 0])), (hMer, .inr (0, [.ref aT, .ref aN, .int 0])), (hRows, .inr (3, [.ref aP, .ref aS, .ref aM, .ref aK, .ref aV, .int 0, .int 0]))] s.heap.size = A at hD ⊢
  have hA : ∀ q : Nat, s.heap.size ≤ q → A q := fun q h => by rw [← hAe]; exact Or.inr h
  have hS : va_S A s.heap s.heap [] := va_S.rf
  have hP : va_P (dC, dI) vwCl [(h0, .inr (8, [.ref hRows, .ref hMer, .ref hEra, .ref hTape, .ref hRea, .ref hTra, .ref hWor, .ref hPla, .ref hMod, .ref hHe1, .ref hHe2, .int 0, .int 0, .int 0, .int 0, .int (-1), .int 0])), (hTape, .inr (5, [.ref aB, .int 0])), (hPla, .inr (1, [.ref aO, .ref aQ, .ref aF, .ref aW, .int 0])), (hMer, .inr (0, [.ref aT, .ref aN, .int 0])), (hRows, .inr (3, [.ref aP, .ref aS, .ref aM, .ref aK, .ref aV, .int 0, .int 0]))] s.heap := hP
  have hIX0 : ∀ w ∈ u_ws RX0 TX0 3, w ∈ wsX8_count := by decide +kernel
  have hIX1 : ∀ w ∈ u_ws RX1 TX1 5, w ∈ wsX8_count := by decide +kernel
  have hIX3 : ∀ w ∈ u_ws RX3 TX3 7, w ∈ wsX8_count := by decide +kernel
  have hIX5 : ∀ w ∈ u_ws RX5 TX5 2, w ∈ wsX8_count := by decide +kernel
  have hIX8 : ∀ w ∈ u_ws RX8 TX8 17, w ∈ wsX8_count := by decide +kernel
  have hl := lv_entry ([.ref h0, .int a]) (n := 2) (Nat.le_of_ble_eq_true rfl)
  rw [lg_entry_eq]
  generalize (lg_sl ([.ref h0, .int a]) ++ List.replicate (2 - (lg_sl ([.ref h0, .int a])).length) Slot.unset).toArray = ls at hl ⊢
  have hl : lv_has ls 2 [(0, .ref h0), (1, .int a)] := hl
  refine lv_iload_n hx hb dX8_count_0 rfl (lv_at hl 1 rfl) ?_
  rcases (jI_range a 0 7 : (a.toInt < 0 ∨ 7 < a.toInt) ∨ (0 ≤ a.toInt ∧ a.toInt ≤ 7)) with hsw | hsw
  · refine lv_tableOut (tgt := 100) hx hb dX8_count_1 hsw (by decide) ?_
    refine lv_iconst (v := (-1)) hx hb dX8_count_100 (by decide) ?_
    have hans : ((-1) : Int32).toInt = (-1) := (by decide)
    exact W.iret (v := (-1)) hx hb hr (fun t ht hW => ⟨⟨(-1), (), rfl, by first | omega | (dsimp only; omega), trivial⟩, hS.F ht⟩) hS.2.2 dX8_count_101
  · rcases (show a.toInt = 0 ∨ a.toInt = 1 ∨ a.toInt = 2 ∨ a.toInt = 3 ∨ a.toInt = 4 ∨ a.toInt = 5 ∨ a.toInt = 6 ∨ a.toInt = 7 by omega) with hsw | hsw | hsw | hsw | hsw | hsw | hsw | hsw
    · refine lv_tableIn (off := 47) (tgt := 48) hx hb dX8_count_1 (by omega) (by omega) (by rw [hsw]; rfl) (by decide) ?_
      refine lv_aload_n hx hb dX8_count_48 rfl (lv_at hl 0 rfl) ?_
      refine va_get (D := (dC, dI)) (ci := 8) (v := .int 0) (C := RX8) (T := TX8) (N := 17) hx hb hts hIX8 hown hK hP 0 rfl rfl 11 (by decide) (hts (.fieldLink RX8 83 "TraitHouse" "now" "I") (by decide +kernel)) (fun _ h9 => h9) rfl dX8_count_49 ?_
      have hans : (0 : Int32).toInt = 0 := (by decide)
      exact W.iret (v := 0) hx hb hr (fun t ht hW => ⟨⟨0, (), rfl, by first | omega | (dsimp only; omega), trivial⟩, hS.F ht⟩) hS.2.2 dX8_count_52
    · refine lv_tableIn (off := 52) (tgt := 53) hx hb dX8_count_1 (by omega) (by omega) (by rw [hsw]; rfl) (by decide) ?_
      refine lv_aload_n hx hb dX8_count_53 rfl (lv_at hl 0 rfl) ?_
      refine va_get (D := (dC, dI)) (ci := 8) (v := .ref hRows) (C := RX8) (T := TX8) (N := 17) hx hb hts hIX8 hown hK hP 0 rfl rfl 0 (by decide) (hts (.fieldLink RX8 10 "TraitHouse" "rows" "LTraitHouse$Rows;") (by decide +kernel)) (fun _ h9 => h9) rfl dX8_count_54 ?_
      refine va_getN (D := (dC, dI)) (ci := 3) (v := .int 0) (C := RX3) (T := TX3) (N := 7) hx hb hts hIX3 hown hK hP 4 rfl rfl 5 (by decide) (va_Nw.use rfl (nw_at hN 6 rfl)) (fun _ h9 => h9) rfl dX8_count_57 ?_
      have hans : (0 : Int32).toInt = 0 := (by decide)
      exact W.iret (v := 0) hx hb hr (fun t ht hW => ⟨⟨0, (), rfl, by first | omega | (dsimp only; omega), trivial⟩, hS.F ht⟩) hS.2.2 dX8_count_60
    · refine lv_tableIn (off := 60) (tgt := 61) hx hb dX8_count_1 (by omega) (by omega) (by rw [hsw]; rfl) (by decide) ?_
      refine lv_aload_n hx hb dX8_count_61 rfl (lv_at hl 0 rfl) ?_
      refine va_get (D := (dC, dI)) (ci := 8) (v := .ref hMer) (C := RX8) (T := TX8) (N := 17) hx hb hts hIX8 hown hK hP 0 rfl rfl 1 (by decide) (hts (.fieldLink RX8 19 "TraitHouse" "merges" "LTraitHouse$Merges;") (by decide +kernel)) (fun _ h9 => h9) rfl dX8_count_62 ?_
      refine va_getN (D := (dC, dI)) (ci := 0) (v := .int 0) (C := RX0) (T := TX0) (N := 3) hx hb hts hIX0 hown hK hP 3 rfl rfl 2 (by decide) (va_Nw.use rfl (nw_at hN 7 rfl)) (fun _ h9 => h9) rfl dX8_count_65 ?_
      have hans : (0 : Int32).toInt = 0 := (by decide)
      exact W.iret (v := 0) hx hb hr (fun t ht hW => ⟨⟨0, (), rfl, by first | omega | (dsimp only; omega), trivial⟩, hS.F ht⟩) hS.2.2 dX8_count_68
    · refine lv_tableIn (off := 68) (tgt := 69) hx hb dX8_count_1 (by omega) (by omega) (by rw [hsw]; rfl) (by decide) ?_
      refine lv_aload_n hx hb dX8_count_69 rfl (lv_at hl 0 rfl) ?_
      refine va_get (D := (dC, dI)) (ci := 8) (v := .int 0) (C := RX8) (T := TX8) (N := 17) hx hb hts hIX8 hown hK hP 0 rfl rfl 12 (by decide) (hts (.fieldLink RX8 127 "TraitHouse" "erasedPeople" "I") (by decide +kernel)) (fun _ h9 => h9) rfl dX8_count_70 ?_
      have hans : (0 : Int32).toInt = 0 := (by decide)
      exact W.iret (v := 0) hx hb hr (fun t ht hW => ⟨⟨0, (), rfl, by first | omega | (dsimp only; omega), trivial⟩, hS.F ht⟩) hS.2.2 dX8_count_73
    · refine lv_tableIn (off := 73) (tgt := 74) hx hb dX8_count_1 (by omega) (by omega) (by rw [hsw]; rfl) (by decide) ?_
      refine lv_aload_n hx hb dX8_count_74 rfl (lv_at hl 0 rfl) ?_
      refine va_get (D := (dC, dI)) (ci := 8) (v := .int 0) (C := RX8) (T := TX8) (N := 17) hx hb hts hIX8 hown hK hP 0 rfl rfl 13 (by decide) (hts (.fieldLink RX8 148 "TraitHouse" "traitsThere" "I") (by decide +kernel)) (fun _ h9 => h9) rfl dX8_count_75 ?_
      have hans : (0 : Int32).toInt = 0 := (by decide)
      exact W.iret (v := 0) hx hb hr (fun t ht hW => ⟨⟨0, (), rfl, by first | omega | (dsimp only; omega), trivial⟩, hS.F ht⟩) hS.2.2 dX8_count_78
    · refine lv_tableIn (off := 78) (tgt := 79) hx hb dX8_count_1 (by omega) (by omega) (by rw [hsw]; rfl) (by decide) ?_
      refine lv_aload_n hx hb dX8_count_79 rfl (lv_at hl 0 rfl) ?_
      refine va_get (D := (dC, dI)) (ci := 8) (v := .int 0) (C := RX8) (T := TX8) (N := 17) hx hb hts hIX8 hown hK hP 0 rfl rfl 14 (by decide) (hts (.fieldLink RX8 250 "TraitHouse" "modelsThere" "I") (by decide +kernel)) (fun _ h9 => h9) rfl dX8_count_80 ?_
      have hans : (0 : Int32).toInt = 0 := (by decide)
      exact W.iret (v := 0) hx hb hr (fun t ht hW => ⟨⟨0, (), rfl, by first | omega | (dsimp only; omega), trivial⟩, hS.F ht⟩) hS.2.2 dX8_count_83
    · refine lv_tableIn (off := 83) (tgt := 84) hx hb dX8_count_1 (by omega) (by omega) (by rw [hsw]; rfl) (by decide) ?_
      refine lv_aload_n hx hb dX8_count_84 rfl (lv_at hl 0 rfl) ?_
      refine va_get (D := (dC, dI)) (ci := 8) (v := .ref hPla) (C := RX8) (T := TX8) (N := 17) hx hb hts hIX8 hown hK hP 0 rfl rfl 7 (by decide) (hts (.fieldLink RX8 61 "TraitHouse" "places" "LTraitHouse$Places;") (by decide +kernel)) (fun _ h9 => h9) rfl dX8_count_85 ?_
      refine va_getN (D := (dC, dI)) (ci := 1) (v := .int 0) (C := RX1) (T := TX1) (N := 5) hx hb hts hIX1 hown hK hP 2 rfl rfl 4 (by decide) (va_Nw.use rfl (nw_at hN 16 rfl)) (fun _ h9 => h9) rfl dX8_count_88 ?_
      have hans : (0 : Int32).toInt = 0 := (by decide)
      exact W.iret (v := 0) hx hb hr (fun t ht hW => ⟨⟨0, (), rfl, by first | omega | (dsimp only; omega), trivial⟩, hS.F ht⟩) hS.2.2 dX8_count_91
    · refine lv_tableIn (off := 91) (tgt := 92) hx hb dX8_count_1 (by omega) (by omega) (by rw [hsw]; rfl) (by decide) ?_
      refine lv_aload_n hx hb dX8_count_92 rfl (lv_at hl 0 rfl) ?_
      refine va_get (D := (dC, dI)) (ci := 8) (v := .ref hTape) (C := RX8) (T := TX8) (N := 17) hx hb hts hIX8 hown hK hP 0 rfl rfl 3 (by decide) (hts (.fieldLink RX8 30 "TraitHouse" "tape" "LTraitHouse$Tape;") (by decide +kernel)) (fun _ h9 => h9) rfl dX8_count_93 ?_
      refine va_getN (D := (dC, dI)) (ci := 5) (v := .int 0) (C := RX5) (T := TX5) (N := 2) hx hb hts hIX5 hown hK hP 1 rfl rfl 1 (by decide) (va_Nw.use rfl (nw_at hN 10 rfl)) (fun _ h9 => h9) rfl dX8_count_96 ?_
      have hans : (0 : Int32).toInt = 0 := (by decide)
      exact W.iret (v := 0) hx hb hr (fun t ht hW => ⟨⟨0, (), rfl, by first | omega | (dsimp only; omega), trivial⟩, hS.F ht⟩) hS.2.2 dX8_count_99
end
section
theorem dX8_needsOf_0 : decode cX8_needsOf 0 = .ok (.iconst 0, 1) := by decide +kernel
theorem dX8_needsOf_1 : decode cX8_needsOf 1 = .ok (.istore_n 2, 1) := by decide +kernel
theorem dX8_needsOf_2 : decode cX8_needsOf 2 = .ok (.iconst 0, 1) := by decide +kernel
theorem dX8_needsOf_3 : decode cX8_needsOf 3 = .ok (.istore_n 3, 1) := by decide +kernel
theorem dX8_needsOf_4 : decode cX8_needsOf 4 = .ok (.iload_n 3, 1) := by decide +kernel
theorem dX8_needsOf_5 : decode cX8_needsOf 5 = .ok (.aload_n 0, 1) := by decide +kernel
theorem dX8_needsOf_6 : decode cX8_needsOf 6 = .ok (.getfield 148, 3) := by decide +kernel
theorem dX8_needsOf_9 : decode cX8_needsOf 9 = .ok (.if_icmp .ge 37, 3) := by decide +kernel
theorem dX8_needsOf_46 : decode cX8_needsOf 46 = .ok (.iload_n 2, 1) := by decide +kernel
theorem dX8_needsOf_47 : decode cX8_needsOf 47 = .ok (.ireturn, 1) := by decide +kernel
theorem dX8_placesToFill_0 : decode cX8_placesToFill 0 = .ok (.iload_n 2, 1) := by decide +kernel
set_option maxRecDepth 20000 in
theorem ggX8_placesToFill_X8_isMoment : GoodIn wsX8_placesToFill wsX8_isMoment := goodIn_r _ [7, 8] (by decide +kernel) (by decide +kernel)
set_option maxRecDepth 20000 in
theorem gX8_placesToFill_X8_isMoment : GoodIn wsX8_placesToFill (va_wsS RX8 79 yX8_isMoment wsX8_isMoment) := goodIn_app (goodIn_of _ (by decide +kernel)) ggX8_placesToFill_X8_isMoment
theorem dX8_placesToFill_1 : decode cX8_placesToFill 1 = .ok (.invokestatic 79, 3) := by decide +kernel
theorem dX8_placesToFill_4 : decode cX8_placesToFill 4 = .ok (.ifCond .eq 29, 3) := by decide +kernel
theorem dX8_placesToFill_33 : decode cX8_placesToFill 33 = .ok (.iconst (-1), 1) := by decide +kernel
theorem dX8_placesToFill_34 : decode cX8_placesToFill 34 = .ok (.ireturn, 1) := by decide +kernel
theorem dX8_placesToFill_7 : decode cX8_placesToFill 7 = .ok (.iload_n 3, 1) := by decide +kernel
theorem dX8_placesToFill_8 : decode cX8_placesToFill 8 = .ok (.invokestatic 79, 3) := by decide +kernel
theorem dX8_placesToFill_11 : decode cX8_placesToFill 11 = .ok (.ifCond .eq 22, 3) := by decide +kernel
theorem dX8_placesToFill_14 : decode cX8_placesToFill 14 = .ok (.iload_n 3, 1) := by decide +kernel
theorem dX8_placesToFill_15 : decode cX8_placesToFill 15 = .ok (.aload_n 0, 1) := by decide +kernel
theorem dX8_placesToFill_16 : decode cX8_placesToFill 16 = .ok (.getfield 83, 3) := by decide +kernel
theorem dX8_placesToFill_19 : decode cX8_placesToFill 19 = .ok (.if_icmp .gt 14, 3) := by decide +kernel
theorem dX8_placesToFill_22 : decode cX8_placesToFill 22 = .ok (.iload_n 2, 1) := by decide +kernel
theorem dX8_placesToFill_23 : decode cX8_placesToFill 23 = .ok (.iload_n 3, 1) := by decide +kernel
theorem dX8_placesToFill_24 : decode cX8_placesToFill 24 = .ok (.if_icmp .gt 9, 3) := by decide +kernel
theorem dX8_placesToFill_27 : decode cX8_placesToFill 27 = .ok (.iload 4, 2) := by decide +kernel
theorem dX8_placesToFill_29 : decode cX8_placesToFill 29 = .ok (.iconst 1, 1) := by decide +kernel
theorem dX8_placesToFill_30 : decode cX8_placesToFill 30 = .ok (.if_icmp .ge 5, 3) := by decide +kernel
theorem dX8_placesToFill_35 : decode cX8_placesToFill 35 = .ok (.iload_n 3, 1) := by decide +kernel
theorem dX8_placesToFill_36 : decode cX8_placesToFill 36 = .ok (.iload_n 2, 1) := by decide +kernel
theorem dX8_placesToFill_37 : decode cX8_placesToFill 37 = .ok (.isub, 1) := by decide +kernel
theorem dX8_placesToFill_38 : decode cX8_placesToFill 38 = .ok (.iload 4, 2) := by decide +kernel
theorem dX8_placesToFill_40 : decode cX8_placesToFill 40 = .ok (.idiv, 1) := by decide +kernel
theorem dX8_placesToFill_41 : decode cX8_placesToFill 41 = .ok (.iconst 1, 1) := by decide +kernel
theorem dX8_placesToFill_42 : decode cX8_placesToFill 42 = .ok (.iadd, 1) := by decide +kernel
theorem dX8_placesToFill_43 : decode cX8_placesToFill 43 = .ok (.istore 5, 2) := by decide +kernel
theorem dX8_placesToFill_45 : decode cX8_placesToFill 45 = .ok (.iload 5, 2) := by decide +kernel
theorem dX8_placesToFill_47 : decode cX8_placesToFill 47 = .ok (.bipush 40, 2) := by decide +kernel
theorem dX8_placesToFill_49 : decode cX8_placesToFill 49 = .ok (.if_icmp .le 5, 3) := by decide +kernel
theorem dX8_placesToFill_54 : decode cX8_placesToFill 54 = .ok (.aload_n 0, 1) := by decide +kernel
theorem dX8_placesToFill_55 : decode cX8_placesToFill 55 = .ok (.iload_n 1, 1) := by decide +kernel
set_option maxRecDepth 20000 in
theorem ggX8_placesToFill_X8_traitAt : GoodIn wsX8_placesToFill wsX8_traitAt := goodIn_r _ [12, 13, 14, 20, 21, 22, 23, 24, 25, 26, 27, 28, 29, 30, 31, 32, 33, 34, 35, 36] (by decide +kernel) (by decide +kernel)
set_option maxRecDepth 20000 in
theorem gX8_placesToFill_X8_traitAt : GoodIn wsX8_placesToFill (wsV RX8 130 RX8 yX8_traitAt wsX8_traitAt) := goodIn_app (goodIn_of _ (by decide +kernel)) ggX8_placesToFill_X8_traitAt
theorem dX8_placesToFill_56 : decode cX8_placesToFill 56 = .ok (.invokevirtual 130, 3) := by decide +kernel
theorem dX8_placesToFill_59 : decode cX8_placesToFill 59 = .ok (.ifnonnull 6, 3) := by decide +kernel
theorem dX8_placesToFill_62 : decode cX8_placesToFill 62 = .ok (.bipush (-2), 2) := by decide +kernel
theorem dX8_placesToFill_64 : decode cX8_placesToFill 64 = .ok (.ireturn, 1) := by decide +kernel
theorem dX8_fill_0 : decode cX8_fill 0 = .ok (.aload_n 0, 1) := by decide +kernel
theorem dX8_fill_1 : decode cX8_fill 1 = .ok (.iload_n 1, 1) := by decide +kernel
theorem dX8_fill_2 : decode cX8_fill 2 = .ok (.iload_n 2, 1) := by decide +kernel
theorem dX8_fill_3 : decode cX8_fill 3 = .ok (.iload_n 3, 1) := by decide +kernel
theorem dX8_fill_4 : decode cX8_fill 4 = .ok (.iload 4, 2) := by decide +kernel
set_option maxRecDepth 20000 in
theorem ggX8_fill_X8_placesToFill : GoodIn wsX8_fill wsX8_placesToFill := goodIn_r _ [5, 6, 7, 8, 9, 10, 4, 11, 12, 13, 14, 15, 16, 17, 18, 19, 20, 21, 22, 23, 126, 127, 128, 129, 130, 131, 132, 133, 134, 135, 136, 137, 138, 139, 140, 141, 142, 143, 144, 145, 146, 147] (by decide +kernel) (by decide +kernel)
set_option maxRecDepth 20000 in
theorem gX8_fill_X8_placesToFill : GoodIn wsX8_fill (wsV RX8 224 RX8 yX8_placesToFill wsX8_placesToFill) := goodIn_app (goodIn_of _ (by decide +kernel)) ggX8_fill_X8_placesToFill
theorem dX8_fill_6 : decode cX8_fill 6 = .ok (.invokevirtual 224, 3) := by decide +kernel
theorem dX8_fill_9 : decode cX8_fill 9 = .ok (.istore 5, 2) := by decide +kernel
theorem dX8_fill_11 : decode cX8_fill 11 = .ok (.iload 5, 2) := by decide +kernel
theorem dX8_fill_13 : decode cX8_fill 13 = .ok (.ifCond .le 34, 3) := by decide +kernel
theorem dX8_fill_47 : decode cX8_fill 47 = .ok (.aload_n 0, 1) := by decide +kernel
theorem dX8_fill_48 : decode cX8_fill 48 = .ok (.iload 5, 2) := by decide +kernel
set_option maxRecDepth 20000 in
theorem ggX8_fill_X8_settle : GoodIn wsX8_fill wsX8_settle := goodIn_r _ [121, 122, 123, 75, 124, 125, 126, 127, 128, 129, 130, 131, 132, 133, 134, 135, 136, 137, 138, 139, 140, 141, 142] (by decide +kernel) (by decide +kernel)
set_option maxRecDepth 20000 in
theorem gX8_fill_X8_settle : GoodIn wsX8_fill (wsV RX8 86 RX8 yX8_settle wsX8_settle) := goodIn_app (goodIn_of _ (by decide +kernel)) ggX8_fill_X8_settle
theorem dX8_fill_50 : decode cX8_fill 50 = .ok (.invokevirtual 86, 3) := by decide +kernel
theorem dX8_fill_53 : decode cX8_fill 53 = .ok (.ireturn, 1) := by decide +kernel
theorem dX8_model_0 : decode cX8_model 0 = .ok (.iload_n 1, 1) := by decide +kernel
theorem dX8_model_1 : decode cX8_model 1 = .ok (.aload_n 0, 1) := by decide +kernel
theorem dX8_model_2 : decode cX8_model 2 = .ok (.getfield 148, 3) := by decide +kernel
theorem dX8_model_5 : decode cX8_model 5 = .ok (.iushr, 1) := by decide +kernel
theorem dX8_model_6 : decode cX8_model 6 = .ok (.ifCond .eq 9, 3) := by decide +kernel
theorem dX8_model_15 : decode cX8_model 15 = .ok (.aload_n 0, 1) := by decide +kernel
theorem dX8_model_16 : decode cX8_model 16 = .ok (.getfield 250, 3) := by decide +kernel
theorem dX8_model_19 : decode cX8_model 19 = .ok (.bipush 10, 2) := by decide +kernel
theorem dX8_model_21 : decode cX8_model 21 = .ok (.if_icmp .lt 10, 3) := by decide +kernel
theorem dX8_model_31 : decode cX8_model 31 = .ok (.aload_n 0, 1) := by decide +kernel
theorem dX8_model_32 : decode cX8_model 32 = .ok (.getfield 65, 3) := by decide +kernel
theorem dX8_model_35 : decode cX8_model 35 = .ok (.aload_n 0, 1) := by decide +kernel
theorem dX8_model_36 : decode cX8_model 36 = .ok (.getfield 250, 3) := by decide +kernel
theorem dX8_model_39 : decode cX8_model 39 = .ok (.aload_n 0, 1) := by decide +kernel
theorem dX8_model_40 : decode cX8_model 40 = .ok (.iload_n 1, 1) := by decide +kernel
set_option maxRecDepth 20000 in
theorem ggX8_model_X8_needsOf : GoodIn wsX8_model wsX8_needsOf := goodIn_r _ [17, 1, 18, 19, 20, 7, 21, 22, 23, 24, 25, 26, 27, 28, 29, 30, 31, 32, 33, 34, 35, 36, 37, 38, 39, 40, 41, 42, 43, 44, 45, 46, 47, 48, 49, 50] (by decide +kernel) (by decide +kernel)
set_option maxRecDepth 20000 in
theorem gX8_model_X8_needsOf : GoodIn wsX8_model (wsV RX8 169 RX8 yX8_needsOf wsX8_needsOf) := goodIn_app (goodIn_of _ (by decide +kernel)) ggX8_model_X8_needsOf
theorem dX8_model_41 : decode cX8_model 41 = .ok (.invokevirtual 169, 3) := by decide +kernel
theorem dX8_model_44 : decode cX8_model 44 = .ok (.iastore, 1) := by decide +kernel
theorem dX8_model_45 : decode cX8_model 45 = .ok (.aload_n 0, 1) := by decide +kernel
theorem dX8_model_46 : decode cX8_model 46 = .ok (.dup, 1) := by decide +kernel
theorem dX8_model_47 : decode cX8_model 47 = .ok (.getfield 250, 3) := by decide +kernel
theorem dX8_model_50 : decode cX8_model 50 = .ok (.iconst 1, 1) := by decide +kernel
theorem dX8_model_51 : decode cX8_model 51 = .ok (.iadd, 1) := by decide +kernel
theorem dX8_model_52 : decode cX8_model 52 = .ok (.putfield 250, 3) := by decide +kernel
theorem dX8_model_55 : decode cX8_model 55 = .ok (.aload_n 0, 1) := by decide +kernel
theorem dX8_model_56 : decode cX8_model 56 = .ok (.aload_n 0, 1) := by decide +kernel
theorem dX8_model_57 : decode cX8_model 57 = .ok (.getfield 250, 3) := by decide +kernel
theorem dX8_model_60 : decode cX8_model 60 = .ok (.iconst 1, 1) := by decide +kernel
theorem dX8_model_61 : decode cX8_model 61 = .ok (.isub, 1) := by decide +kernel
set_option maxRecDepth 20000 in
theorem ggX8_model_X8_settle : GoodIn wsX8_model wsX8_settle := goodIn_r _ [8, 9, 10, 11, 12, 13, 26, 27, 28, 29, 30, 31, 32, 33, 34, 35, 36, 37, 38, 39, 40, 41, 42] (by decide +kernel) (by decide +kernel)
set_option maxRecDepth 20000 in
theorem gX8_model_X8_settle : GoodIn wsX8_model (wsV RX8 86 RX8 yX8_settle wsX8_settle) := goodIn_app (goodIn_of _ (by decide +kernel)) ggX8_model_X8_settle
theorem dX8_model_62 : decode cX8_model 62 = .ok (.invokevirtual 86, 3) := by decide +kernel
theorem dX8_model_65 : decode cX8_model 65 = .ok (.ireturn, 1) := by decide +kernel
theorem dX8_model_9 : decode cX8_model 9 = .ok (.aload_n 0, 1) := by decide +kernel
theorem dX8_model_10 : decode cX8_model 10 = .ok (.iconst (-1), 1) := by decide +kernel
theorem dX8_model_11 : decode cX8_model 11 = .ok (.invokevirtual 86, 3) := by decide +kernel
theorem dX8_model_14 : decode cX8_model 14 = .ok (.ireturn, 1) := by decide +kernel
set_option maxHeartbeats 4000000 in
set_option maxRecDepth 100000 in
theorem c_X8_needsOf (l : Launch) (dC : Nat → ClassId) (dI : Nat → Nat → Nat) (sz : Nat) (h0 : Nat) (hRows : Nat) (hMer : Nat) (hEra : Nat) (hTape : Nat) (hRea : Nat) (hTra : Nat) (hWor : Nat) (hPla : Nat) (hMod : Nat) (hHe1 : Nat) (hHe2 : Nat) (a : Int32)  : Met l yX8_needsOf wsX8_needsOf ({ frames := 0, cells := 0, slots := 0, locals := 0 }) (va_Pc [.ref h0, .int a] (fun U => U.heap.size = sz ∧ va_P (dC, dI) vwCl [(h0, .inr (8, [.ref hRows, .ref hMer, .ref hEra, .ref hTape, .ref hRea, .ref hTra, .ref hWor, .ref hPla, .ref hMod, .ref hHe1, .ref hHe2, .int 0, .int 0, .int 0, .int 0, .int (-1), .int 0]))] U.heap ∧ va_K (dC, dI) vwCl [] U ∧ va_D (fun _ => True) [(h0, .inr (8, [.ref hRows, .ref hMer, .ref hEra, .ref hTape, .ref hRea, .ref hTra, .ref hWor, .ref hPla, .ref hMod, .ref hHe1, .ref hHe2, .int 0, .int 0, .int 0, .int 0, .int (-1), .int 0]))] ∧ nw_ok U)) (va_Qi (fun (r : Int32) (_ : Unit) => r = 0) (fun (_ : Unit) (t : State) => va_P (dC, dI) vwCl [(h0, .inr (8, [.ref hRows, .ref hMer, .ref hEra, .ref hTape, .ref hRea, .ref hTra, .ref hWor, .ref hPla, .ref hMod, .ref hHe1, .ref hHe2, .int 0, .int 0, .int 0, .int 0, .int (-1), .int 0]))] t.heap ∧ va_K (dC, dI) vwCl [] t ∧ va_D (va_A [(h0, .inr (8, [.ref hRows, .ref hMer, .ref hEra, .ref hTape, .ref hRea, .ref hTra, .ref hWor, .ref hPla, .ref hMod, .ref hHe1, .ref hHe2, .int 0, .int 0, .int 0, .int 0, .int (-1), .int 0]))] sz) [(h0, .inr (8, [.ref hRows, .ref hMer, .ref hEra, .ref hTape, .ref hRea, .ref hTra, .ref hWor, .ref hPla, .ref hMod, .ref hHe1, .ref hHe2, .int 0, .int 0, .int 0, .int 0, .int (-1), .int 0]))]) (va_A [(h0, .inr (8, [.ref hRows, .ref hMer, .ref hEra, .ref hTape, .ref hRea, .ref hTra, .ref hWor, .ref hPla, .ref hMod, .ref hHe1, .ref hHe2, .int 0, .int 0, .int 0, .int 0, .int (-1), .int 0]))] sz)) 0 0 (va_A [(h0, .inr (8, [.ref hRows, .ref hMer, .ref hEra, .ref hTape, .ref hRea, .ref hTra, .ref hWor, .ref hPla, .ref hMod, .ref hHe1, .ref hHe2, .int 0, .int 0, .int 0, .int 0, .int (-1), .int 0]))] sz) := by
  refine Met.ofW (cc := cX8_needsOf) (maxL := 5) (ret := (some .int)) (by decide) rfl ?_
  intro p e s m args below meth c s₁ B hml hv
  obtain ⟨rfl, hsz, hP, hK, hD0, hN⟩ := hv
  have hx := B.exec
  have hb := B.bytes
  have hr := B.returns
  have hts := atoms_spec (ws := wsX8_needsOf) B.pre
  have hown : s.vm.findClass RX8 = some m.cls := findClass_of_methodNamed B.named
  have hlocks := B.notSynchronized
  subst hsz
  have hD := hD0.self (sz := s.heap.size)
  generalize hAe : va_A [(h0, .inr (8, [.ref hRows, .ref hMer, .ref hEra, .ref hTape, .ref hRea, .ref hTra, .ref hWor, .ref hPla, .ref hMod, .ref hHe1, .ref hHe2, .int 0, .int 0, .int 0, .int 0, .int (-1), .int 0]))] s.heap.size = A at hD ⊢
  have hA : ∀ q : Nat, s.heap.size ≤ q → A q := fun q h => by rw [← hAe]; exact Or.inr h
  have hS : va_S A s.heap s.heap [] := va_S.rf
  have hP : va_P (dC, dI) vwCl [(h0, .inr (8, [.ref hRows, .ref hMer, .ref hEra, .ref hTape, .ref hRea, .ref hTra, .ref hWor, .ref hPla, .ref hMod, .ref hHe1, .ref hHe2, .int 0, .int 0, .int 0, .int 0, .int (-1), .int 0]))] s.heap := hP
  have hIX8 : ∀ w ∈ u_ws RX8 TX8 17, w ∈ wsX8_needsOf := by decide +kernel
  have hl := lv_entry ([.ref h0, .int a]) (n := 5) (Nat.le_of_ble_eq_true rfl)
  rw [lg_entry_eq]
  generalize (lg_sl ([.ref h0, .int a]) ++ List.replicate (5 - (lg_sl ([.ref h0, .int a])).length) Slot.unset).toArray = ls at hl ⊢
  have hl : lv_has ls 5 [(0, .ref h0), (1, .int a)] := hl
  refine lv_iconst (v := 0) hx hb dX8_needsOf_0 (by decide) ?_
  refine lv_istore_n (lv' := [(2, .int 0), (0, .ref h0), (1, .int a)]) hx hb dX8_needsOf_1 rfl hl (by decide) rfl (fun ls hl => ?_)
  refine lv_iconst (v := 0) hx hb dX8_needsOf_2 (by decide) ?_
  refine lv_istore_n (lv' := [(3, .int 0), (2, .int 0), (0, .ref h0), (1, .int a)]) hx hb dX8_needsOf_3 rfl hl (by decide) rfl (fun ls hl => ?_)
  refine lv_iload_n hx hb dX8_needsOf_4 rfl (lv_at hl 0 rfl) ?_
  refine lv_aload_n hx hb dX8_needsOf_5 rfl (lv_at hl 2 rfl) ?_
  refine va_get (D := (dC, dI)) (ci := 8) (v := .int 0) (C := RX8) (T := TX8) (N := 17) hx hb hts hIX8 hown hK hP 0 rfl rfl 13 (by decide) (hts (.fieldLink RX8 148 "TraitHouse" "traitsThere" "I") (by decide +kernel)) (fun _ h9 => h9) rfl dX8_needsOf_6 ?_
  refine lv_icmp_ge (tgt := 46) hx hb dX8_needsOf_9 (by decide) (fun c_1 => ?_) (fun c_1 => absurd (by decide) c_1)
  refine lv_iload_n hx hb dX8_needsOf_46 rfl (lv_at hl 1 rfl) ?_
  have hP9 := hP.sub (ws' := [(h0, .inr (8, [.ref hRows, .ref hMer, .ref hEra, .ref hTape, .ref hRea, .ref hTra, .ref hWor, .ref hPla, .ref hMod, .ref hHe1, .ref hHe2, .int 0, .int 0, .int 0, .int 0, .int (-1), .int 0]))]) [0] rfl
  have hD9 := hD.sub (ws' := [(h0, .inr (8, [.ref hRows, .ref hMer, .ref hEra, .ref hTape, .ref hRea, .ref hTra, .ref hWor, .ref hPla, .ref hMod, .ref hHe1, .ref hHe2, .int 0, .int 0, .int 0, .int 0, .int (-1), .int 0]))]) [0] (by decide) rfl
  have hK9 := hK.sub (tys' := []) [] rfl
  exact W.iret (v := 0) hx hb hr (fun t ht hW => ⟨⟨0, (), rfl, rfl, by rw [ht]; exact hP9, va_K.moved hW.alike hK9, hD9⟩, hS.F ht⟩) hS.2.2 dX8_needsOf_47

set_option maxHeartbeats 4000000 in
set_option maxRecDepth 100000 in
theorem c_X8_placesToFill (l : Launch) (dC : Nat → ClassId) (dI : Nat → Nat → Nat) (sz : Nat) (h0 : Nat) (hRows : Nat) (hMer : Nat) (hEra : Nat) (hTape : Nat) (hRea : Nat) (hTra : Nat) (hWor : Nat) (hPla : Nat) (hMod : Nat) (hHe1 : Nat) (hHe2 : Nat) (tt : Int32) (a : Int32) (b : Int32) (d : Int32)  : Met l yX8_placesToFill wsX8_placesToFill ({ frames := 1, cells := 0, slots := 0, locals := 21 }) (va_Pc [.ref h0, .int tt, .int a, .int b, .int d] (fun U => U.heap.size = sz ∧ va_P (dC, dI) vwCl [(h0, .inr (8, [.ref hRows, .ref hMer, .ref hEra, .ref hTape, .ref hRea, .ref hTra, .ref hWor, .ref hPla, .ref hMod, .ref hHe1, .ref hHe2, .int 0, .int 0, .int 0, .int 0, .int (-1), .int 0]))] U.heap ∧ va_K (dC, dI) vwCl [] U ∧ va_D (fun _ => True) [(h0, .inr (8, [.ref hRows, .ref hMer, .ref hEra, .ref hTape, .ref hRea, .ref hTra, .ref hWor, .ref hPla, .ref hMod, .ref hHe1, .ref hHe2, .int 0, .int 0, .int 0, .int 0, .int (-1), .int 0]))] ∧ nw_ok U)) (va_Qi (fun (r : Int32) (_ : Unit) => (a.toInt = 0 ∧ b.toInt = 0 ∧ 1 ≤ d.toInt → r.toInt = (-2)) ∧ (¬ (a.toInt = 0 ∧ b.toInt = 0 ∧ 1 ≤ d.toInt) → r.toInt = (-1))) (fun (_ : Unit) (t : State) => va_P (dC, dI) vwCl [(h0, .inr (8, [.ref hRows, .ref hMer, .ref hEra, .ref hTape, .ref hRea, .ref hTra, .ref hWor, .ref hPla, .ref hMod, .ref hHe1, .ref hHe2, .int 0, .int 0, .int 0, .int 0, .int (-1), .int 0]))] t.heap ∧ va_K (dC, dI) vwCl [] t ∧ va_D (va_A [(h0, .inr (8, [.ref hRows, .ref hMer, .ref hEra, .ref hTape, .ref hRea, .ref hTra, .ref hWor, .ref hPla, .ref hMod, .ref hHe1, .ref hHe2, .int 0, .int 0, .int 0, .int 0, .int (-1), .int 0]))] sz) [(h0, .inr (8, [.ref hRows, .ref hMer, .ref hEra, .ref hTape, .ref hRea, .ref hTra, .ref hWor, .ref hPla, .ref hMod, .ref hHe1, .ref hHe2, .int 0, .int 0, .int 0, .int 0, .int (-1), .int 0]))]) (va_A [(h0, .inr (8, [.ref hRows, .ref hMer, .ref hEra, .ref hTape, .ref hRea, .ref hTra, .ref hWor, .ref hPla, .ref hMod, .ref hHe1, .ref hHe2, .int 0, .int 0, .int 0, .int 0, .int (-1), .int 0]))] sz)) 0 0 (va_A [(h0, .inr (8, [.ref hRows, .ref hMer, .ref hEra, .ref hTape, .ref hRea, .ref hTra, .ref hWor, .ref hPla, .ref hMod, .ref hHe1, .ref hHe2, .int 0, .int 0, .int 0, .int 0, .int (-1), .int 0]))] sz) := by
  refine Met.ofW (cc := cX8_placesToFill) (maxL := 7) (ret := (some .int)) (by decide) rfl ?_
  intro p e s m args below meth c s₁ B hml hv
  obtain ⟨rfl, hsz, hP, hK, hD0, hN⟩ := hv
  have hx := B.exec
  have hb := B.bytes
  have hr := B.returns
  have hts := atoms_spec (ws := wsX8_placesToFill) B.pre
  have hown : s.vm.findClass RX8 = some m.cls := findClass_of_methodNamed B.named
  have hlocks := B.notSynchronized
  subst hsz
  have hD := hD0.self (sz := s.heap.size)
  generalize hAe : va_A [(h0, .inr (8, [.ref hRows, .ref hMer, .ref hEra, .ref hTape, .ref hRea, .ref hTra, .ref hWor, .ref hPla, .ref hMod, .ref hHe1, .ref hHe2, .int 0, .int 0, .int 0, .int 0, .int (-1), .int 0]))] s.heap.size = A at hD ⊢
  have hA : ∀ q : Nat, s.heap.size ≤ q → A q := fun q h => by rw [← hAe]; exact Or.inr h
  have hS : va_S A s.heap s.heap [] := va_S.rf
  have hP : va_P (dC, dI) vwCl [(h0, .inr (8, [.ref hRows, .ref hMer, .ref hEra, .ref hTape, .ref hRea, .ref hTra, .ref hWor, .ref hPla, .ref hMod, .ref hHe1, .ref hHe2, .int 0, .int 0, .int 0, .int 0, .int (-1), .int 0]))] s.heap := hP
  have hIX8 : ∀ w ∈ u_ws RX8 TX8 17, w ∈ wsX8_placesToFill := by decide +kernel
  have hl := lv_entry ([.ref h0, .int tt, .int a, .int b, .int d]) (n := 7) (Nat.le_of_ble_eq_true rfl)
  rw [lg_entry_eq]
  generalize (lg_sl ([.ref h0, .int tt, .int a, .int b, .int d]) ++ List.replicate (7 - (lg_sl ([.ref h0, .int tt, .int a, .int b, .int d])).length) Slot.unset).toArray = ls at hl ⊢
  have hl : lv_has ls 7 [(0, .ref h0), (1, .int tt), (2, .int a), (3, .int b), (4, .int d)] := hl
  refine lv_iload_n hx hb dX8_placesToFill_0 rfl (lv_at hl 2 rfl) ?_
  have hPc := hP.sub (ws' := []) [] rfl
  have hDc := hD.sub (ws' := []) [] (by decide) rfl
  have hKc := hK.sub (tys' := []) [] rfl
  have hFc := va_free (wc := []) hD hS hA [] rfl
  refine va_calli (va_runS (As := [.int a]) (rest := []) ⟨hx, hb, hml, hown, hts⟩ (c_X8_isMoment l dC dI s.heap.size a ) (va_cwS 1 hts gX8_placesToFill_X8_isMoment rfl rfl rfl (by decide +kernel) ⟨Nat.le_of_ble_eq_true rfl, Nat.le_of_ble_eq_true rfl⟩) ⟨fun a U g mk q => by obtain ⟨q0, q1, qP, qK, qD, qN⟩ := q; exact ⟨q0, q1, qP, va_K.moved (u := U) (U := U.calling g mk a) (Vm.Alike.refl U.vm) qK, qD, qN.same rfl⟩, fun U hU hW => ⟨rfl, by rw [hU], by rw [hU]; exact hPc, va_K.moved hW.alike hKc, hDc.weaken (fun _ _ _ _ => trivial), hN.warm hW⟩⟩ rfl rfl hl.1 rfl (lv_room (Nat.le_of_ble_eq_true rfl)) dX8_placesToFill_1 ⟨Nat.le_of_ble_eq_true rfl, Nat.le_of_ble_eq_true rfl⟩) hS (fun q _ h => hFc q h) hFc (fun r_1 u_2 t H1 locs ht hvm hw_3 hB hz1 hk1 hS => ?_)
  try dsimp only at hw_3
  obtain ⟨hP1, hK1, hD1⟩ := hB
  rw [ht] at hP1
  have hK1 := va_K.moved hvm.symm hK1
  obtain ⟨hP, hD⟩ := va_join (wr := [(h0, .inr (8, [.ref hRows, .ref hMer, .ref hEra, .ref hTape, .ref hRea, .ref hTra, .ref hWor, .ref hPla, .ref hMod, .ref hHe1, .ref hHe2, .int 0, .int 0, .int 0, .int 0, .int (-1), .int 0]))]) (w1 := []) hP hD [] [0] rfl rfl (by decide) (by decide) hk1 hFc hP1 hD1
  have hK := (hK.sub (tys' := []) [] rfl).app hK1
  generalize H1 = H at hP hS ⊢
  have hP : va_P (dC, dI) vwCl [(h0, .inr (8, [.ref hRows, .ref hMer, .ref hEra, .ref hTape, .ref hRea, .ref hTra, .ref hWor, .ref hPla, .ref hMod, .ref hHe1, .ref hHe2, .int 0, .int 0, .int 0, .int 0, .int (-1), .int 0]))] H := hP
  have hD : va_D A [(h0, .inr (8, [.ref hRows, .ref hMer, .ref hEra, .ref hTape, .ref hRea, .ref hTra, .ref hWor, .ref hPla, .ref hMod, .ref hHe1, .ref hHe2, .int 0, .int 0, .int 0, .int 0, .int (-1), .int 0]))] := hD
  have hK : va_K (dC, dI) vwCl [] s := hK
  refine lv_if_eq (tgt := 33) hx hb dX8_placesToFill_4 (by decide) (fun c_4 => ?_) (fun c_4 => ?_)
  · have dc_4 : r_1.toInt = 0 := jI_eq c_4 rfl (by decide)
    refine lv_iconst (v := (-1)) hx hb dX8_placesToFill_33 (by decide) ?_
    have hP9 := hP.sub (ws' := [(h0, .inr (8, [.ref hRows, .ref hMer, .ref hEra, .ref hTape, .ref hRea, .ref hTra, .ref hWor, .ref hPla, .ref hMod, .ref hHe1, .ref hHe2, .int 0, .int 0, .int 0, .int 0, .int (-1), .int 0]))]) [0] rfl
    have hD9 := hD.sub (ws' := [(h0, .inr (8, [.ref hRows, .ref hMer, .ref hEra, .ref hTape, .ref hRea, .ref hTra, .ref hWor, .ref hPla, .ref hMod, .ref hHe1, .ref hHe2, .int 0, .int 0, .int 0, .int 0, .int (-1), .int 0]))]) [0] (by decide) rfl
    have hK9 := hK.sub (tys' := []) [] rfl
    have hans : ((-1) : Int32).toInt = (-1) := (by decide)
    exact W.iret (v := (-1)) hx hb hr (fun t ht hW => ⟨⟨(-1), (), rfl, by first | omega | (dsimp only; omega), by rw [ht]; exact hP9, va_K.moved hW.alike hK9, hD9⟩, hS.F ht⟩) hS.2.2 dX8_placesToFill_34
  · have dc_4 : ¬ r_1.toInt = 0 := jI_ne c_4 rfl (by decide)
    refine lv_iload_n hx hb dX8_placesToFill_7 rfl (lv_at hl 3 rfl) ?_
    have hPc := hP.sub (ws' := []) [] rfl
    have hDc := hD.sub (ws' := []) [] (by decide) rfl
    have hKc := hK.sub (tys' := []) [] rfl
    have hFc := va_free (wc := []) hD hS hA [] rfl
    refine va_calli (va_runS (As := [.int b]) (rest := []) ⟨hx, hb, hml, hown, hts⟩ (c_X8_isMoment l dC dI H.size b ) (va_cwS 1 hts gX8_placesToFill_X8_isMoment rfl rfl rfl (by decide +kernel) ⟨Nat.le_of_ble_eq_true rfl, Nat.le_of_ble_eq_true rfl⟩) ⟨fun a U g mk q => by obtain ⟨q0, q1, qP, qK, qD, qN⟩ := q; exact ⟨q0, q1, qP, va_K.moved (u := U) (U := U.calling g mk a) (Vm.Alike.refl U.vm) qK, qD, qN.same rfl⟩, fun U hU hW => ⟨rfl, by rw [hU], by rw [hU]; exact hPc, va_K.moved hW.alike hKc, hDc.weaken (fun _ _ _ _ => trivial), hN.warm hW⟩⟩ rfl rfl hl.1 rfl (lv_room (Nat.le_of_ble_eq_true rfl)) dX8_placesToFill_8 ⟨Nat.le_of_ble_eq_true rfl, Nat.le_of_ble_eq_true rfl⟩) hS (fun q _ h => hFc q h) hFc (fun r_5 u_6 t H1 locs ht hvm hw_7 hB hz1 hk1 hS => ?_)
    try dsimp only at hw_7
    obtain ⟨hP1, hK1, hD1⟩ := hB
    rw [ht] at hP1
    have hK1 := va_K.moved hvm.symm hK1
    obtain ⟨hP, hD⟩ := va_join (wr := [(h0, .inr (8, [.ref hRows, .ref hMer, .ref hEra, .ref hTape, .ref hRea, .ref hTra, .ref hWor, .ref hPla, .ref hMod, .ref hHe1, .ref hHe2, .int 0, .int 0, .int 0, .int 0, .int (-1), .int 0]))]) (w1 := []) hP hD [] [0] rfl rfl (by decide) (by decide) hk1 hFc hP1 hD1
    have hK := (hK.sub (tys' := []) [] rfl).app hK1
    generalize H1 = H at hP hS ⊢
    have hP : va_P (dC, dI) vwCl [(h0, .inr (8, [.ref hRows, .ref hMer, .ref hEra, .ref hTape, .ref hRea, .ref hTra, .ref hWor, .ref hPla, .ref hMod, .ref hHe1, .ref hHe2, .int 0, .int 0, .int 0, .int 0, .int (-1), .int 0]))] H := hP
    have hD : va_D A [(h0, .inr (8, [.ref hRows, .ref hMer, .ref hEra, .ref hTape, .ref hRea, .ref hTra, .ref hWor, .ref hPla, .ref hMod, .ref hHe1, .ref hHe2, .int 0, .int 0, .int 0, .int 0, .int (-1), .int 0]))] := hD
    have hK : va_K (dC, dI) vwCl [] s := hK
    refine lv_if_eq (tgt := 33) hx hb dX8_placesToFill_11 (by decide) (fun c_8 => ?_) (fun c_8 => ?_)
    · have dc_8 : r_5.toInt = 0 := jI_eq c_8 rfl (by decide)
      refine lv_iconst (v := (-1)) hx hb dX8_placesToFill_33 (by decide) ?_
      have hP9 := hP.sub (ws' := [(h0, .inr (8, [.ref hRows, .ref hMer, .ref hEra, .ref hTape, .ref hRea, .ref hTra, .ref hWor, .ref hPla, .ref hMod, .ref hHe1, .ref hHe2, .int 0, .int 0, .int 0, .int 0, .int (-1), .int 0]))]) [0] rfl
      have hD9 := hD.sub (ws' := [(h0, .inr (8, [.ref hRows, .ref hMer, .ref hEra, .ref hTape, .ref hRea, .ref hTra, .ref hWor, .ref hPla, .ref hMod, .ref hHe1, .ref hHe2, .int 0, .int 0, .int 0, .int 0, .int (-1), .int 0]))]) [0] (by decide) rfl
      have hK9 := hK.sub (tys' := []) [] rfl
      have hans : ((-1) : Int32).toInt = (-1) := (by decide)
      exact W.iret (v := (-1)) hx hb hr (fun t ht hW => ⟨⟨(-1), (), rfl, by first | omega | (dsimp only; omega), by rw [ht]; exact hP9, va_K.moved hW.alike hK9, hD9⟩, hS.F ht⟩) hS.2.2 dX8_placesToFill_34
    · have dc_8 : ¬ r_5.toInt = 0 := jI_ne c_8 rfl (by decide)
      refine lv_iload_n hx hb dX8_placesToFill_14 rfl (lv_at hl 3 rfl) ?_
      refine lv_aload_n hx hb dX8_placesToFill_15 rfl (lv_at hl 0 rfl) ?_
      refine va_get (D := (dC, dI)) (ci := 8) (v := .int 0) (C := RX8) (T := TX8) (N := 17) hx hb hts hIX8 hown hK hP 0 rfl rfl 11 (by decide) (hts (.fieldLink RX8 83 "TraitHouse" "now" "I") (by decide +kernel)) (fun _ h9 => h9) rfl dX8_placesToFill_16 ?_
      refine lv_icmp_gt (tgt := 33) hx hb dX8_placesToFill_19 (by decide) (fun c_9 => ?_) (fun c_9 => ?_)
      · have dc_9 : 0 < b.toInt := jI_lt c_9 (by decide) rfl
        refine lv_iconst (v := (-1)) hx hb dX8_placesToFill_33 (by decide) ?_
        have hP9 := hP.sub (ws' := [(h0, .inr (8, [.ref hRows, .ref hMer, .ref hEra, .ref hTape, .ref hRea, .ref hTra, .ref hWor, .ref hPla, .ref hMod, .ref hHe1, .ref hHe2, .int 0, .int 0, .int 0, .int 0, .int (-1), .int 0]))]) [0] rfl
        have hD9 := hD.sub (ws' := [(h0, .inr (8, [.ref hRows, .ref hMer, .ref hEra, .ref hTape, .ref hRea, .ref hTra, .ref hWor, .ref hPla, .ref hMod, .ref hHe1, .ref hHe2, .int 0, .int 0, .int 0, .int 0, .int (-1), .int 0]))]) [0] (by decide) rfl
        have hK9 := hK.sub (tys' := []) [] rfl
        have hans : ((-1) : Int32).toInt = (-1) := (by decide)
        exact W.iret (v := (-1)) hx hb hr (fun t ht hW => ⟨⟨(-1), (), rfl, by first | omega | (dsimp only; omega), by rw [ht]; exact hP9, va_K.moved hW.alike hK9, hD9⟩, hS.F ht⟩) hS.2.2 dX8_placesToFill_34
      · have dc_9 : b.toInt ≤ 0 := jI_nlt c_9 (by decide) rfl
        refine lv_iload_n hx hb dX8_placesToFill_22 rfl (lv_at hl 2 rfl) ?_
        refine lv_iload_n hx hb dX8_placesToFill_23 rfl (lv_at hl 3 rfl) ?_
        refine lv_icmp_gt (tgt := 33) hx hb dX8_placesToFill_24 (by decide) (fun c_10 => ?_) (fun c_10 => ?_)
        · have dc_10 : b.toInt < a.toInt := jI_lt c_10 rfl rfl
          refine lv_iconst (v := (-1)) hx hb dX8_placesToFill_33 (by decide) ?_
          have hP9 := hP.sub (ws' := [(h0, .inr (8, [.ref hRows, .ref hMer, .ref hEra, .ref hTape, .ref hRea, .ref hTra, .ref hWor, .ref hPla, .ref hMod, .ref hHe1, .ref hHe2, .int 0, .int 0, .int 0, .int 0, .int (-1), .int 0]))]) [0] rfl
          have hD9 := hD.sub (ws' := [(h0, .inr (8, [.ref hRows, .ref hMer, .ref hEra, .ref hTape, .ref hRea, .ref hTra, .ref hWor, .ref hPla, .ref hMod, .ref hHe1, .ref hHe2, .int 0, .int 0, .int 0, .int 0, .int (-1), .int 0]))]) [0] (by decide) rfl
          have hK9 := hK.sub (tys' := []) [] rfl
          have hans : ((-1) : Int32).toInt = (-1) := (by decide)
          exact W.iret (v := (-1)) hx hb hr (fun t ht hW => ⟨⟨(-1), (), rfl, by first | omega | (dsimp only; omega), by rw [ht]; exact hP9, va_K.moved hW.alike hK9, hD9⟩, hS.F ht⟩) hS.2.2 dX8_placesToFill_34
        · have dc_10 : a.toInt ≤ b.toInt := jI_nlt c_10 rfl rfl
          refine lv_iload hx hb dX8_placesToFill_27 (lv_at hl 4 rfl) ?_
          refine lv_iconst (v := 1) hx hb dX8_placesToFill_29 (by decide) ?_
          refine lv_icmp_ge (tgt := 35) hx hb dX8_placesToFill_30 (by decide) (fun c_11 => ?_) (fun c_11 => ?_)
          · have dc_11 : 1 ≤ d.toInt := jI_le c_11 (by decide) rfl
            refine lv_iload_n hx hb dX8_placesToFill_35 rfl (lv_at hl 3 rfl) ?_
            refine lv_iload_n hx hb dX8_placesToFill_36 rfl (lv_at hl 2 rfl) ?_
            refine lv_isub hx hb dX8_placesToFill_37 ?_
            refine lv_topi (fun x_12 ex_12 => ?_)
            have dx_12 : x_12.toInt = b.toInt - a.toInt := by rw [ex_12]; exact jI_sub rfl rfl (by omega) (by omega)
            obtain rfl : x_12 = 0 := Int32.toInt_inj.mp ((show x_12.toInt = 0 by omega).trans (by decide))
            refine lv_iload hx hb dX8_placesToFill_38 (lv_at hl 4 rfl) ?_
            refine lv_idiv hx hb dX8_placesToFill_40 (jI_ne0 (by omega)) ?_
            refine lv_topi (fun x_13 ex_13 => ?_)
            obtain rfl : x_13 = 0 := ex_13.trans (jI_0div _)
            refine lv_iconst (v := 1) hx hb dX8_placesToFill_41 (by decide) ?_
            refine lv_iadd hx hb dX8_placesToFill_42 ?_
            refine lv_topi (fun x_14 ex_14 => ?_)
            obtain rfl : x_14 = 1 := ex_14.trans (by decide)
            refine lv_istore (lv' := [(5, .int 1), (0, .ref h0), (1, .int tt), (2, .int a), (3, .int b), (4, .int d)]) hx hb dX8_placesToFill_43 hl (by decide) rfl (fun ls hl => ?_)
            refine lv_iload hx hb dX8_placesToFill_45 (lv_at hl 0 rfl) ?_
            refine lv_bipush (v := 40) hx hb dX8_placesToFill_47 (by decide) ?_
            refine lv_icmp_le (tgt := 54) hx hb dX8_placesToFill_49 (by decide) (fun c_15 => ?_) (fun c_15 => absurd (by decide) c_15)
            refine lv_aload_n hx hb dX8_placesToFill_54 rfl (lv_at hl 1 rfl) ?_
            refine lv_iload_n hx hb dX8_placesToFill_55 rfl (lv_at hl 2 rfl) ?_
            have hPc := hP.sub (ws' := [(h0, .inr (8, [.ref hRows, .ref hMer, .ref hEra, .ref hTape, .ref hRea, .ref hTra, .ref hWor, .ref hPla, .ref hMod, .ref hHe1, .ref hHe2, .int 0, .int 0, .int 0, .int 0, .int (-1), .int 0]))]) [0] rfl
            have hDc := hD.sub (ws' := [(h0, .inr (8, [.ref hRows, .ref hMer, .ref hEra, .ref hTape, .ref hRea, .ref hTra, .ref hWor, .ref hPla, .ref hMod, .ref hHe1, .ref hHe2, .int 0, .int 0, .int 0, .int 0, .int (-1), .int 0]))]) [0] (by decide) rfl
            have hKc := hK.sub (tys' := []) [] rfl
            have hFc := va_free (wc := [(h0, .inr (8, [.ref hRows, .ref hMer, .ref hEra, .ref hTape, .ref hRea, .ref hTra, .ref hWor, .ref hPla, .ref hMod, .ref hHe1, .ref hHe2, .int 0, .int 0, .int 0, .int 0, .int (-1), .int 0]))]) hD hS hA [0] rfl
            refine va_callq (va_runV (As := [.int tt]) (rest := []) ⟨hx, hb, hml, hown, hts⟩ (c_X8_traitAt l dC dI H.size h0 hRows hMer hEra hTape hRea hTra hWor hPla hMod hHe1 hHe2 0 0 0 (-1) 0 tt ) (cwV 1 hts gX8_placesToFill_X8_traitAt rfl rfl rfl (by decide +kernel) ⟨Nat.le_of_ble_eq_true rfl, Nat.le_of_ble_eq_true rfl⟩) ⟨fun a U g mk q => by obtain ⟨q0, q1, qP, qK, qD, qN⟩ := q; exact ⟨q0, q1, qP, va_K.moved (u := U) (U := U.calling g mk a) (Vm.Alike.refl U.vm) qK, qD, qN.same rfl⟩, va_recv hKc hPc (ci := 8) (q0 := 0) rfl rfl, fun U hU hW => ⟨rfl, by rw [hU], by rw [hU]; exact hPc, va_K.moved hW.alike hKc, hDc.weaken (fun _ _ _ _ => trivial), hN.warm hW⟩⟩ rfl rfl hl.1 rfl (lv_room (Nat.le_of_ble_eq_true rfl)) dX8_placesToFill_56 ⟨Nat.le_of_ble_eq_true rfl, Nat.le_of_ble_eq_true rfl⟩) hS (fun q _ h => hFc q h) hFc (fun r_16 u_17 t H1 locs ht hvm hw_18 hB hz1 hk1 hS => ?_)
            try dsimp only at hw_18
            obtain ⟨hP1, hK1, hD1⟩ := hB
            rw [ht] at hP1
            have hK1 := va_K.moved hvm.symm hK1
            obtain ⟨hP, hD⟩ := va_join (wr := []) (w1 := [(h0, .inr (8, [.ref hRows, .ref hMer, .ref hEra, .ref hTape, .ref hRea, .ref hTra, .ref hWor, .ref hPla, .ref hMod, .ref hHe1, .ref hHe2, .int 0, .int 0, .int 0, .int 0, .int (-1), .int 0]))]) hP hD [0] [] rfl rfl (by decide) (by decide) hk1 hFc hP1 hD1
            have hK := (hK.sub (tys' := []) [] rfl).app hK1
            generalize H1 = H at hP hS ⊢
            have hP : va_P (dC, dI) vwCl [(h0, .inr (8, [.ref hRows, .ref hMer, .ref hEra, .ref hTape, .ref hRea, .ref hTra, .ref hWor, .ref hPla, .ref hMod, .ref hHe1, .ref hHe2, .int 0, .int 0, .int 0, .int 0, .int (-1), .int 0]))] H := hP
            have hD : va_D A [(h0, .inr (8, [.ref hRows, .ref hMer, .ref hEra, .ref hTape, .ref hRea, .ref hTra, .ref hWor, .ref hPla, .ref hMod, .ref hHe1, .ref hHe2, .int 0, .int 0, .int 0, .int 0, .int (-1), .int 0]))] := hD
            have hK : va_K (dC, dI) vwCl [] s := hK
            obtain rfl : none = r_16 := hw_18.symm
            refine W.eq (g2 := F0 m 59 ls [.null]) rfl ?_
            refine lv_ifnonnullN hx hb dX8_placesToFill_59 ?_
            refine lv_bipush (v := (-2)) hx hb dX8_placesToFill_62 (by decide) ?_
            have hP9 := hP.sub (ws' := [(h0, .inr (8, [.ref hRows, .ref hMer, .ref hEra, .ref hTape, .ref hRea, .ref hTra, .ref hWor, .ref hPla, .ref hMod, .ref hHe1, .ref hHe2, .int 0, .int 0, .int 0, .int 0, .int (-1), .int 0]))]) [0] rfl
            have hD9 := hD.sub (ws' := [(h0, .inr (8, [.ref hRows, .ref hMer, .ref hEra, .ref hTape, .ref hRea, .ref hTra, .ref hWor, .ref hPla, .ref hMod, .ref hHe1, .ref hHe2, .int 0, .int 0, .int 0, .int 0, .int (-1), .int 0]))]) [0] (by decide) rfl
            have hK9 := hK.sub (tys' := []) [] rfl
            have hans : ((-2) : Int32).toInt = (-2) := (by decide)
            exact W.iret (v := (-2)) hx hb hr (fun t ht hW => ⟨⟨(-2), (), rfl, by first | omega | (dsimp only; omega), by rw [ht]; exact hP9, va_K.moved hW.alike hK9, hD9⟩, hS.F ht⟩) hS.2.2 dX8_placesToFill_64
          · have dc_11 : d.toInt < 1 := jI_nle c_11 (by decide) rfl
            refine lv_iconst (v := (-1)) hx hb dX8_placesToFill_33 (by decide) ?_
            have hP9 := hP.sub (ws' := [(h0, .inr (8, [.ref hRows, .ref hMer, .ref hEra, .ref hTape, .ref hRea, .ref hTra, .ref hWor, .ref hPla, .ref hMod, .ref hHe1, .ref hHe2, .int 0, .int 0, .int 0, .int 0, .int (-1), .int 0]))]) [0] rfl
            have hD9 := hD.sub (ws' := [(h0, .inr (8, [.ref hRows, .ref hMer, .ref hEra, .ref hTape, .ref hRea, .ref hTra, .ref hWor, .ref hPla, .ref hMod, .ref hHe1, .ref hHe2, .int 0, .int 0, .int 0, .int 0, .int (-1), .int 0]))]) [0] (by decide) rfl
            have hK9 := hK.sub (tys' := []) [] rfl
            have hans : ((-1) : Int32).toInt = (-1) := (by decide)
            exact W.iret (v := (-1)) hx hb hr (fun t ht hW => ⟨⟨(-1), (), rfl, by first | omega | (dsimp only; omega), by rw [ht]; exact hP9, va_K.moved hW.alike hK9, hD9⟩, hS.F ht⟩) hS.2.2 dX8_placesToFill_34

set_option maxHeartbeats 4000000 in
set_option maxRecDepth 100000 in
theorem c_X8_fill (l : Launch) (dC : Nat → ClassId) (dI : Nat → Nat → Nat) (sz : Nat) (h0 : Nat) (hRows : Nat) (hMer : Nat) (hEra : Nat) (hTape : Nat) (hRea : Nat) (hTra : Nat) (hWor : Nat) (hPla : Nat) (hMod : Nat) (hHe1 : Nat) (hHe2 : Nat) (tt : Int32) (a : Int32) (b : Int32) (d : Int32)  : Met l yX8_fill wsX8_fill ({ frames := 2, cells := 0, slots := 0, locals := 47 }) (va_Pc [.ref h0, .int tt, .int a, .int b, .int d] (fun U => U.heap.size = sz ∧ va_P (dC, dI) vwCl [(h0, .inr (8, [.ref hRows, .ref hMer, .ref hEra, .ref hTape, .ref hRea, .ref hTra, .ref hWor, .ref hPla, .ref hMod, .ref hHe1, .ref hHe2, .int 0, .int 0, .int 0, .int 0, .int (-1), .int 0]))] U.heap ∧ va_K (dC, dI) vwCl [] U ∧ va_D (fun _ => True) [(h0, .inr (8, [.ref hRows, .ref hMer, .ref hEra, .ref hTape, .ref hRea, .ref hTra, .ref hWor, .ref hPla, .ref hMod, .ref hHe1, .ref hHe2, .int 0, .int 0, .int 0, .int 0, .int (-1), .int 0]))] ∧ nw_ok U)) (va_Qi (fun (r : Int32) (_ : Unit) => (a.toInt = 0 ∧ b.toInt = 0 ∧ 1 ≤ d.toInt → r.toInt = (-2)) ∧ (¬ (a.toInt = 0 ∧ b.toInt = 0 ∧ 1 ≤ d.toInt) → r.toInt = (-1))) (fun (_ : Unit) (t : State) => True) (va_A [(h0, .inr (8, [.ref hRows, .ref hMer, .ref hEra, .ref hTape, .ref hRea, .ref hTra, .ref hWor, .ref hPla, .ref hMod, .ref hHe1, .ref hHe2, .int 0, .int 0, .int 0, .int 0, .int (-1), .int 0]))] sz)) 0 0 (va_A [(h0, .inr (8, [.ref hRows, .ref hMer, .ref hEra, .ref hTape, .ref hRea, .ref hTra, .ref hWor, .ref hPla, .ref hMod, .ref hHe1, .ref hHe2, .int 0, .int 0, .int 0, .int 0, .int (-1), .int 0]))] sz) := by
  refine Met.ofW (cc := cX8_fill) (maxL := 8) (ret := (some .int)) (by decide) rfl ?_
  intro p e s m args below meth c s₁ B hml hv
  obtain ⟨rfl, hsz, hP, hK, hD0, hN⟩ := hv
  have hx := B.exec
  have hb := B.bytes
  have hr := B.returns
  have hts := atoms_spec (ws := wsX8_fill) B.pre
  have hown : s.vm.findClass RX8 = some m.cls := findClass_of_methodNamed B.named
  have hlocks := B.notSynchronized
  subst hsz
  have hD := hD0.self (sz := s.heap.size)
  generalize hAe : va_A [(h0, .inr (8, [.ref hRows, .ref hMer, .ref hEra, .ref hTape, .ref hRea, .ref hTra, .ref hWor, .ref hPla, .ref hMod, .ref hHe1, .ref hHe2, .int 0, .int 0, .int 0, .int 0, .int (-1), .int 0]))] s.heap.size = A at hD ⊢
  have hA : ∀ q : Nat, s.heap.size ≤ q → A q := fun q h => by rw [← hAe]; exact Or.inr h
  have hS : va_S A s.heap s.heap [] := va_S.rf
  have hP : va_P (dC, dI) vwCl [(h0, .inr (8, [.ref hRows, .ref hMer, .ref hEra, .ref hTape, .ref hRea, .ref hTra, .ref hWor, .ref hPla, .ref hMod, .ref hHe1, .ref hHe2, .int 0, .int 0, .int 0, .int 0, .int (-1), .int 0]))] s.heap := hP
  have hl := lv_entry ([.ref h0, .int tt, .int a, .int b, .int d]) (n := 8) (Nat.le_of_ble_eq_true rfl)
  rw [lg_entry_eq]
  generalize (lg_sl ([.ref h0, .int tt, .int a, .int b, .int d]) ++ List.replicate (8 - (lg_sl ([.ref h0, .int tt, .int a, .int b, .int d])).length) Slot.unset).toArray = ls at hl ⊢
  have hl : lv_has ls 8 [(0, .ref h0), (1, .int tt), (2, .int a), (3, .int b), (4, .int d)] := hl
  refine lv_aload_n hx hb dX8_fill_0 rfl (lv_at hl 0 rfl) ?_
  refine lv_iload_n hx hb dX8_fill_1 rfl (lv_at hl 1 rfl) ?_
  refine lv_iload_n hx hb dX8_fill_2 rfl (lv_at hl 2 rfl) ?_
  refine lv_iload_n hx hb dX8_fill_3 rfl (lv_at hl 3 rfl) ?_
  refine lv_iload hx hb dX8_fill_4 (lv_at hl 4 rfl) ?_
  have hPc := hP.sub (ws' := [(h0, .inr (8, [.ref hRows, .ref hMer, .ref hEra, .ref hTape, .ref hRea, .ref hTra, .ref hWor, .ref hPla, .ref hMod, .ref hHe1, .ref hHe2, .int 0, .int 0, .int 0, .int 0, .int (-1), .int 0]))]) [0] rfl
  have hDc := hD.sub (ws' := [(h0, .inr (8, [.ref hRows, .ref hMer, .ref hEra, .ref hTape, .ref hRea, .ref hTra, .ref hWor, .ref hPla, .ref hMod, .ref hHe1, .ref hHe2, .int 0, .int 0, .int 0, .int 0, .int (-1), .int 0]))]) [0] (by decide) rfl
  have hKc := hK.sub (tys' := []) [] rfl
  have hFc := va_free (wc := [(h0, .inr (8, [.ref hRows, .ref hMer, .ref hEra, .ref hTape, .ref hRea, .ref hTra, .ref hWor, .ref hPla, .ref hMod, .ref hHe1, .ref hHe2, .int 0, .int 0, .int 0, .int 0, .int (-1), .int 0]))]) hD hS hA [0] rfl
  refine va_calli (va_runV (As := [.int tt, .int a, .int b, .int d]) (rest := []) ⟨hx, hb, hml, hown, hts⟩ (c_X8_placesToFill l dC dI s.heap.size h0 hRows hMer hEra hTape hRea hTra hWor hPla hMod hHe1 hHe2 tt a b d ) (cwV 4 hts gX8_fill_X8_placesToFill rfl rfl rfl (by decide +kernel) ⟨Nat.le_of_ble_eq_true rfl, Nat.le_of_ble_eq_true rfl⟩) ⟨fun a U g mk q => by obtain ⟨q0, q1, qP, qK, qD, qN⟩ := q; exact ⟨q0, q1, qP, va_K.moved (u := U) (U := U.calling g mk a) (Vm.Alike.refl U.vm) qK, qD, qN.same rfl⟩, va_recv hKc hPc (ci := 8) (q0 := 0) rfl rfl, fun U hU hW => ⟨rfl, by rw [hU], by rw [hU]; exact hPc, va_K.moved hW.alike hKc, hDc.weaken (fun _ _ _ _ => trivial), hN.warm hW⟩⟩ rfl rfl hl.1 rfl (lv_room (Nat.le_of_ble_eq_true rfl)) dX8_fill_6 ⟨Nat.le_of_ble_eq_true rfl, Nat.le_of_ble_eq_true rfl⟩) hS (fun q _ h => hFc q h) hFc (fun r_1 u_2 t H1 locs ht hvm hw_3 hB hz1 hk1 hS => ?_)
  try dsimp only at hw_3
  obtain ⟨hP1, hK1, hD1⟩ := hB
  rw [ht] at hP1
  have hK1 := va_K.moved hvm.symm hK1
  obtain ⟨hP, hD⟩ := va_join (wr := []) (w1 := [(h0, .inr (8, [.ref hRows, .ref hMer, .ref hEra, .ref hTape, .ref hRea, .ref hTra, .ref hWor, .ref hPla, .ref hMod, .ref hHe1, .ref hHe2, .int 0, .int 0, .int 0, .int 0, .int (-1), .int 0]))]) hP hD [0] [] rfl rfl (by decide) (by decide) hk1 hFc hP1 hD1
  have hK := (hK.sub (tys' := []) [] rfl).app hK1
  generalize H1 = H at hP hS ⊢
  have hP : va_P (dC, dI) vwCl [(h0, .inr (8, [.ref hRows, .ref hMer, .ref hEra, .ref hTape, .ref hRea, .ref hTra, .ref hWor, .ref hPla, .ref hMod, .ref hHe1, .ref hHe2, .int 0, .int 0, .int 0, .int 0, .int (-1), .int 0]))] H := hP
  have hD : va_D A [(h0, .inr (8, [.ref hRows, .ref hMer, .ref hEra, .ref hTape, .ref hRea, .ref hTra, .ref hWor, .ref hPla, .ref hMod, .ref hHe1, .ref hHe2, .int 0, .int 0, .int 0, .int 0, .int (-1), .int 0]))] := hD
  have hK : va_K (dC, dI) vwCl [] s := hK
  refine lv_istore (lv' := [(5, .int r_1), (0, .ref h0), (1, .int tt), (2, .int a), (3, .int b), (4, .int d)]) hx hb dX8_fill_9 hl (by decide) rfl (fun ls hl => ?_)
  refine lv_iload hx hb dX8_fill_11 (lv_at hl 0 rfl) ?_
  refine lv_if_le (tgt := 47) hx hb dX8_fill_13 (by decide) (fun c_4 => ?_) (fun c_4 => ?_)
  · have dc_4 : r_1.toInt ≤ 0 := jI_le c_4 rfl (by decide)
    refine lv_aload_n hx hb dX8_fill_47 rfl (lv_at hl 1 rfl) ?_
    refine lv_iload hx hb dX8_fill_48 (lv_at hl 0 rfl) ?_
    have hk_5 : (0 : Int32).toInt = 0 := by decide
    have hk_6 : ((-1) : Int32).toInt = (-1) := by decide
    have hPc := hP.sub (ws' := [(h0, .inr (8, [.ref hRows, .ref hMer, .ref hEra, .ref hTape, .ref hRea, .ref hTra, .ref hWor, .ref hPla, .ref hMod, .ref hHe1, .ref hHe2, .int 0, .int 0, .int 0, .int 0, .int (-1), .int 0]))]) [0] rfl
    have hDc := hD.sub (ws' := [(h0, .inr (8, [.ref hRows, .ref hMer, .ref hEra, .ref hTape, .ref hRea, .ref hTra, .ref hWor, .ref hPla, .ref hMod, .ref hHe1, .ref hHe2, .int 0, .int 0, .int 0, .int 0, .int (-1), .int 0]))]) [0] (by decide) rfl
    have hKc := hK.sub (tys' := []) [] rfl
    have hFc := va_free (wc := [(h0, .inr (8, [.ref hRows, .ref hMer, .ref hEra, .ref hTape, .ref hRea, .ref hTra, .ref hWor, .ref hPla, .ref hMod, .ref hHe1, .ref hHe2, .int 0, .int 0, .int 0, .int 0, .int (-1), .int 0]))]) hD hS hA [0] rfl
    refine va_calli (va_runV (As := [.int r_1]) (rest := []) ⟨hx, hb, hml, hown, hts⟩ (c_X8_settle l dC dI H.size h0 hRows hMer hEra hTape hRea hTra hWor hPla hMod hHe1 hHe2 0 0 0 0 (-1) 0 r_1 ) (cwV 1 hts gX8_fill_X8_settle rfl rfl rfl (by decide +kernel) ⟨Nat.le_of_ble_eq_true rfl, Nat.le_of_ble_eq_true rfl⟩) ⟨fun a U g mk q => by obtain ⟨q0, q1, qP, qK, qD, qN⟩ := q; exact ⟨q0, q1, qP, va_K.moved (u := U) (U := U.calling g mk a) (Vm.Alike.refl U.vm) qK, qD, qN.same rfl⟩, va_recv hKc hPc (ci := 8) (q0 := 0) rfl rfl, fun U hU hW => ⟨rfl, by rw [hU], by rw [hU]; exact hPc, va_K.moved hW.alike hKc, hDc.weaken (fun _ _ _ _ => trivial), hN.warm hW⟩⟩ rfl rfl hl.1 rfl (lv_room (Nat.le_of_ble_eq_true rfl)) dX8_fill_50 ⟨Nat.le_of_ble_eq_true rfl, Nat.le_of_ble_eq_true rfl⟩) hS (fun q _ h => hFc q h) hFc (fun r_7 u_8 t H1 locs ht hvm hw_9 hB hz1 hk1 hS => ?_)
    obtain ⟨w_10, rfl⟩ : ∃ z, z = u_8 := ⟨_, rfl⟩
    try dsimp only at hw_9
    obtain ⟨hP1, hK1, hD1⟩ := hB
    rw [ht] at hP1
    have hK1 := va_K.moved hvm.symm hK1
    obtain ⟨hP, hD⟩ := va_join (wr := []) (w1 := [(h0, .inr (8, [.ref hRows, .ref hMer, .ref hEra, .ref hTape, .ref hRea, .ref hTra, .ref hWor, .ref hPla, .ref hMod, .ref hHe1, .ref hHe2, .int 0, .int 0, .int 0, .int 0, .int (-1), .int w_10]))]) hP hD [0] [] rfl rfl (by decide) (by decide) hk1 hFc hP1 hD1
    have hK := (hK.sub (tys' := []) [] rfl).app hK1
    generalize H1 = H at hP hS ⊢
    have hP : va_P (dC, dI) vwCl [(h0, .inr (8, [.ref hRows, .ref hMer, .ref hEra, .ref hTape, .ref hRea, .ref hTra, .ref hWor, .ref hPla, .ref hMod, .ref hHe1, .ref hHe2, .int 0, .int 0, .int 0, .int 0, .int (-1), .int w_10]))] H := hP
    have hD : va_D A [(h0, .inr (8, [.ref hRows, .ref hMer, .ref hEra, .ref hTape, .ref hRea, .ref hTra, .ref hWor, .ref hPla, .ref hMod, .ref hHe1, .ref hHe2, .int 0, .int 0, .int 0, .int 0, .int (-1), .int w_10]))] := hD
    have hK : va_K (dC, dI) vwCl [] s := hK
    obtain rfl : r_1 = r_7 := hw_9.symm
    have hans : (r_1 : Int32).toInt = r_1.toInt := rfl
    exact W.iret (v := r_1) hx hb hr (fun t ht hW => ⟨⟨r_1, (), rfl, by first | omega | (dsimp only; omega), trivial⟩, hS.F ht⟩) hS.2.2 dX8_fill_53
  · have dc_4 : 0 < r_1.toInt := jI_nle c_4 rfl (by decide)
    exfalso; omega

set_option maxHeartbeats 4000000 in
set_option maxRecDepth 100000 in
theorem c_X8_model (l : Launch) (dC : Nat → ClassId) (dI : Nat → Nat → Nat) (sz : Nat) (h0 : Nat) (hRows : Nat) (hMer : Nat) (hEra : Nat) (hTape : Nat) (hRea : Nat) (hTra : Nat) (hWor : Nat) (hPla : Nat) (hMod : Nat) (hHe1 : Nat) (hHe2 : Nat) (cMo : ClassId) (a : Int32)  : Met l yX8_model wsX8_model ({ frames := 2, cells := 0, slots := 0, locals := 42 }) (va_Pc [.ref h0, .int a] (fun U => U.heap.size = sz ∧ va_P (dC, dI) vwCl [(h0, .inr (8, [.ref hRows, .ref hMer, .ref hEra, .ref hTape, .ref hRea, .ref hTra, .ref hWor, .ref hPla, .ref hMod, .ref hHe1, .ref hHe2, .int 0, .int 0, .int 0, .int 0, .int (-1), .int 0])), (hMod, .inl (cMo, 10, .inl (fun _ => 0)))] U.heap ∧ va_K (dC, dI) vwCl [(cMo, .int)] U ∧ va_D (fun _ => True) [(h0, .inr (8, [.ref hRows, .ref hMer, .ref hEra, .ref hTape, .ref hRea, .ref hTra, .ref hWor, .ref hPla, .ref hMod, .ref hHe1, .ref hHe2, .int 0, .int 0, .int 0, .int 0, .int (-1), .int 0])), (hMod, .inl (cMo, 10, .inl (fun _ => 0)))] ∧ nw_ok U)) (va_Qi (fun (r : Int32) (_ : Unit) => (a.toInt = 0 → r.toInt = 0) ∧ (¬ a.toInt = 0 → r.toInt = (-1))) (fun (_ : Unit) (t : State) => True) (va_A [(h0, .inr (8, [.ref hRows, .ref hMer, .ref hEra, .ref hTape, .ref hRea, .ref hTra, .ref hWor, .ref hPla, .ref hMod, .ref hHe1, .ref hHe2, .int 0, .int 0, .int 0, .int 0, .int (-1), .int 0])), (hMod, .inl (cMo, 10, .inl (fun _ => 0)))] sz)) 0 0 (va_A [(h0, .inr (8, [.ref hRows, .ref hMer, .ref hEra, .ref hTape, .ref hRea, .ref hTra, .ref hWor, .ref hPla, .ref hMod, .ref hHe1, .ref hHe2, .int 0, .int 0, .int 0, .int 0, .int (-1), .int 0])), (hMod, .inl (cMo, 10, .inl (fun _ => 0)))] sz) := by
  refine Met.ofW (cc := cX8_model) (maxL := 2) (ret := (some .int)) (by decide) rfl ?_
  intro p e s m args below meth c s₁ B hml hv
  obtain ⟨rfl, hsz, hP, hK, hD0, hN⟩ := hv
  have hx := B.exec
  have hb := B.bytes
  have hr := B.returns
  have hts := atoms_spec (ws := wsX8_model) B.pre
  have hown : s.vm.findClass RX8 = some m.cls := findClass_of_methodNamed B.named
  have hlocks := B.notSynchronized
  subst hsz
  have hD := hD0.self (sz := s.heap.size)
  generalize hAe : va_A [(h0, .inr (8, [.ref hRows, .ref hMer, .ref hEra, .ref hTape, .ref hRea, .ref hTra, .ref hWor, .ref hPla, .ref hMod, .ref hHe1, .ref hHe2, .int 0, .int 0, .int 0, .int 0, .int (-1), .int 0])), (hMod, .inl (cMo, 10, .inl (fun _ => 0)))] s.heap.size = A at hD ⊢
  have hA : ∀ q : Nat, s.heap.size ≤ q → A q := fun q h => by rw [← hAe]; exact Or.inr h
  have hS : va_S A s.heap s.heap [] := va_S.rf
  have hP : va_P (dC, dI) vwCl [(h0, .inr (8, [.ref hRows, .ref hMer, .ref hEra, .ref hTape, .ref hRea, .ref hTra, .ref hWor, .ref hPla, .ref hMod, .ref hHe1, .ref hHe2, .int 0, .int 0, .int 0, .int 0, .int (-1), .int 0])), (hMod, .inl (cMo, 10, .inl (fun _ => 0)))] s.heap := hP
  have hIX8 : ∀ w ∈ u_ws RX8 TX8 17, w ∈ wsX8_model := by decide +kernel
  have hl := lv_entry ([.ref h0, .int a]) (n := 2) (Nat.le_of_ble_eq_true rfl)
  rw [lg_entry_eq]
  generalize (lg_sl ([.ref h0, .int a]) ++ List.replicate (2 - (lg_sl ([.ref h0, .int a])).length) Slot.unset).toArray = ls at hl ⊢
  have hl : lv_has ls 2 [(0, .ref h0), (1, .int a)] := hl
  refine lv_iload_n hx hb dX8_model_0 rfl (lv_at hl 1 rfl) ?_
  refine lv_aload_n hx hb dX8_model_1 rfl (lv_at hl 0 rfl) ?_
  refine va_get (D := (dC, dI)) (ci := 8) (v := .int 0) (C := RX8) (T := TX8) (N := 17) hx hb hts hIX8 hown hK hP 0 rfl rfl 13 (by decide) (hts (.fieldLink RX8 148 "TraitHouse" "traitsThere" "I") (by decide +kernel)) (fun _ h9 => h9) rfl dX8_model_2 ?_
  obtain ⟨x_1, ex_1⟩ : ∃ y : Int32, y = (a.toUInt32 >>> ((0 : Int32).toUInt32 &&& Int32.toUInt32 31)).toInt32 := ⟨_, rfl⟩
  refine lv_iushr (v := x_1) hx hb dX8_model_5 ex_1.symm ?_
  obtain rfl : a = x_1 := (ex_1.trans (jI_ushr0 _)).symm
  refine lv_if_eq (tgt := 15) hx hb dX8_model_6 (by decide) (fun c_2 => ?_) (fun c_2 => ?_)
  · have dc_2 : a.toInt = 0 := jI_eq c_2 rfl (by decide)
    refine lv_aload_n hx hb dX8_model_15 rfl (lv_at hl 0 rfl) ?_
    refine va_get (D := (dC, dI)) (ci := 8) (v := .int 0) (C := RX8) (T := TX8) (N := 17) hx hb hts hIX8 hown hK hP 0 rfl rfl 14 (by decide) (hts (.fieldLink RX8 250 "TraitHouse" "modelsThere" "I") (by decide +kernel)) (fun _ h9 => h9) rfl dX8_model_16 ?_
    refine lv_bipush (v := 10) hx hb dX8_model_19 (by decide) ?_
    refine lv_icmp_lt (tgt := 31) hx hb dX8_model_21 (by decide) (fun c_3 => ?_) (fun c_3 => absurd (by decide) c_3)
    refine lv_aload_n hx hb dX8_model_31 rfl (lv_at hl 0 rfl) ?_
    refine va_get (D := (dC, dI)) (ci := 8) (v := .ref hMod) (C := RX8) (T := TX8) (N := 17) hx hb hts hIX8 hown hK hP 0 rfl rfl 8 (by decide) (hts (.fieldLink RX8 65 "TraitHouse" "models" "[I") (by decide +kernel)) (fun _ h9 => h9) rfl dX8_model_32 ?_
    refine lv_aload_n hx hb dX8_model_35 rfl (lv_at hl 0 rfl) ?_
    refine va_get (D := (dC, dI)) (ci := 8) (v := .int 0) (C := RX8) (T := TX8) (N := 17) hx hb hts hIX8 hown hK hP 0 rfl rfl 14 (by decide) (hts (.fieldLink RX8 250 "TraitHouse" "modelsThere" "I") (by decide +kernel)) (fun _ h9 => h9) rfl dX8_model_36 ?_
    refine lv_aload_n hx hb dX8_model_39 rfl (lv_at hl 0 rfl) ?_
    refine lv_iload_n hx hb dX8_model_40 rfl (lv_at hl 1 rfl) ?_
    have hPc := hP.sub (ws' := [(h0, .inr (8, [.ref hRows, .ref hMer, .ref hEra, .ref hTape, .ref hRea, .ref hTra, .ref hWor, .ref hPla, .ref hMod, .ref hHe1, .ref hHe2, .int 0, .int 0, .int 0, .int 0, .int (-1), .int 0]))]) [0] rfl
    have hDc := hD.sub (ws' := [(h0, .inr (8, [.ref hRows, .ref hMer, .ref hEra, .ref hTape, .ref hRea, .ref hTra, .ref hWor, .ref hPla, .ref hMod, .ref hHe1, .ref hHe2, .int 0, .int 0, .int 0, .int 0, .int (-1), .int 0]))]) [0] (by decide) rfl
    have hKc := hK.sub (tys' := []) [] rfl
    have hFc := va_free (wc := [(h0, .inr (8, [.ref hRows, .ref hMer, .ref hEra, .ref hTape, .ref hRea, .ref hTra, .ref hWor, .ref hPla, .ref hMod, .ref hHe1, .ref hHe2, .int 0, .int 0, .int 0, .int 0, .int (-1), .int 0]))]) hD hS hA [0] rfl
    refine va_calli (va_runV (As := [.int a]) (rest := [.int 0, .ref hMod]) ⟨hx, hb, hml, hown, hts⟩ (c_X8_needsOf l dC dI s.heap.size h0 hRows hMer hEra hTape hRea hTra hWor hPla hMod hHe1 hHe2 a ) (cwV 1 hts gX8_model_X8_needsOf rfl rfl rfl (by decide +kernel) ⟨Nat.le_of_ble_eq_true rfl, Nat.le_of_ble_eq_true rfl⟩) ⟨fun a U g mk q => by obtain ⟨q0, q1, qP, qK, qD, qN⟩ := q; exact ⟨q0, q1, qP, va_K.moved (u := U) (U := U.calling g mk a) (Vm.Alike.refl U.vm) qK, qD, qN.same rfl⟩, va_recv hKc hPc (ci := 8) (q0 := 0) rfl rfl, fun U hU hW => ⟨rfl, by rw [hU], by rw [hU]; exact hPc, va_K.moved hW.alike hKc, hDc.weaken (fun _ _ _ _ => trivial), hN.warm hW⟩⟩ rfl rfl hl.1 rfl (lv_room (Nat.le_of_ble_eq_true rfl)) dX8_model_41 ⟨Nat.le_of_ble_eq_true rfl, Nat.le_of_ble_eq_true rfl⟩) hS (fun q _ h => hFc q h) hFc (fun r_4 u_5 t H1 locs ht hvm hw_6 hB hz1 hk1 hS => ?_)
    try dsimp only at hw_6
    obtain ⟨hP1, hK1, hD1⟩ := hB
    rw [ht] at hP1
    have hK1 := va_K.moved hvm.symm hK1
    obtain ⟨hP, hD⟩ := va_join (wr := [(hMod, .inl (cMo, 10, .inl (fun _ => 0)))]) (w1 := [(h0, .inr (8, [.ref hRows, .ref hMer, .ref hEra, .ref hTape, .ref hRea, .ref hTra, .ref hWor, .ref hPla, .ref hMod, .ref hHe1, .ref hHe2, .int 0, .int 0, .int 0, .int 0, .int (-1), .int 0]))]) hP hD [0] [1] rfl rfl (by decide) (by decide) hk1 hFc hP1 hD1
    have hK := (hK.sub (tys' := [(cMo, .int)]) [0] rfl).app hK1
    generalize H1 = H at hP hS ⊢
    have hP : va_P (dC, dI) vwCl [(hMod, .inl (cMo, 10, .inl (fun _ => 0))), (h0, .inr (8, [.ref hRows, .ref hMer, .ref hEra, .ref hTape, .ref hRea, .ref hTra, .ref hWor, .ref hPla, .ref hMod, .ref hHe1, .ref hHe2, .int 0, .int 0, .int 0, .int 0, .int (-1), .int 0]))] H := hP
    have hD : va_D A [(hMod, .inl (cMo, 10, .inl (fun _ => 0))), (h0, .inr (8, [.ref hRows, .ref hMer, .ref hEra, .ref hTape, .ref hRea, .ref hTra, .ref hWor, .ref hPla, .ref hMod, .ref hHe1, .ref hHe2, .int 0, .int 0, .int 0, .int 0, .int (-1), .int 0]))] := hD
    have hK : va_K (dC, dI) vwCl [(cMo, .int)] s := hK
    obtain rfl : 0 = r_4 := hw_6.symm
    have h_7 : vp_in 0 10 := (vp_in_iff.mpr ⟨by decide, by decide⟩)
    refine va_iast hx hb hK hP hD hS 0 0 rfl rfl h_7 dX8_model_44 (fun H locs hP hD hS => ?_)
    have hP : va_P (dC, dI) vwCl [(hMod, .inl (cMo, 10, .inl (upd (fun _ => 0) (0 : Int32).toNatClampNeg 0))), (h0, .inr (8, [.ref hRows, .ref hMer, .ref hEra, .ref hTape, .ref hRea, .ref hTra, .ref hWor, .ref hPla, .ref hMod, .ref hHe1, .ref hHe2, .int 0, .int 0, .int 0, .int 0, .int (-1), .int 0]))] H := hP
    have hD : va_D A [(hMod, .inl (cMo, 10, .inl (upd (fun _ => 0) (0 : Int32).toNatClampNeg 0))), (h0, .inr (8, [.ref hRows, .ref hMer, .ref hEra, .ref hTape, .ref hRea, .ref hTra, .ref hWor, .ref hPla, .ref hMod, .ref hHe1, .ref hHe2, .int 0, .int 0, .int 0, .int 0, .int (-1), .int 0]))] := hD
    obtain ⟨g_8, eg_8⟩ : ∃ g : Nat → Int32, g = upd (fun _ => 0) (0 : Int32).toNatClampNeg 0 := ⟨_, rfl⟩
    rw [← eg_8] at hP hD
    refine lv_aload_n hx hb dX8_model_45 rfl (lv_at hl 0 rfl) ?_
    refine lv_dup hx hb dX8_model_46 rfl ?_
    refine va_get (D := (dC, dI)) (ci := 8) (v := .int 0) (C := RX8) (T := TX8) (N := 17) hx hb hts hIX8 hown hK hP 1 rfl rfl 14 (by decide) (hts (.fieldLink RX8 250 "TraitHouse" "modelsThere" "I") (by decide +kernel)) (fun _ h9 => h9) rfl dX8_model_47 ?_
    refine lv_iconst (v := 1) hx hb dX8_model_50 (by decide) ?_
    refine lv_iadd hx hb dX8_model_51 ?_
    refine lv_topi (fun x_9 ex_9 => ?_)
    obtain rfl : x_9 = 1 := ex_9.trans (by decide)
    refine va_put (D := (dC, dI)) (ci := 8) (v := .int 1) (ty := .int) (C := RX8) (T := TX8) (N := 17) hx hb hts hIX8 tyX8 tyX8_ok nmX8 hown hK hP hD hS 1 rfl rfl 14 (by decide) (hts (.fieldLink RX8 250 "TraitHouse" "modelsThere" "I") (by decide +kernel)) (fun _ h9 => h9) rfl (by decide +kernel) rfl rfl (Nat.le_of_ble_eq_true rfl) dX8_model_52 (fun H locs hP hD hS => ?_)
    have hP : va_P (dC, dI) vwCl [(hMod, .inl (cMo, 10, .inl g_8)), (h0, .inr (8, [.ref hRows, .ref hMer, .ref hEra, .ref hTape, .ref hRea, .ref hTra, .ref hWor, .ref hPla, .ref hMod, .ref hHe1, .ref hHe2, .int 0, .int 0, .int 0, .int 1, .int (-1), .int 0]))] H := hP
    have hD : va_D A [(hMod, .inl (cMo, 10, .inl g_8)), (h0, .inr (8, [.ref hRows, .ref hMer, .ref hEra, .ref hTape, .ref hRea, .ref hTra, .ref hWor, .ref hPla, .ref hMod, .ref hHe1, .ref hHe2, .int 0, .int 0, .int 0, .int 1, .int (-1), .int 0]))] := hD
    refine lv_aload_n hx hb dX8_model_55 rfl (lv_at hl 0 rfl) ?_
    refine lv_aload_n hx hb dX8_model_56 rfl (lv_at hl 0 rfl) ?_
    refine va_get (D := (dC, dI)) (ci := 8) (v := .int 1) (C := RX8) (T := TX8) (N := 17) hx hb hts hIX8 hown hK hP 1 rfl rfl 14 (by decide) (hts (.fieldLink RX8 250 "TraitHouse" "modelsThere" "I") (by decide +kernel)) (fun _ h9 => h9) rfl dX8_model_57 ?_
    refine lv_iconst (v := 1) hx hb dX8_model_60 (by decide) ?_
    refine lv_isub hx hb dX8_model_61 ?_
    refine lv_topi (fun x_10 ex_10 => ?_)
    obtain rfl : x_10 = 0 := ex_10.trans (by decide)
    have hk_11 : (0 : Int32).toInt = 0 := by decide
    have hk_12 : (1 : Int32).toInt = 1 := by decide
    have hk_13 : ((-1) : Int32).toInt = (-1) := by decide
    have hPc := hP.sub (ws' := [(h0, .inr (8, [.ref hRows, .ref hMer, .ref hEra, .ref hTape, .ref hRea, .ref hTra, .ref hWor, .ref hPla, .ref hMod, .ref hHe1, .ref hHe2, .int 0, .int 0, .int 0, .int 1, .int (-1), .int 0]))]) [1] rfl
    have hDc := hD.sub (ws' := [(h0, .inr (8, [.ref hRows, .ref hMer, .ref hEra, .ref hTape, .ref hRea, .ref hTra, .ref hWor, .ref hPla, .ref hMod, .ref hHe1, .ref hHe2, .int 0, .int 0, .int 0, .int 1, .int (-1), .int 0]))]) [1] (by decide) rfl
    have hKc := hK.sub (tys' := []) [] rfl
    have hFc := va_free (wc := [(h0, .inr (8, [.ref hRows, .ref hMer, .ref hEra, .ref hTape, .ref hRea, .ref hTra, .ref hWor, .ref hPla, .ref hMod, .ref hHe1, .ref hHe2, .int 0, .int 0, .int 0, .int 1, .int (-1), .int 0]))]) hD hS hA [1] rfl
    refine va_calli (va_runV (As := [.int 0]) (rest := []) ⟨hx, hb, hml, hown, hts⟩ (c_X8_settle l dC dI H.size h0 hRows hMer hEra hTape hRea hTra hWor hPla hMod hHe1 hHe2 0 0 0 1 (-1) 0 0 ) (cwV 1 hts gX8_model_X8_settle rfl rfl rfl (by decide +kernel) ⟨Nat.le_of_ble_eq_true rfl, Nat.le_of_ble_eq_true rfl⟩) ⟨fun a U g mk q => by obtain ⟨q0, q1, qP, qK, qD, qN⟩ := q; exact ⟨q0, q1, qP, va_K.moved (u := U) (U := U.calling g mk a) (Vm.Alike.refl U.vm) qK, qD, qN.same rfl⟩, va_recv hKc hPc (ci := 8) (q0 := 0) rfl rfl, fun U hU hW => ⟨rfl, by rw [hU], by rw [hU]; exact hPc, va_K.moved hW.alike hKc, hDc.weaken (fun _ _ _ _ => trivial), hN.warm hW⟩⟩ rfl rfl hl.1 rfl (lv_room (Nat.le_of_ble_eq_true rfl)) dX8_model_62 ⟨Nat.le_of_ble_eq_true rfl, Nat.le_of_ble_eq_true rfl⟩) hS (fun q _ h => hFc q h) hFc (fun r_14 u_15 t H1 locs ht hvm hw_16 hB hz1 hk1 hS => ?_)
    obtain ⟨w_17, rfl⟩ : ∃ z, z = u_15 := ⟨_, rfl⟩
    try dsimp only at hw_16
    obtain ⟨hP1, hK1, hD1⟩ := hB
    rw [ht] at hP1
    have hK1 := va_K.moved hvm.symm hK1
    obtain ⟨hP, hD⟩ := va_join (wr := [(hMod, .inl (cMo, 10, .inl g_8))]) (w1 := [(h0, .inr (8, [.ref hRows, .ref hMer, .ref hEra, .ref hTape, .ref hRea, .ref hTra, .ref hWor, .ref hPla, .ref hMod, .ref hHe1, .ref hHe2, .int 0, .int 0, .int 0, .int 1, .int (-1), .int w_17]))]) hP hD [1] [0] rfl rfl (by decide) (by decide) hk1 hFc hP1 hD1
    have hK := (hK.sub (tys' := [(cMo, .int)]) [0] rfl).app hK1
    generalize H1 = H at hP hS ⊢
    have hP : va_P (dC, dI) vwCl [(hMod, .inl (cMo, 10, .inl g_8)), (h0, .inr (8, [.ref hRows, .ref hMer, .ref hEra, .ref hTape, .ref hRea, .ref hTra, .ref hWor, .ref hPla, .ref hMod, .ref hHe1, .ref hHe2, .int 0, .int 0, .int 0, .int 1, .int (-1), .int w_17]))] H := hP
    have hD : va_D A [(hMod, .inl (cMo, 10, .inl g_8)), (h0, .inr (8, [.ref hRows, .ref hMer, .ref hEra, .ref hTape, .ref hRea, .ref hTra, .ref hWor, .ref hPla, .ref hMod, .ref hHe1, .ref hHe2, .int 0, .int 0, .int 0, .int 1, .int (-1), .int w_17]))] := hD
    have hK : va_K (dC, dI) vwCl [(cMo, .int)] s := hK
    obtain rfl : 0 = r_14 := hw_16.symm
    have hans : (0 : Int32).toInt = 0 := (by decide)
    exact W.iret (v := 0) hx hb hr (fun t ht hW => ⟨⟨0, (), rfl, by first | omega | (dsimp only; omega), trivial⟩, hS.F ht⟩) hS.2.2 dX8_model_65
  · have dc_2 : ¬ a.toInt = 0 := jI_ne c_2 rfl (by decide)
    refine lv_aload_n hx hb dX8_model_9 rfl (lv_at hl 0 rfl) ?_
    refine lv_iconst (v := (-1)) hx hb dX8_model_10 (by decide) ?_
    have hk_18 : ((-1) : Int32).toInt = (-1) := by decide
    have hk_19 : (0 : Int32).toInt = 0 := by decide
    have hPc := hP.sub (ws' := [(h0, .inr (8, [.ref hRows, .ref hMer, .ref hEra, .ref hTape, .ref hRea, .ref hTra, .ref hWor, .ref hPla, .ref hMod, .ref hHe1, .ref hHe2, .int 0, .int 0, .int 0, .int 0, .int (-1), .int 0]))]) [0] rfl
    have hDc := hD.sub (ws' := [(h0, .inr (8, [.ref hRows, .ref hMer, .ref hEra, .ref hTape, .ref hRea, .ref hTra, .ref hWor, .ref hPla, .ref hMod, .ref hHe1, .ref hHe2, .int 0, .int 0, .int 0, .int 0, .int (-1), .int 0]))]) [0] (by decide) rfl
    have hKc := hK.sub (tys' := []) [] rfl
    have hFc := va_free (wc := [(h0, .inr (8, [.ref hRows, .ref hMer, .ref hEra, .ref hTape, .ref hRea, .ref hTra, .ref hWor, .ref hPla, .ref hMod, .ref hHe1, .ref hHe2, .int 0, .int 0, .int 0, .int 0, .int (-1), .int 0]))]) hD hS hA [0] rfl
    refine va_calli (va_runV (As := [.int (-1)]) (rest := []) ⟨hx, hb, hml, hown, hts⟩ (c_X8_settle l dC dI s.heap.size h0 hRows hMer hEra hTape hRea hTra hWor hPla hMod hHe1 hHe2 0 0 0 0 (-1) 0 (-1) ) (cwV 1 hts gX8_model_X8_settle rfl rfl rfl (by decide +kernel) ⟨Nat.le_of_ble_eq_true rfl, Nat.le_of_ble_eq_true rfl⟩) ⟨fun a U g mk q => by obtain ⟨q0, q1, qP, qK, qD, qN⟩ := q; exact ⟨q0, q1, qP, va_K.moved (u := U) (U := U.calling g mk a) (Vm.Alike.refl U.vm) qK, qD, qN.same rfl⟩, va_recv hKc hPc (ci := 8) (q0 := 0) rfl rfl, fun U hU hW => ⟨rfl, by rw [hU], by rw [hU]; exact hPc, va_K.moved hW.alike hKc, hDc.weaken (fun _ _ _ _ => trivial), hN.warm hW⟩⟩ rfl rfl hl.1 rfl (lv_room (Nat.le_of_ble_eq_true rfl)) dX8_model_11 ⟨Nat.le_of_ble_eq_true rfl, Nat.le_of_ble_eq_true rfl⟩) hS (fun q _ h => hFc q h) hFc (fun r_20 u_21 t H1 locs ht hvm hw_22 hB hz1 hk1 hS => ?_)
    obtain ⟨w_23, rfl⟩ : ∃ z, z = u_21 := ⟨_, rfl⟩
    try dsimp only at hw_22
    obtain ⟨hP1, hK1, hD1⟩ := hB
    rw [ht] at hP1
    have hK1 := va_K.moved hvm.symm hK1
    obtain ⟨hP, hD⟩ := va_join (wr := [(hMod, .inl (cMo, 10, .inl (fun _ => 0)))]) (w1 := [(h0, .inr (8, [.ref hRows, .ref hMer, .ref hEra, .ref hTape, .ref hRea, .ref hTra, .ref hWor, .ref hPla, .ref hMod, .ref hHe1, .ref hHe2, .int 0, .int 0, .int 0, .int 0, .int (-1), .int w_23]))]) hP hD [0] [1] rfl rfl (by decide) (by decide) hk1 hFc hP1 hD1
    have hK := (hK.sub (tys' := [(cMo, .int)]) [0] rfl).app hK1
    generalize H1 = H at hP hS ⊢
    have hP : va_P (dC, dI) vwCl [(hMod, .inl (cMo, 10, .inl (fun _ => 0))), (h0, .inr (8, [.ref hRows, .ref hMer, .ref hEra, .ref hTape, .ref hRea, .ref hTra, .ref hWor, .ref hPla, .ref hMod, .ref hHe1, .ref hHe2, .int 0, .int 0, .int 0, .int 0, .int (-1), .int w_23]))] H := hP
    have hD : va_D A [(hMod, .inl (cMo, 10, .inl (fun _ => 0))), (h0, .inr (8, [.ref hRows, .ref hMer, .ref hEra, .ref hTape, .ref hRea, .ref hTra, .ref hWor, .ref hPla, .ref hMod, .ref hHe1, .ref hHe2, .int 0, .int 0, .int 0, .int 0, .int (-1), .int w_23]))] := hD
    have hK : va_K (dC, dI) vwCl [(cMo, .int)] s := hK
    obtain rfl : (-1) = r_20 := hw_22.symm
    have hans : ((-1) : Int32).toInt = (-1) := (by decide)
    exact W.iret (v := (-1)) hx hb hr (fun t ht hW => ⟨⟨(-1), (), rfl, by first | omega | (dsimp only; omega), trivial⟩, hS.F ht⟩) hS.2.2 dX8_model_14
end
section
theorem dX1_forget_0 : decode cX1_forget 0 = .ok (.iconst 0, 1) := by decide +kernel
theorem dX1_forget_1 : decode cX1_forget 1 = .ok (.istore_n 2, 1) := by decide +kernel
theorem dX1_forget_2 : decode cX1_forget 2 = .ok (.iload_n 2, 1) := by decide +kernel
theorem dX1_forget_3 : decode cX1_forget 3 = .ok (.aload_n 0, 1) := by decide +kernel
theorem dX1_forget_4 : decode cX1_forget 4 = .ok (.getfield 26, 3) := by decide +kernel
theorem dX1_forget_7 : decode cX1_forget 7 = .ok (.if_icmp .ge 48, 3) := by decide +kernel
theorem dX1_forget_55 : decode cX1_forget 55 = .ok (.return_, 1) := by decide +kernel
theorem dX3_drop_0 : decode cX3_drop 0 = .ok (.iconst 0, 1) := by decide +kernel
theorem dX3_drop_1 : decode cX3_drop 1 = .ok (.istore_n 2, 1) := by decide +kernel
theorem dX3_drop_2 : decode cX3_drop 2 = .ok (.iconst 0, 1) := by decide +kernel
theorem dX3_drop_3 : decode cX3_drop 3 = .ok (.istore_n 3, 1) := by decide +kernel
theorem dX3_drop_4 : decode cX3_drop 4 = .ok (.iload_n 3, 1) := by decide +kernel
theorem dX3_drop_5 : decode cX3_drop 5 = .ok (.aload_n 0, 1) := by decide +kernel
theorem dX3_drop_6 : decode cX3_drop 6 = .ok (.getfield 27, 3) := by decide +kernel
theorem dX3_drop_9 : decode cX3_drop 9 = .ok (.if_icmp .ge 28, 3) := by decide +kernel
theorem dX3_drop_37 : decode cX3_drop 37 = .ok (.aload_n 0, 1) := by decide +kernel
theorem dX3_drop_38 : decode cX3_drop 38 = .ok (.getfield 27, 3) := by decide +kernel
theorem dX3_drop_41 : decode cX3_drop 41 = .ok (.iload_n 2, 1) := by decide +kernel
theorem dX3_drop_42 : decode cX3_drop 42 = .ok (.isub, 1) := by decide +kernel
theorem dX3_drop_43 : decode cX3_drop 43 = .ok (.istore_n 3, 1) := by decide +kernel
theorem dX3_drop_44 : decode cX3_drop 44 = .ok (.aload_n 0, 1) := by decide +kernel
theorem dX3_drop_45 : decode cX3_drop 45 = .ok (.iload_n 2, 1) := by decide +kernel
theorem dX3_drop_46 : decode cX3_drop 46 = .ok (.putfield 27, 3) := by decide +kernel
theorem dX3_drop_49 : decode cX3_drop 49 = .ok (.iload_n 3, 1) := by decide +kernel
theorem dX3_drop_50 : decode cX3_drop 50 = .ok (.ireturn, 1) := by decide +kernel
theorem dX8_dropPerson_0 : decode cX8_dropPerson 0 = .ok (.iload_n 1, 1) := by decide +kernel
set_option maxRecDepth 20000 in
theorem ggX8_dropPerson_X8_isPerson : GoodIn wsX8_dropPerson wsX8_isPerson := goodIn_r _ [8] (by decide +kernel) (by decide +kernel)
set_option maxRecDepth 20000 in
theorem gX8_dropPerson_X8_isPerson : GoodIn wsX8_dropPerson (va_wsS RX8 100 yX8_isPerson wsX8_isPerson) := goodIn_app (goodIn_of _ (by decide +kernel)) ggX8_dropPerson_X8_isPerson
theorem dX8_dropPerson_1 : decode cX8_dropPerson 1 = .ok (.invokestatic 100, 3) := by decide +kernel
theorem dX8_dropPerson_4 : decode cX8_dropPerson 4 = .ok (.ifCond .ne 6, 3) := by decide +kernel
theorem dX8_dropPerson_10 : decode cX8_dropPerson 10 = .ok (.aload_n 0, 1) := by decide +kernel
theorem dX8_dropPerson_11 : decode cX8_dropPerson 11 = .ok (.getfield 23, 3) := by decide +kernel
theorem dX8_dropPerson_14 : decode cX8_dropPerson 14 = .ok (.iload_n 1, 1) := by decide +kernel
theorem dX8_dropPerson_15 : decode cX8_dropPerson 15 = .ok (.baload, 1) := by decide +kernel
theorem dX8_dropPerson_16 : decode cX8_dropPerson 16 = .ok (.ifCond .eq 6, 3) := by decide +kernel
theorem dX8_dropPerson_22 : decode cX8_dropPerson 22 = .ok (.aload_n 0, 1) := by decide +kernel
theorem dX8_dropPerson_23 : decode cX8_dropPerson 23 = .ok (.getfield 23, 3) := by decide +kernel
theorem dX8_dropPerson_26 : decode cX8_dropPerson 26 = .ok (.iload_n 1, 1) := by decide +kernel
theorem dX8_dropPerson_27 : decode cX8_dropPerson 27 = .ok (.iconst 1, 1) := by decide +kernel
theorem dX8_dropPerson_28 : decode cX8_dropPerson 28 = .ok (.bastore, 1) := by decide +kernel
theorem dX8_dropPerson_29 : decode cX8_dropPerson 29 = .ok (.aload_n 0, 1) := by decide +kernel
theorem dX8_dropPerson_30 : decode cX8_dropPerson 30 = .ok (.dup, 1) := by decide +kernel
theorem dX8_dropPerson_31 : decode cX8_dropPerson 31 = .ok (.getfield 127, 3) := by decide +kernel
theorem dX8_dropPerson_34 : decode cX8_dropPerson 34 = .ok (.iconst 1, 1) := by decide +kernel
theorem dX8_dropPerson_35 : decode cX8_dropPerson 35 = .ok (.iadd, 1) := by decide +kernel
theorem dX8_dropPerson_36 : decode cX8_dropPerson 36 = .ok (.putfield 127, 3) := by decide +kernel
theorem dX8_dropPerson_39 : decode cX8_dropPerson 39 = .ok (.iconst 0, 1) := by decide +kernel
theorem dX8_dropPerson_40 : decode cX8_dropPerson 40 = .ok (.istore_n 2, 1) := by decide +kernel
theorem dX8_dropPerson_41 : decode cX8_dropPerson 41 = .ok (.iload_n 2, 1) := by decide +kernel
theorem dX8_dropPerson_42 : decode cX8_dropPerson 42 = .ok (.bipush 20, 2) := by decide +kernel
theorem dX8_dropPerson_44 : decode cX8_dropPerson 44 = .ok (.if_icmp .ge 24, 3) := by decide +kernel
theorem dX8_dropPerson_68 : decode cX8_dropPerson 68 = .ok (.aload_n 0, 1) := by decide +kernel
theorem dX8_dropPerson_69 : decode cX8_dropPerson 69 = .ok (.getfield 61, 3) := by decide +kernel
theorem dX8_dropPerson_72 : decode cX8_dropPerson 72 = .ok (.iload_n 1, 1) := by decide +kernel
set_option maxRecDepth 20000 in
theorem ggX8_dropPerson_X1_forget : GoodIn wsX8_dropPerson wsX1_forget := goodIn_r _ [29, 30, 31, 32, 33, 73, 74, 75, 76, 77] (by decide +kernel) (by decide +kernel)
set_option maxRecDepth 20000 in
theorem gX8_dropPerson_X1_forget_n138 : GoodIn wsX8_dropPerson (wsX1_forget) := ggX8_dropPerson_X1_forget
theorem dX8_dropPerson_73 : decode cX8_dropPerson 73 = .ok (.invokevirtual 138, 3) := by decide +kernel
theorem dX8_dropPerson_76 : decode cX8_dropPerson 76 = .ok (.aload_n 0, 1) := by decide +kernel
theorem dX8_dropPerson_77 : decode cX8_dropPerson 77 = .ok (.getfield 10, 3) := by decide +kernel
theorem dX8_dropPerson_80 : decode cX8_dropPerson 80 = .ok (.iload_n 1, 1) := by decide +kernel
set_option maxRecDepth 20000 in
theorem ggX8_dropPerson_X3_drop : GoodIn wsX8_dropPerson wsX3_drop := goodIn_r _ [37, 38, 39, 40, 41, 42, 35, 43, 44, 45, 46, 47, 78, 79, 80, 81, 82, 83, 84] (by decide +kernel) (by decide +kernel)
set_option maxRecDepth 20000 in
theorem gX8_dropPerson_X3_drop_n139 : GoodIn wsX8_dropPerson (wsX3_drop) := ggX8_dropPerson_X3_drop
theorem dX8_dropPerson_81 : decode cX8_dropPerson 81 = .ok (.invokevirtual 139, 3) := by decide +kernel
theorem dX8_dropPerson_84 : decode cX8_dropPerson 84 = .ok (.ireturn, 1) := by decide +kernel
theorem dX8_dropPerson_47 : decode cX8_dropPerson 47 = .ok (.aload_n 0, 1) := by decide +kernel
theorem dX8_dropPerson_48 : decode cX8_dropPerson 48 = .ok (.iload_n 2, 1) := by decide +kernel
set_option maxRecDepth 20000 in
theorem ggX8_dropPerson_X8_traitAt : GoodIn wsX8_dropPerson wsX8_traitAt := goodIn_r _ [12, 13, 14, 48, 49, 50, 51, 52, 53, 54, 55, 56, 57, 58, 59, 60, 61, 62, 63, 64] (by decide +kernel) (by decide +kernel)
set_option maxRecDepth 20000 in
theorem gX8_dropPerson_X8_traitAt : GoodIn wsX8_dropPerson (wsV RX8 130 RX8 yX8_traitAt wsX8_traitAt) := goodIn_app (goodIn_of _ (by decide +kernel)) ggX8_dropPerson_X8_traitAt
theorem dX8_dropPerson_49 : decode cX8_dropPerson 49 = .ok (.invokevirtual 130, 3) := by decide +kernel
theorem dX8_dropPerson_52 : decode cX8_dropPerson 52 = .ok (.astore_n 3, 1) := by decide +kernel
theorem dX8_dropPerson_53 : decode cX8_dropPerson 53 = .ok (.aload_n 3, 1) := by decide +kernel
theorem dX8_dropPerson_54 : decode cX8_dropPerson 54 = .ok (.ifnull 8, 3) := by decide +kernel
theorem dX8_dropPerson_62 : decode cX8_dropPerson 62 = .ok (.iinc 2 1, 3) := by decide +kernel
theorem dX8_dropPerson_65 : decode cX8_dropPerson 65 = .ok (.goto (-24), 3) := by decide +kernel
theorem dX8_dropPerson_7 : decode cX8_dropPerson 7 = .ok (.bipush (-2), 2) := by decide +kernel
theorem dX8_dropPerson_9 : decode cX8_dropPerson 9 = .ok (.ireturn, 1) := by decide +kernel
theorem dX8_erase_0 : decode cX8_erase 0 = .ok (.aload_n 0, 1) := by decide +kernel
theorem dX8_erase_1 : decode cX8_erase 1 = .ok (.aload_n 0, 1) := by decide +kernel
theorem dX8_erase_2 : decode cX8_erase 2 = .ok (.iload_n 1, 1) := by decide +kernel
set_option maxRecDepth 20000 in
theorem ggX8_erase_X8_dropPerson : GoodIn wsX8_erase wsX8_dropPerson := goodIn_r _ [5, 6, 7, 8, 9, 10, 11, 4, 12, 13, 14, 15, 16, 17, 18, 19, 20, 21, 22, 23, 24, 25, 26, 27, 28, 29, 30, 31, 32, 33, 34, 35, 36, 37, 38, 39, 40, 41, 42, 43, 44, 45, 46, 47, 48, 49, 50, 51, 61, 62, 63, 64, 65, 66, 67, 68, 69, 70, 71, 72, 73, 74, 75, 76, 77, 78, 79, 80, 81, 82, 83, 84, 85, 86, 87, 88, 89, 90, 91, 92, 93, 94, 95, 96, 97] (by decide +kernel) (by decide +kernel)
set_option maxRecDepth 20000 in
theorem gX8_erase_X8_dropPerson : GoodIn wsX8_erase (wsV RX8 124 RX8 yX8_dropPerson wsX8_dropPerson) := goodIn_app (goodIn_of _ (by decide +kernel)) ggX8_erase_X8_dropPerson
theorem dX8_erase_3 : decode cX8_erase 3 = .ok (.invokevirtual 124, 3) := by decide +kernel
set_option maxRecDepth 20000 in
theorem ggX8_erase_X8_settle : GoodIn wsX8_erase wsX8_settle := goodIn_r _ [55, 56, 57, 58, 59, 60, 61, 62, 63, 64, 65, 66, 67, 68, 69, 70, 71, 72, 73, 74, 75, 76, 77] (by decide +kernel) (by decide +kernel)
set_option maxRecDepth 20000 in
theorem gX8_erase_X8_settle : GoodIn wsX8_erase (wsV RX8 86 RX8 yX8_settle wsX8_settle) := goodIn_app (goodIn_of _ (by decide +kernel)) ggX8_erase_X8_settle
theorem dX8_erase_6 : decode cX8_erase 6 = .ok (.invokevirtual 86, 3) := by decide +kernel
theorem dX8_erase_9 : decode cX8_erase 9 = .ok (.ireturn, 1) := by decide +kernel
set_option maxHeartbeats 4000000 in
set_option maxRecDepth 100000 in
theorem c_X1_forget (l : Launch) (dC : Nat → ClassId) (dI : Nat → Nat → Nat) (sz : Nat) (hPla : Nat) (aO : Nat) (aQ : Nat) (aF : Nat) (aW : Nat) (a : Int32)  : Met l yX1_forget wsX1_forget ({ frames := 0, cells := 0, slots := 0, locals := 0 }) (va_Pc [.ref hPla, .int a] (fun U => U.heap.size = sz ∧ va_P (dC, dI) vwCl [(hPla, .inr (1, [.ref aO, .ref aQ, .ref aF, .ref aW, .int 0]))] U.heap ∧ va_K (dC, dI) vwCl [] U ∧ va_D (fun _ => True) [(hPla, .inr (1, [.ref aO, .ref aQ, .ref aF, .ref aW, .int 0]))] ∧ nw_ok U)) (va_Qv (fun (_ : Unit) => True) (fun (_ : Unit) (t : State) => True) (va_A [(hPla, .inr (1, [.ref aO, .ref aQ, .ref aF, .ref aW, .int 0]))] sz)) 0 0 (va_A [(hPla, .inr (1, [.ref aO, .ref aQ, .ref aF, .ref aW, .int 0]))] sz) := by
  refine Met.ofW (cc := cX1_forget) (maxL := 3) (ret := none) (by decide) rfl ?_
  intro p e s m args below meth c s₁ B hml hv
  obtain ⟨rfl, hsz, hP, hK, hD0, hN⟩ := hv
  have hx := B.exec
  have hb := B.bytes
  have hr := B.returns
  have hts := atoms_spec (ws := wsX1_forget) B.pre
  have hown : s.vm.findClass RX1 = some m.cls := findClass_of_methodNamed B.named
  have hlocks := B.notSynchronized
  subst hsz
  have hD := hD0.self (sz := s.heap.size)
  generalize hAe : va_A [(hPla, .inr (1, [.ref aO, .ref aQ, .ref aF, .ref aW, .int 0]))] s.heap.size = A at hD ⊢
  have hA : ∀ q : Nat, s.heap.size ≤ q → A q := fun q h => by rw [← hAe]; exact Or.inr h
  have hS : va_S A s.heap s.heap [] := va_S.rf
  have hP : va_P (dC, dI) vwCl [(hPla, .inr (1, [.ref aO, .ref aQ, .ref aF, .ref aW, .int 0]))] s.heap := hP
  have hIX1 : ∀ w ∈ u_ws RX1 TX1 5, w ∈ wsX1_forget := by decide +kernel
  have hl := lv_entry ([.ref hPla, .int a]) (n := 3) (Nat.le_of_ble_eq_true rfl)
  rw [lg_entry_eq]
  generalize (lg_sl ([.ref hPla, .int a]) ++ List.replicate (3 - (lg_sl ([.ref hPla, .int a])).length) Slot.unset).toArray = ls at hl ⊢
  have hl : lv_has ls 3 [(0, .ref hPla), (1, .int a)] := hl
  refine lv_iconst (v := 0) hx hb dX1_forget_0 (by decide) ?_
  refine lv_istore_n (lv' := [(2, .int 0), (0, .ref hPla), (1, .int a)]) hx hb dX1_forget_1 rfl hl (by decide) rfl (fun ls hl => ?_)
  refine lv_iload_n hx hb dX1_forget_2 rfl (lv_at hl 0 rfl) ?_
  refine lv_aload_n hx hb dX1_forget_3 rfl (lv_at hl 1 rfl) ?_
  refine va_get (D := (dC, dI)) (ci := 1) (v := .int 0) (C := RX1) (T := TX1) (N := 5) hx hb hts hIX1 hown hK hP 0 rfl rfl 4 (by decide) (hts (.fieldLink RX1 26 "TraitHouse$Places" "size" "I") (by decide +kernel)) (fun _ h9 => h9) rfl dX1_forget_4 ?_
  refine lv_icmp_ge (tgt := 55) hx hb dX1_forget_7 (by decide) (fun c_1 => ?_) (fun c_1 => absurd (by decide) c_1)
  exact W.vret hx hb hr (fun t ht hW => ⟨⟨(), rfl, trivial, trivial⟩, hS.F ht⟩) hS.2.2 dX1_forget_55

set_option maxHeartbeats 4000000 in
set_option maxRecDepth 100000 in
theorem c_X3_drop (l : Launch) (dC : Nat → ClassId) (dI : Nat → Nat → Nat) (sz : Nat) (hRows : Nat) (aP : Nat) (aS : Nat) (aM : Nat) (aK : Nat) (aV : Nat) (a : Int32)  : Met l yX3_drop wsX3_drop ({ frames := 0, cells := 0, slots := 0, locals := 0 }) (va_Pc [.ref hRows, .int a] (fun U => U.heap.size = sz ∧ va_P (dC, dI) vwCl [(hRows, .inr (3, [.ref aP, .ref aS, .ref aM, .ref aK, .ref aV, .int 0, .int 0]))] U.heap ∧ va_K (dC, dI) vwCl [] U ∧ va_D (fun _ => True) [(hRows, .inr (3, [.ref aP, .ref aS, .ref aM, .ref aK, .ref aV, .int 0, .int 0]))] ∧ nw_ok U)) (va_Qi (fun (r : Int32) (_ : Unit) => r = 0) (fun (_ : Unit) (t : State) => True) (va_A [(hRows, .inr (3, [.ref aP, .ref aS, .ref aM, .ref aK, .ref aV, .int 0, .int 0]))] sz)) 0 0 (va_A [(hRows, .inr (3, [.ref aP, .ref aS, .ref aM, .ref aK, .ref aV, .int 0, .int 0]))] sz) := by
  refine Met.ofW (cc := cX3_drop) (maxL := 4) (ret := (some .int)) (by decide) rfl ?_
  intro p e s m args below meth c s₁ B hml hv
  obtain ⟨rfl, hsz, hP, hK, hD0, hN⟩ := hv
  have hx := B.exec
  have hb := B.bytes
  have hr := B.returns
  have hts := atoms_spec (ws := wsX3_drop) B.pre
  have hown : s.vm.findClass RX3 = some m.cls := findClass_of_methodNamed B.named
  have hlocks := B.notSynchronized
  subst hsz
  have hD := hD0.self (sz := s.heap.size)
  generalize hAe : va_A [(hRows, .inr (3, [.ref aP, .ref aS, .ref aM, .ref aK, .ref aV, .int 0, .int 0]))] s.heap.size = A at hD ⊢
  have hA : ∀ q : Nat, s.heap.size ≤ q → A q := fun q h => by rw [← hAe]; exact Or.inr h
  have hS : va_S A s.heap s.heap [] := va_S.rf
  have hP : va_P (dC, dI) vwCl [(hRows, .inr (3, [.ref aP, .ref aS, .ref aM, .ref aK, .ref aV, .int 0, .int 0]))] s.heap := hP
  have hIX3 : ∀ w ∈ u_ws RX3 TX3 7, w ∈ wsX3_drop := by decide +kernel
  have hl := lv_entry ([.ref hRows, .int a]) (n := 4) (Nat.le_of_ble_eq_true rfl)
  rw [lg_entry_eq]
  generalize (lg_sl ([.ref hRows, .int a]) ++ List.replicate (4 - (lg_sl ([.ref hRows, .int a])).length) Slot.unset).toArray = ls at hl ⊢
  have hl : lv_has ls 4 [(0, .ref hRows), (1, .int a)] := hl
  refine lv_iconst (v := 0) hx hb dX3_drop_0 (by decide) ?_
  refine lv_istore_n (lv' := [(2, .int 0), (0, .ref hRows), (1, .int a)]) hx hb dX3_drop_1 rfl hl (by decide) rfl (fun ls hl => ?_)
  refine lv_iconst (v := 0) hx hb dX3_drop_2 (by decide) ?_
  refine lv_istore_n (lv' := [(3, .int 0), (2, .int 0), (0, .ref hRows), (1, .int a)]) hx hb dX3_drop_3 rfl hl (by decide) rfl (fun ls hl => ?_)
  refine lv_iload_n hx hb dX3_drop_4 rfl (lv_at hl 0 rfl) ?_
  refine lv_aload_n hx hb dX3_drop_5 rfl (lv_at hl 2 rfl) ?_
  refine va_get (D := (dC, dI)) (ci := 3) (v := .int 0) (C := RX3) (T := TX3) (N := 7) hx hb hts hIX3 hown hK hP 0 rfl rfl 5 (by decide) (hts (.fieldLink RX3 27 "TraitHouse$Rows" "size" "I") (by decide +kernel)) (fun _ h9 => h9) rfl dX3_drop_6 ?_
  refine lv_icmp_ge (tgt := 37) hx hb dX3_drop_9 (by decide) (fun c_1 => ?_) (fun c_1 => absurd (by decide) c_1)
  refine lv_aload_n hx hb dX3_drop_37 rfl (lv_at hl 2 rfl) ?_
  refine va_get (D := (dC, dI)) (ci := 3) (v := .int 0) (C := RX3) (T := TX3) (N := 7) hx hb hts hIX3 hown hK hP 0 rfl rfl 5 (by decide) (hts (.fieldLink RX3 27 "TraitHouse$Rows" "size" "I") (by decide +kernel)) (fun _ h9 => h9) rfl dX3_drop_38 ?_
  refine lv_iload_n hx hb dX3_drop_41 rfl (lv_at hl 1 rfl) ?_
  refine lv_isub hx hb dX3_drop_42 ?_
  refine lv_topi (fun x_2 ex_2 => ?_)
  obtain rfl : x_2 = 0 := ex_2.trans (by decide)
  refine lv_istore_n (lv' := [(3, .int 0), (2, .int 0), (0, .ref hRows), (1, .int a)]) hx hb dX3_drop_43 rfl hl (by decide) rfl (fun ls hl => ?_)
  refine lv_aload_n hx hb dX3_drop_44 rfl (lv_at hl 2 rfl) ?_
  refine lv_iload_n hx hb dX3_drop_45 rfl (lv_at hl 1 rfl) ?_
  refine va_put (D := (dC, dI)) (ci := 3) (v := .int 0) (ty := .int) (C := RX3) (T := TX3) (N := 7) hx hb hts hIX3 tyX3 tyX3_ok nmX3 hown hK hP hD hS 0 rfl rfl 5 (by decide) (hts (.fieldLink RX3 27 "TraitHouse$Rows" "size" "I") (by decide +kernel)) (fun _ h9 => h9) rfl (by decide +kernel) rfl rfl (Nat.le_of_ble_eq_true rfl) dX3_drop_46 (fun H locs hP hD hS => ?_)
  have hP : va_P (dC, dI) vwCl [(hRows, .inr (3, [.ref aP, .ref aS, .ref aM, .ref aK, .ref aV, .int 0, .int 0]))] H := hP
  have hD : va_D A [(hRows, .inr (3, [.ref aP, .ref aS, .ref aM, .ref aK, .ref aV, .int 0, .int 0]))] := hD
  refine lv_iload_n hx hb dX3_drop_49 rfl (lv_at hl 0 rfl) ?_
  exact W.iret (v := 0) hx hb hr (fun t ht hW => ⟨⟨0, (), rfl, rfl, trivial⟩, hS.F ht⟩) hS.2.2 dX3_drop_50

set_option maxHeartbeats 4000000 in
set_option maxRecDepth 100000 in
theorem c_X8_dropPerson (l : Launch) (dC : Nat → ClassId) (dI : Nat → Nat → Nat) (sz : Nat) (h0 : Nat) (hRows : Nat) (hMer : Nat) (hEra : Nat) (hTape : Nat) (hRea : Nat) (hTra : Nat) (hWor : Nat) (hPla : Nat) (hMod : Nat) (hHe1 : Nat) (hHe2 : Nat) (aO : Nat) (aQ : Nat) (aF : Nat) (aW : Nat) (aP : Nat) (aS : Nat) (aM : Nat) (aK : Nat) (aV : Nat) (cE : ClassId) (a : Int32)  : Met l yX8_dropPerson wsX8_dropPerson ({ frames := 1, cells := 0, slots := 0, locals := 23 }) (va_Pc [.ref h0, .int a] (fun U => U.heap.size = sz ∧ va_P (dC, dI) vwCl [(h0, .inr (8, [.ref hRows, .ref hMer, .ref hEra, .ref hTape, .ref hRea, .ref hTra, .ref hWor, .ref hPla, .ref hMod, .ref hHe1, .ref hHe2, .int 0, .int 0, .int 0, .int 0, .int (-1), .int 0])), (hEra, .inl (cE, 20, .inl (fun _ => 0))), (hPla, .inr (1, [.ref aO, .ref aQ, .ref aF, .ref aW, .int 0])), (hRows, .inr (3, [.ref aP, .ref aS, .ref aM, .ref aK, .ref aV, .int 0, .int 0]))] U.heap ∧ va_K (dC, dI) vwCl [(cE, .boolean)] U ∧ va_D (fun _ => True) [(h0, .inr (8, [.ref hRows, .ref hMer, .ref hEra, .ref hTape, .ref hRea, .ref hTra, .ref hWor, .ref hPla, .ref hMod, .ref hHe1, .ref hHe2, .int 0, .int 0, .int 0, .int 0, .int (-1), .int 0])), (hEra, .inl (cE, 20, .inl (fun _ => 0))), (hPla, .inr (1, [.ref aO, .ref aQ, .ref aF, .ref aW, .int 0])), (hRows, .inr (3, [.ref aP, .ref aS, .ref aM, .ref aK, .ref aV, .int 0, .int 0]))] ∧ nw_ok U)) (va_Qi (fun (r : Int32) (u : Int32) => (0 ≤ a.toInt ∧ a.toInt ≤ 19 → r.toInt = 0) ∧ (¬ (0 ≤ a.toInt ∧ a.toInt ≤ 19) → r.toInt = (-2))) (fun (u : Int32) (t : State) => va_P (dC, dI) vwCl [(h0, .inr (8, [.ref hRows, .ref hMer, .ref hEra, .ref hTape, .ref hRea, .ref hTra, .ref hWor, .ref hPla, .ref hMod, .ref hHe1, .ref hHe2, .int 0, .int u, .int 0, .int 0, .int (-1), .int 0]))] t.heap ∧ va_K (dC, dI) vwCl [] t ∧ va_D (va_A [(h0, .inr (8, [.ref hRows, .ref hMer, .ref hEra, .ref hTape, .ref hRea, .ref hTra, .ref hWor, .ref hPla, .ref hMod, .ref hHe1, .ref hHe2, .int 0, .int 0, .int 0, .int 0, .int (-1), .int 0])), (hEra, .inl (cE, 20, .inl (fun _ => 0))), (hPla, .inr (1, [.ref aO, .ref aQ, .ref aF, .ref aW, .int 0])), (hRows, .inr (3, [.ref aP, .ref aS, .ref aM, .ref aK, .ref aV, .int 0, .int 0]))] sz) [(h0, .inr (8, [.ref hRows, .ref hMer, .ref hEra, .ref hTape, .ref hRea, .ref hTra, .ref hWor, .ref hPla, .ref hMod, .ref hHe1, .ref hHe2, .int 0, .int u, .int 0, .int 0, .int (-1), .int 0]))]) (va_A [(h0, .inr (8, [.ref hRows, .ref hMer, .ref hEra, .ref hTape, .ref hRea, .ref hTra, .ref hWor, .ref hPla, .ref hMod, .ref hHe1, .ref hHe2, .int 0, .int 0, .int 0, .int 0, .int (-1), .int 0])), (hEra, .inl (cE, 20, .inl (fun _ => 0))), (hPla, .inr (1, [.ref aO, .ref aQ, .ref aF, .ref aW, .int 0])), (hRows, .inr (3, [.ref aP, .ref aS, .ref aM, .ref aK, .ref aV, .int 0, .int 0]))] sz)) 0 0 (va_A [(h0, .inr (8, [.ref hRows, .ref hMer, .ref hEra, .ref hTape, .ref hRea, .ref hTra, .ref hWor, .ref hPla, .ref hMod, .ref hHe1, .ref hHe2, .int 0, .int 0, .int 0, .int 0, .int (-1), .int 0])), (hEra, .inl (cE, 20, .inl (fun _ => 0))), (hPla, .inr (1, [.ref aO, .ref aQ, .ref aF, .ref aW, .int 0])), (hRows, .inr (3, [.ref aP, .ref aS, .ref aM, .ref aK, .ref aV, .int 0, .int 0]))] sz) := by
  refine Met.ofW (cc := cX8_dropPerson) (maxL := 4) (ret := (some .int)) (by decide) rfl ?_
  intro p e s m args below meth c s₁ B hml hv
  obtain ⟨rfl, hsz, hP, hK, hD0, hN⟩ := hv
  have hx := B.exec
  have hb := B.bytes
  have hr := B.returns
  have hts := atoms_spec (ws := wsX8_dropPerson) B.pre
  have hown : s.vm.findClass RX8 = some m.cls := findClass_of_methodNamed B.named
  have hlocks := B.notSynchronized
  subst hsz
  have hD := hD0.self (sz := s.heap.size)
  generalize hAe : va_A [(h0, .inr (8, [.ref hRows, .ref hMer, .ref hEra, .ref hTape, .ref hRea, .ref hTra, .ref hWor, .ref hPla, .ref hMod, .ref hHe1, .ref hHe2, .int 0, .int 0, .int 0, .int 0, .int (-1), .int 0])), (hEra, .inl (cE, 20, .inl (fun _ => 0))), (hPla, .inr (1, [.ref aO, .ref aQ, .ref aF, .ref aW, .int 0])), (hRows, .inr (3, [.ref aP, .ref aS, .ref aM, .ref aK, .ref aV, .int 0, .int 0]))] s.heap.size = A at hD ⊢
  have hA : ∀ q : Nat, s.heap.size ≤ q → A q := fun q h => by rw [← hAe]; exact Or.inr h
  have hS : va_S A s.heap s.heap [] := va_S.rf
  have hP : va_P (dC, dI) vwCl [(h0, .inr (8, [.ref hRows, .ref hMer, .ref hEra, .ref hTape, .ref hRea, .ref hTra, .ref hWor, .ref hPla, .ref hMod, .ref hHe1, .ref hHe2, .int 0, .int 0, .int 0, .int 0, .int (-1), .int 0])), (hEra, .inl (cE, 20, .inl (fun _ => 0))), (hPla, .inr (1, [.ref aO, .ref aQ, .ref aF, .ref aW, .int 0])), (hRows, .inr (3, [.ref aP, .ref aS, .ref aM, .ref aK, .ref aV, .int 0, .int 0]))] s.heap := hP
  have hIX8 : ∀ w ∈ u_ws RX8 TX8 17, w ∈ wsX8_dropPerson := by decide +kernel
  have hl := lv_entry ([.ref h0, .int a]) (n := 4) (Nat.le_of_ble_eq_true rfl)
  rw [lg_entry_eq]
  generalize (lg_sl ([.ref h0, .int a]) ++ List.replicate (4 - (lg_sl ([.ref h0, .int a])).length) Slot.unset).toArray = ls at hl ⊢
  have hl : lv_has ls 4 [(0, .ref h0), (1, .int a)] := hl
  generalize hQe : MQ below _ _ _ _ _ _ = QQ
  refine lv_iload_n hx hb dX8_dropPerson_0 rfl (lv_at hl 1 rfl) ?_
  have hPc := hP.sub (ws' := []) [] rfl
  have hDc := hD.sub (ws' := []) [] (by decide) rfl
  have hKc := hK.sub (tys' := []) [] rfl
  have hFc := va_free (wc := []) hD hS hA [] rfl
  refine va_calli (va_runS (As := [.int a]) (rest := []) ⟨hx, hb, hml, hown, hts⟩ (c_X8_isPerson l dC dI s.heap.size a ) (va_cwS 1 hts gX8_dropPerson_X8_isPerson rfl rfl rfl (by decide +kernel) ⟨Nat.le_of_ble_eq_true rfl, Nat.le_of_ble_eq_true rfl⟩) ⟨fun a U g mk q => by obtain ⟨q0, q1, qP, qK, qD, qN⟩ := q; exact ⟨q0, q1, qP, va_K.moved (u := U) (U := U.calling g mk a) (Vm.Alike.refl U.vm) qK, qD, qN.same rfl⟩, fun U hU hW => ⟨rfl, by rw [hU], by rw [hU]; exact hPc, va_K.moved hW.alike hKc, hDc.weaken (fun _ _ _ _ => trivial), hN.warm hW⟩⟩ rfl rfl hl.1 rfl (lv_room (Nat.le_of_ble_eq_true rfl)) dX8_dropPerson_1 ⟨Nat.le_of_ble_eq_true rfl, Nat.le_of_ble_eq_true rfl⟩) hS (fun q _ h => hFc q h) hFc (fun r_1 u_2 t H1 locs ht hvm hw_3 hB hz1 hk1 hS => ?_)
  try dsimp only at hw_3
  obtain ⟨hP1, hK1, hD1⟩ := hB
  rw [ht] at hP1
  have hK1 := va_K.moved hvm.symm hK1
  obtain ⟨hP, hD⟩ := va_join (wr := [(h0, .inr (8, [.ref hRows, .ref hMer, .ref hEra, .ref hTape, .ref hRea, .ref hTra, .ref hWor, .ref hPla, .ref hMod, .ref hHe1, .ref hHe2, .int 0, .int 0, .int 0, .int 0, .int (-1), .int 0])), (hEra, .inl (cE, 20, .inl (fun _ => 0))), (hPla, .inr (1, [.ref aO, .ref aQ, .ref aF, .ref aW, .int 0])), (hRows, .inr (3, [.ref aP, .ref aS, .ref aM, .ref aK, .ref aV, .int 0, .int 0]))]) (w1 := []) hP hD [] [0, 1, 2, 3] rfl rfl (by decide) (by decide) hk1 hFc hP1 hD1
  have hK := (hK.sub (tys' := [(cE, .boolean)]) [0] rfl).app hK1
  generalize H1 = H at hP hS ⊢
  have hP : va_P (dC, dI) vwCl [(h0, .inr (8, [.ref hRows, .ref hMer, .ref hEra, .ref hTape, .ref hRea, .ref hTra, .ref hWor, .ref hPla, .ref hMod, .ref hHe1, .ref hHe2, .int 0, .int 0, .int 0, .int 0, .int (-1), .int 0])), (hEra, .inl (cE, 20, .inl (fun _ => 0))), (hPla, .inr (1, [.ref aO, .ref aQ, .ref aF, .ref aW, .int 0])), (hRows, .inr (3, [.ref aP, .ref aS, .ref aM, .ref aK, .ref aV, .int 0, .int 0]))] H := hP
  have hD : va_D A [(h0, .inr (8, [.ref hRows, .ref hMer, .ref hEra, .ref hTape, .ref hRea, .ref hTra, .ref hWor, .ref hPla, .ref hMod, .ref hHe1, .ref hHe2, .int 0, .int 0, .int 0, .int 0, .int (-1), .int 0])), (hEra, .inl (cE, 20, .inl (fun _ => 0))), (hPla, .inr (1, [.ref aO, .ref aQ, .ref aF, .ref aW, .int 0])), (hRows, .inr (3, [.ref aP, .ref aS, .ref aM, .ref aK, .ref aV, .int 0, .int 0]))] := hD
  have hK : va_K (dC, dI) vwCl [(cE, .boolean)] s := hK
  refine lv_if_ne (tgt := 10) hx hb dX8_dropPerson_4 (by decide) (fun c_4 => ?_) (fun c_4 => ?_)
  · have dc_4 : ¬ r_1.toInt = 0 := jI_ne c_4 rfl (by decide)
    refine lv_aload_n hx hb dX8_dropPerson_10 rfl (lv_at hl 0 rfl) ?_
    refine va_get (D := (dC, dI)) (ci := 8) (v := .ref hEra) (C := RX8) (T := TX8) (N := 17) hx hb hts hIX8 hown hK hP 0 rfl rfl 2 (by decide) (hts (.fieldLink RX8 23 "TraitHouse" "erased" "[Z") (by decide +kernel)) (fun _ h9 => h9) rfl dX8_dropPerson_11 ?_
    refine lv_iload_n hx hb dX8_dropPerson_14 rfl (lv_at hl 1 rfl) ?_
    have h_5 : vp_in a 20 := (vp_in_iff.mpr ⟨by omega, by omega⟩)
    refine va_zald hx hb hK hP 1 0 rfl rfl h_5 dX8_dropPerson_15 ?_
    refine lv_topi (fun x_6 ex_6 => ?_)
    obtain rfl : x_6 = 0 := ex_6
    refine lv_if_eq (tgt := 22) hx hb dX8_dropPerson_16 (by decide) (fun c_7 => ?_) (fun c_7 => absurd (by decide) c_7)
    refine lv_aload_n hx hb dX8_dropPerson_22 rfl (lv_at hl 0 rfl) ?_
    refine va_get (D := (dC, dI)) (ci := 8) (v := .ref hEra) (C := RX8) (T := TX8) (N := 17) hx hb hts hIX8 hown hK hP 0 rfl rfl 2 (by decide) (hts (.fieldLink RX8 23 "TraitHouse" "erased" "[Z") (by decide +kernel)) (fun _ h9 => h9) rfl dX8_dropPerson_23 ?_
    refine lv_iload_n hx hb dX8_dropPerson_26 rfl (lv_at hl 1 rfl) ?_
    refine lv_iconst (v := 1) hx hb dX8_dropPerson_27 (by decide) ?_
    have h_8 : vp_in a 20 := (vp_in_iff.mpr ⟨by omega, by omega⟩)
    refine va_zast hx hb hK hP hD hS 1 0 rfl rfl h_8 dX8_dropPerson_28 (fun H locs hP hD hS => ?_)
    have hP : va_P (dC, dI) vwCl [(h0, .inr (8, [.ref hRows, .ref hMer, .ref hEra, .ref hTape, .ref hRea, .ref hTra, .ref hWor, .ref hPla, .ref hMod, .ref hHe1, .ref hHe2, .int 0, .int 0, .int 0, .int 0, .int (-1), .int 0])), (hEra, .inl (cE, 20, .inl (upd (fun _ => 0) a.toNatClampNeg (vp_nar .boolean 1)))), (hPla, .inr (1, [.ref aO, .ref aQ, .ref aF, .ref aW, .int 0])), (hRows, .inr (3, [.ref aP, .ref aS, .ref aM, .ref aK, .ref aV, .int 0, .int 0]))] H := hP
    have hD : va_D A [(h0, .inr (8, [.ref hRows, .ref hMer, .ref hEra, .ref hTape, .ref hRea, .ref hTra, .ref hWor, .ref hPla, .ref hMod, .ref hHe1, .ref hHe2, .int 0, .int 0, .int 0, .int 0, .int (-1), .int 0])), (hEra, .inl (cE, 20, .inl (upd (fun _ => 0) a.toNatClampNeg (vp_nar .boolean 1)))), (hPla, .inr (1, [.ref aO, .ref aQ, .ref aF, .ref aW, .int 0])), (hRows, .inr (3, [.ref aP, .ref aS, .ref aM, .ref aK, .ref aV, .int 0, .int 0]))] := hD
    obtain ⟨g_9, eg_9⟩ : ∃ g : Nat → Int32, g = upd (fun _ => 0) a.toNatClampNeg (vp_nar .boolean 1) := ⟨_, rfl⟩
    rw [← eg_9] at hP hD
    refine lv_aload_n hx hb dX8_dropPerson_29 rfl (lv_at hl 0 rfl) ?_
    refine lv_dup hx hb dX8_dropPerson_30 rfl ?_
    refine va_get (D := (dC, dI)) (ci := 8) (v := .int 0) (C := RX8) (T := TX8) (N := 17) hx hb hts hIX8 hown hK hP 0 rfl rfl 12 (by decide) (hts (.fieldLink RX8 127 "TraitHouse" "erasedPeople" "I") (by decide +kernel)) (fun _ h9 => h9) rfl dX8_dropPerson_31 ?_
    refine lv_iconst (v := 1) hx hb dX8_dropPerson_34 (by decide) ?_
    refine lv_iadd hx hb dX8_dropPerson_35 ?_
    refine lv_topi (fun x_10 ex_10 => ?_)
    obtain rfl : x_10 = 1 := ex_10.trans (by decide)
    refine va_put (D := (dC, dI)) (ci := 8) (v := .int 1) (ty := .int) (C := RX8) (T := TX8) (N := 17) hx hb hts hIX8 tyX8 tyX8_ok nmX8 hown hK hP hD hS 0 rfl rfl 12 (by decide) (hts (.fieldLink RX8 127 "TraitHouse" "erasedPeople" "I") (by decide +kernel)) (fun _ h9 => h9) rfl (by decide +kernel) rfl rfl (Nat.le_of_ble_eq_true rfl) dX8_dropPerson_36 (fun H locs hP hD hS => ?_)
    have hP : va_P (dC, dI) vwCl [(h0, .inr (8, [.ref hRows, .ref hMer, .ref hEra, .ref hTape, .ref hRea, .ref hTra, .ref hWor, .ref hPla, .ref hMod, .ref hHe1, .ref hHe2, .int 0, .int 1, .int 0, .int 0, .int (-1), .int 0])), (hEra, .inl (cE, 20, .inl g_9)), (hPla, .inr (1, [.ref aO, .ref aQ, .ref aF, .ref aW, .int 0])), (hRows, .inr (3, [.ref aP, .ref aS, .ref aM, .ref aK, .ref aV, .int 0, .int 0]))] H := hP
    have hD : va_D A [(h0, .inr (8, [.ref hRows, .ref hMer, .ref hEra, .ref hTape, .ref hRea, .ref hTra, .ref hWor, .ref hPla, .ref hMod, .ref hHe1, .ref hHe2, .int 0, .int 1, .int 0, .int 0, .int (-1), .int 0])), (hEra, .inl (cE, 20, .inl g_9)), (hPla, .inr (1, [.ref aO, .ref aQ, .ref aF, .ref aW, .int 0])), (hRows, .inr (3, [.ref aP, .ref aS, .ref aM, .ref aK, .ref aV, .int 0, .int 0]))] := hD
    refine lv_iconst (v := 0) hx hb dX8_dropPerson_39 (by decide) ?_
    refine lv_istore_n (lv' := [(2, .int 0), (0, .ref h0), (1, .int a)]) hx hb dX8_dropPerson_40 rfl hl (by decide) rfl (fun ls hl => ?_)
    have loop : ∀ (n : Nat) (i41 : Int32) (H : Heap) (locs : List Loc) (ls : Array Slot), 0 ≤ i41.toInt → i41.toInt ≤ 20 → 20 < i41.toInt + n → va_P (dC, dI) vwCl [(h0, .inr (8, [.ref hRows, .ref hMer, .ref hEra, .ref hTape, .ref hRea, .ref hTra, .ref hWor, .ref hPla, .ref hMod, .ref hHe1, .ref hHe2, .int 0, .int 1, .int 0, .int 0, .int (-1), .int 0])), (hEra, .inl (cE, 20, .inl g_9)), (hPla, .inr (1, [.ref aO, .ref aQ, .ref aF, .ref aW, .int 0])), (hRows, .inr (3, [.ref aP, .ref aS, .ref aM, .ref aK, .ref aV, .int 0, .int 0]))] H → va_D A [(h0, .inr (8, [.ref hRows, .ref hMer, .ref hEra, .ref hTape, .ref hRea, .ref hTra, .ref hWor, .ref hPla, .ref hMod, .ref hHe1, .ref hHe2, .int 0, .int 1, .int 0, .int 0, .int (-1), .int 0])), (hEra, .inl (cE, 20, .inl g_9)), (hPla, .inr (1, [.ref aO, .ref aQ, .ref aF, .ref aW, .int 0])), (hRows, .inr (3, [.ref aP, .ref aS, .ref aM, .ref aK, .ref aV, .int 0, .int 0]))] → va_S A s.heap H locs → lv_has ls 4 [(2, .int i41), (0, .ref h0), (1, .int a)] → W p l e ({ frames := 1, cells := 0, slots := 0, locals := 23 }) s m ([.ref h0, .int a] : List Value).toArray below meth c H locs 0 0 QQ (F0 m 41 ls []) := by
      intro n
      induction n with
      | zero => intro i41 H locs ls hi0 hi1 hi2; exfalso; omega
      | succ n ih =>
        intro i41 H locs ls hi0 hi1 hi2  hP hD hS hl
        refine lv_iload_n hx hb dX8_dropPerson_41 rfl (lv_at hl 0 rfl) ?_
        refine lv_bipush (v := 20) hx hb dX8_dropPerson_42 (by decide) ?_
        refine lv_icmp_ge (tgt := 68) hx hb dX8_dropPerson_44 (by decide) (fun c_11 => ?_) (fun c_11 => ?_)
        · have dc_11 : 20 ≤ i41.toInt := jI_le c_11 (by decide) rfl
          refine lv_aload_n hx hb dX8_dropPerson_68 rfl (lv_at hl 1 rfl) ?_
          refine va_get (D := (dC, dI)) (ci := 8) (v := .ref hPla) (C := RX8) (T := TX8) (N := 17) hx hb hts hIX8 hown hK hP 0 rfl rfl 7 (by decide) (hts (.fieldLink RX8 61 "TraitHouse" "places" "LTraitHouse$Places;") (by decide +kernel)) (fun _ h9 => h9) rfl dX8_dropPerson_69 ?_
          refine lv_iload_n hx hb dX8_dropPerson_72 rfl (lv_at hl 2 rfl) ?_
          have hPc := hP.sub (ws' := [(hPla, .inr (1, [.ref aO, .ref aQ, .ref aF, .ref aW, .int 0]))]) [2] rfl
          have hDc := hD.sub (ws' := [(hPla, .inr (1, [.ref aO, .ref aQ, .ref aF, .ref aW, .int 0]))]) [2] (by decide) rfl
          have hKc := hK.sub (tys' := []) [] rfl
          have hFc := va_free (wc := [(hPla, .inr (1, [.ref aO, .ref aQ, .ref aF, .ref aW, .int 0]))]) hD hS hA [2] rfl
          refine va_callv (va_runVN (As := [.int a]) (rest := []) ⟨hx, hb, hml, hown, hts⟩ (c_X1_forget l dC dI H.size hPla aO aQ aF aW a ) ⟨(va_cnB 1 hts gX8_dropPerson_X1_forget_n138 rfl rfl rfl (nw_at hN 42 rfl) (hts (.initialized RX1) (by decide +kernel)) (by decide +kernel) ⟨Nat.le_of_ble_eq_true rfl, Nat.le_of_ble_eq_true rfl⟩), (hts (.instanceMethod yX1_forget) (by decide +kernel)), (hts (.selects RX1 yX1_forget yX1_forget) (by decide +kernel))⟩ ⟨fun a U g mk q => by obtain ⟨q0, q1, qP, qK, qD, qN⟩ := q; exact ⟨q0, q1, qP, va_K.moved (u := U) (U := U.calling g mk a) (Vm.Alike.refl U.vm) qK, qD, qN.same rfl⟩, va_recv hKc hPc (ci := 1) (q0 := 0) rfl rfl, fun U hU hW => ⟨rfl, by rw [hU], by rw [hU]; exact hPc, va_K.moved hW.alike hKc, hDc.weaken (fun _ _ _ _ => trivial), hN.warm hW⟩⟩ rfl rfl hl.1 rfl (lv_room (Nat.le_of_ble_eq_true rfl)) dX8_dropPerson_73 ⟨Nat.le_of_ble_eq_true rfl, Nat.le_of_ble_eq_true rfl⟩) hS (fun q _ h => hFc q h) hFc (fun u_12 t H1 locs ht hvm hw_13 hB hz1 hk1 hS => ?_)
          try dsimp only at hw_13
          have hP1 : va_P (dC, dI) vwCl [] H1 := fun k q h => by simp at h
          have hD1 : va_D (va_A [(hPla, .inr (1, [.ref aO, .ref aQ, .ref aF, .ref aW, .int 0]))] H.size) [] := ⟨fun i j p q h => by simp at h, fun k q h => by simp at h⟩
          have hK1 : va_K (dC, dI) vwCl [] s := hK.sub [] rfl
          obtain ⟨hP, hD⟩ := va_join (wr := [(h0, .inr (8, [.ref hRows, .ref hMer, .ref hEra, .ref hTape, .ref hRea, .ref hTra, .ref hWor, .ref hPla, .ref hMod, .ref hHe1, .ref hHe2, .int 0, .int 1, .int 0, .int 0, .int (-1), .int 0])), (hEra, .inl (cE, 20, .inl g_9)), (hRows, .inr (3, [.ref aP, .ref aS, .ref aM, .ref aK, .ref aV, .int 0, .int 0]))]) (w1 := []) hP hD [2] [0, 1, 3] rfl rfl (by decide) (by decide) hk1 hFc hP1 hD1
          have hK := (hK.sub (tys' := [(cE, .boolean)]) [0] rfl).app hK1
          generalize H1 = H at hP hS ⊢
          have hP : va_P (dC, dI) vwCl [(h0, .inr (8, [.ref hRows, .ref hMer, .ref hEra, .ref hTape, .ref hRea, .ref hTra, .ref hWor, .ref hPla, .ref hMod, .ref hHe1, .ref hHe2, .int 0, .int 1, .int 0, .int 0, .int (-1), .int 0])), (hEra, .inl (cE, 20, .inl g_9)), (hRows, .inr (3, [.ref aP, .ref aS, .ref aM, .ref aK, .ref aV, .int 0, .int 0]))] H := hP
          have hD : va_D A [(h0, .inr (8, [.ref hRows, .ref hMer, .ref hEra, .ref hTape, .ref hRea, .ref hTra, .ref hWor, .ref hPla, .ref hMod, .ref hHe1, .ref hHe2, .int 0, .int 1, .int 0, .int 0, .int (-1), .int 0])), (hEra, .inl (cE, 20, .inl g_9)), (hRows, .inr (3, [.ref aP, .ref aS, .ref aM, .ref aK, .ref aV, .int 0, .int 0]))] := hD
          have hK : va_K (dC, dI) vwCl [(cE, .boolean)] s := hK
          refine lv_aload_n hx hb dX8_dropPerson_76 rfl (lv_at hl 1 rfl) ?_
          refine va_get (D := (dC, dI)) (ci := 8) (v := .ref hRows) (C := RX8) (T := TX8) (N := 17) hx hb hts hIX8 hown hK hP 0 rfl rfl 0 (by decide) (hts (.fieldLink RX8 10 "TraitHouse" "rows" "LTraitHouse$Rows;") (by decide +kernel)) (fun _ h9 => h9) rfl dX8_dropPerson_77 ?_
          refine lv_iload_n hx hb dX8_dropPerson_80 rfl (lv_at hl 2 rfl) ?_
          have hPc := hP.sub (ws' := [(hRows, .inr (3, [.ref aP, .ref aS, .ref aM, .ref aK, .ref aV, .int 0, .int 0]))]) [2] rfl
          have hDc := hD.sub (ws' := [(hRows, .inr (3, [.ref aP, .ref aS, .ref aM, .ref aK, .ref aV, .int 0, .int 0]))]) [2] (by decide) rfl
          have hKc := hK.sub (tys' := []) [] rfl
          have hFc := va_free (wc := [(hRows, .inr (3, [.ref aP, .ref aS, .ref aM, .ref aK, .ref aV, .int 0, .int 0]))]) hD hS hA [2] rfl
          refine va_calli (va_runVN (As := [.int a]) (rest := []) ⟨hx, hb, hml, hown, hts⟩ (c_X3_drop l dC dI H.size hRows aP aS aM aK aV a ) ⟨(va_cnB 1 hts gX8_dropPerson_X3_drop_n139 rfl rfl rfl (nw_at hN 43 rfl) (hts (.initialized RX3) (by decide +kernel)) (by decide +kernel) ⟨Nat.le_of_ble_eq_true rfl, Nat.le_of_ble_eq_true rfl⟩), (hts (.instanceMethod yX3_drop) (by decide +kernel)), (hts (.selects RX3 yX3_drop yX3_drop) (by decide +kernel))⟩ ⟨fun a U g mk q => by obtain ⟨q0, q1, qP, qK, qD, qN⟩ := q; exact ⟨q0, q1, qP, va_K.moved (u := U) (U := U.calling g mk a) (Vm.Alike.refl U.vm) qK, qD, qN.same rfl⟩, va_recv hKc hPc (ci := 3) (q0 := 0) rfl rfl, fun U hU hW => ⟨rfl, by rw [hU], by rw [hU]; exact hPc, va_K.moved hW.alike hKc, hDc.weaken (fun _ _ _ _ => trivial), hN.warm hW⟩⟩ rfl rfl hl.1 rfl (lv_room (Nat.le_of_ble_eq_true rfl)) dX8_dropPerson_81 ⟨Nat.le_of_ble_eq_true rfl, Nat.le_of_ble_eq_true rfl⟩) hS (fun q _ h => hFc q h) hFc (fun r_14 u_15 t H1 locs ht hvm hw_16 hB hz1 hk1 hS => ?_)
          try dsimp only at hw_16
          have hP1 : va_P (dC, dI) vwCl [] H1 := fun k q h => by simp at h
          have hD1 : va_D (va_A [(hRows, .inr (3, [.ref aP, .ref aS, .ref aM, .ref aK, .ref aV, .int 0, .int 0]))] H.size) [] := ⟨fun i j p q h => by simp at h, fun k q h => by simp at h⟩
          have hK1 : va_K (dC, dI) vwCl [] s := hK.sub [] rfl
          obtain ⟨hP, hD⟩ := va_join (wr := [(h0, .inr (8, [.ref hRows, .ref hMer, .ref hEra, .ref hTape, .ref hRea, .ref hTra, .ref hWor, .ref hPla, .ref hMod, .ref hHe1, .ref hHe2, .int 0, .int 1, .int 0, .int 0, .int (-1), .int 0])), (hEra, .inl (cE, 20, .inl g_9))]) (w1 := []) hP hD [2] [0, 1] rfl rfl (by decide) (by decide) hk1 hFc hP1 hD1
          have hK := (hK.sub (tys' := [(cE, .boolean)]) [0] rfl).app hK1
          generalize H1 = H at hP hS ⊢
          have hP : va_P (dC, dI) vwCl [(h0, .inr (8, [.ref hRows, .ref hMer, .ref hEra, .ref hTape, .ref hRea, .ref hTra, .ref hWor, .ref hPla, .ref hMod, .ref hHe1, .ref hHe2, .int 0, .int 1, .int 0, .int 0, .int (-1), .int 0])), (hEra, .inl (cE, 20, .inl g_9))] H := hP
          have hD : va_D A [(h0, .inr (8, [.ref hRows, .ref hMer, .ref hEra, .ref hTape, .ref hRea, .ref hTra, .ref hWor, .ref hPla, .ref hMod, .ref hHe1, .ref hHe2, .int 0, .int 1, .int 0, .int 0, .int (-1), .int 0])), (hEra, .inl (cE, 20, .inl g_9))] := hD
          have hK : va_K (dC, dI) vwCl [(cE, .boolean)] s := hK
          obtain rfl : 0 = r_14 := hw_16.symm
          have hP9 := hP.sub (ws' := [(h0, .inr (8, [.ref hRows, .ref hMer, .ref hEra, .ref hTape, .ref hRea, .ref hTra, .ref hWor, .ref hPla, .ref hMod, .ref hHe1, .ref hHe2, .int 0, .int 1, .int 0, .int 0, .int (-1), .int 0]))]) [0] rfl
          have hD9 := hD.sub (ws' := [(h0, .inr (8, [.ref hRows, .ref hMer, .ref hEra, .ref hTape, .ref hRea, .ref hTra, .ref hWor, .ref hPla, .ref hMod, .ref hHe1, .ref hHe2, .int 0, .int 1, .int 0, .int 0, .int (-1), .int 0]))]) [0] (by decide) rfl
          have hK9 := hK.sub (tys' := []) [] rfl
          subst hQe
          have hans : (0 : Int32).toInt = 0 := (by decide)
          exact W.iret (v := 0) hx hb hr (fun t ht hW => ⟨⟨0, 1, rfl, by first | omega | (dsimp only; omega), by rw [ht]; exact hP9, va_K.moved hW.alike hK9, hD9⟩, hS.F ht⟩) hS.2.2 dX8_dropPerson_84
        · have dc_11 : i41.toInt < 20 := jI_nle c_11 (by decide) rfl
          refine lv_aload_n hx hb dX8_dropPerson_47 rfl (lv_at hl 1 rfl) ?_
          refine lv_iload_n hx hb dX8_dropPerson_48 rfl (lv_at hl 0 rfl) ?_
          have hPc := hP.sub (ws' := [(h0, .inr (8, [.ref hRows, .ref hMer, .ref hEra, .ref hTape, .ref hRea, .ref hTra, .ref hWor, .ref hPla, .ref hMod, .ref hHe1, .ref hHe2, .int 0, .int 1, .int 0, .int 0, .int (-1), .int 0]))]) [0] rfl
          have hDc := hD.sub (ws' := [(h0, .inr (8, [.ref hRows, .ref hMer, .ref hEra, .ref hTape, .ref hRea, .ref hTra, .ref hWor, .ref hPla, .ref hMod, .ref hHe1, .ref hHe2, .int 0, .int 1, .int 0, .int 0, .int (-1), .int 0]))]) [0] (by decide) rfl
          have hKc := hK.sub (tys' := []) [] rfl
          have hFc := va_free (wc := [(h0, .inr (8, [.ref hRows, .ref hMer, .ref hEra, .ref hTape, .ref hRea, .ref hTra, .ref hWor, .ref hPla, .ref hMod, .ref hHe1, .ref hHe2, .int 0, .int 1, .int 0, .int 0, .int (-1), .int 0]))]) hD hS hA [0] rfl
          refine va_callq (va_runV (As := [.int i41]) (rest := []) ⟨hx, hb, hml, hown, hts⟩ (c_X8_traitAt l dC dI H.size h0 hRows hMer hEra hTape hRea hTra hWor hPla hMod hHe1 hHe2 0 1 0 (-1) 0 i41 ) (cwV 1 hts gX8_dropPerson_X8_traitAt rfl rfl rfl (by decide +kernel) ⟨Nat.le_of_ble_eq_true rfl, Nat.le_of_ble_eq_true rfl⟩) ⟨fun a U g mk q => by obtain ⟨q0, q1, qP, qK, qD, qN⟩ := q; exact ⟨q0, q1, qP, va_K.moved (u := U) (U := U.calling g mk a) (Vm.Alike.refl U.vm) qK, qD, qN.same rfl⟩, va_recv hKc hPc (ci := 8) (q0 := 0) rfl rfl, fun U hU hW => ⟨rfl, by rw [hU], by rw [hU]; exact hPc, va_K.moved hW.alike hKc, hDc.weaken (fun _ _ _ _ => trivial), hN.warm hW⟩⟩ rfl rfl hl.1 rfl (lv_room (Nat.le_of_ble_eq_true rfl)) dX8_dropPerson_49 ⟨Nat.le_of_ble_eq_true rfl, Nat.le_of_ble_eq_true rfl⟩) hS (fun q _ h => hFc q h) hFc (fun r_17 u_18 t H1 locs ht hvm hw_19 hB hz1 hk1 hS => ?_)
          try dsimp only at hw_19
          obtain ⟨hP1, hK1, hD1⟩ := hB
          rw [ht] at hP1
          have hK1 := va_K.moved hvm.symm hK1
          obtain ⟨hP, hD⟩ := va_join (wr := [(hEra, .inl (cE, 20, .inl g_9)), (hPla, .inr (1, [.ref aO, .ref aQ, .ref aF, .ref aW, .int 0])), (hRows, .inr (3, [.ref aP, .ref aS, .ref aM, .ref aK, .ref aV, .int 0, .int 0]))]) (w1 := [(h0, .inr (8, [.ref hRows, .ref hMer, .ref hEra, .ref hTape, .ref hRea, .ref hTra, .ref hWor, .ref hPla, .ref hMod, .ref hHe1, .ref hHe2, .int 0, .int 1, .int 0, .int 0, .int (-1), .int 0]))]) hP hD [0] [1, 2, 3] rfl rfl (by decide) (by decide) hk1 hFc hP1 hD1
          have hK := (hK.sub (tys' := [(cE, .boolean)]) [0] rfl).app hK1
          generalize H1 = H at hP hS ⊢
          have hP : va_P (dC, dI) vwCl [(hEra, .inl (cE, 20, .inl g_9)), (hPla, .inr (1, [.ref aO, .ref aQ, .ref aF, .ref aW, .int 0])), (hRows, .inr (3, [.ref aP, .ref aS, .ref aM, .ref aK, .ref aV, .int 0, .int 0])), (h0, .inr (8, [.ref hRows, .ref hMer, .ref hEra, .ref hTape, .ref hRea, .ref hTra, .ref hWor, .ref hPla, .ref hMod, .ref hHe1, .ref hHe2, .int 0, .int 1, .int 0, .int 0, .int (-1), .int 0]))] H := hP
          have hD : va_D A [(hEra, .inl (cE, 20, .inl g_9)), (hPla, .inr (1, [.ref aO, .ref aQ, .ref aF, .ref aW, .int 0])), (hRows, .inr (3, [.ref aP, .ref aS, .ref aM, .ref aK, .ref aV, .int 0, .int 0])), (h0, .inr (8, [.ref hRows, .ref hMer, .ref hEra, .ref hTape, .ref hRea, .ref hTra, .ref hWor, .ref hPla, .ref hMod, .ref hHe1, .ref hHe2, .int 0, .int 1, .int 0, .int 0, .int (-1), .int 0]))] := hD
          have hK : va_K (dC, dI) vwCl [(cE, .boolean)] s := hK
          obtain rfl : none = r_17 := hw_19.symm
          refine W.eq (g2 := F0 m 52 ls [.null]) rfl ?_
          refine lv_astore_nN (lv' := [(3, .null), (2, .int i41), (0, .ref h0), (1, .int a)]) hx hb dX8_dropPerson_52 rfl hl (by decide) rfl (fun ls hl => ?_)
          refine lv_aload_nN hx hb dX8_dropPerson_53 rfl (lv_at hl 0 rfl) ?_
          refine lv_ifnullN (tgt := 62) hx hb dX8_dropPerson_54 (by decide) ?_
          obtain ⟨x_20, ex_20⟩ : ∃ y : Int32, y = i41 + 1 := ⟨_, rfl⟩
          have dx_20 : x_20.toInt = i41.toInt + 1 := by rw [ex_20]; exact jI_add rfl (by decide) (by omega) (by omega)
          refine lv_iinc (v := x_20) (lv' := [(2, .int x_20), (3, .null), (0, .ref h0), (1, .int a)]) hx hb dX8_dropPerson_62 hl (k := 1) rfl (by rw [ex_20]; rfl) (by decide) rfl (fun ls hl => ?_)
          refine lv_goto (tgt := 41) hx hb dX8_dropPerson_65 (by decide) ?_
          exact ih x_20 _ _ ls (by omega) (by omega) (by omega)   (hP.sub [3, 0, 1, 2] rfl) (hD.sub [3, 0, 1, 2] (by decide) rfl) hS (lv_sub hl [0, 2, 3] rfl)
    exact loop 21 0 _ _ ls (by decide) (by decide) (by decide)   hP hD hS (lv_sub hl [0, 1, 2] rfl)
  · have dc_4 : r_1.toInt = 0 := jI_eq c_4 rfl (by decide)
    refine lv_bipush (v := (-2)) hx hb dX8_dropPerson_7 (by decide) ?_
    have hP9 := hP.sub (ws' := [(h0, .inr (8, [.ref hRows, .ref hMer, .ref hEra, .ref hTape, .ref hRea, .ref hTra, .ref hWor, .ref hPla, .ref hMod, .ref hHe1, .ref hHe2, .int 0, .int 0, .int 0, .int 0, .int (-1), .int 0]))]) [0] rfl
    have hD9 := hD.sub (ws' := [(h0, .inr (8, [.ref hRows, .ref hMer, .ref hEra, .ref hTape, .ref hRea, .ref hTra, .ref hWor, .ref hPla, .ref hMod, .ref hHe1, .ref hHe2, .int 0, .int 0, .int 0, .int 0, .int (-1), .int 0]))]) [0] (by decide) rfl
    have hK9 := hK.sub (tys' := []) [] rfl
    subst hQe
    have hans : ((-2) : Int32).toInt = (-2) := (by decide)
    exact W.iret (v := (-2)) hx hb hr (fun t ht hW => ⟨⟨(-2), 0, rfl, by first | omega | (dsimp only; omega), by rw [ht]; exact hP9, va_K.moved hW.alike hK9, hD9⟩, hS.F ht⟩) hS.2.2 dX8_dropPerson_9

set_option maxHeartbeats 4000000 in
set_option maxRecDepth 100000 in
theorem c_X8_erase (l : Launch) (dC : Nat → ClassId) (dI : Nat → Nat → Nat) (sz : Nat) (h0 : Nat) (hRows : Nat) (hMer : Nat) (hEra : Nat) (hTape : Nat) (hRea : Nat) (hTra : Nat) (hWor : Nat) (hPla : Nat) (hMod : Nat) (hHe1 : Nat) (hHe2 : Nat) (aO : Nat) (aQ : Nat) (aF : Nat) (aW : Nat) (aP : Nat) (aS : Nat) (aM : Nat) (aK : Nat) (aV : Nat) (cE : ClassId) (a : Int32)  : Met l yX8_erase wsX8_erase ({ frames := 2, cells := 0, slots := 0, locals := 46 }) (va_Pc [.ref h0, .int a] (fun U => U.heap.size = sz ∧ va_P (dC, dI) vwCl [(h0, .inr (8, [.ref hRows, .ref hMer, .ref hEra, .ref hTape, .ref hRea, .ref hTra, .ref hWor, .ref hPla, .ref hMod, .ref hHe1, .ref hHe2, .int 0, .int 0, .int 0, .int 0, .int (-1), .int 0])), (hEra, .inl (cE, 20, .inl (fun _ => 0))), (hPla, .inr (1, [.ref aO, .ref aQ, .ref aF, .ref aW, .int 0])), (hRows, .inr (3, [.ref aP, .ref aS, .ref aM, .ref aK, .ref aV, .int 0, .int 0]))] U.heap ∧ va_K (dC, dI) vwCl [(cE, .boolean)] U ∧ va_D (fun _ => True) [(h0, .inr (8, [.ref hRows, .ref hMer, .ref hEra, .ref hTape, .ref hRea, .ref hTra, .ref hWor, .ref hPla, .ref hMod, .ref hHe1, .ref hHe2, .int 0, .int 0, .int 0, .int 0, .int (-1), .int 0])), (hEra, .inl (cE, 20, .inl (fun _ => 0))), (hPla, .inr (1, [.ref aO, .ref aQ, .ref aF, .ref aW, .int 0])), (hRows, .inr (3, [.ref aP, .ref aS, .ref aM, .ref aK, .ref aV, .int 0, .int 0]))] ∧ nw_ok U)) (va_Qi (fun (r : Int32) (_ : Unit) => (0 ≤ a.toInt ∧ a.toInt ≤ 19 → r.toInt = 0) ∧ (¬ (0 ≤ a.toInt ∧ a.toInt ≤ 19) → r.toInt = (-2))) (fun (_ : Unit) (t : State) => True) (va_A [(h0, .inr (8, [.ref hRows, .ref hMer, .ref hEra, .ref hTape, .ref hRea, .ref hTra, .ref hWor, .ref hPla, .ref hMod, .ref hHe1, .ref hHe2, .int 0, .int 0, .int 0, .int 0, .int (-1), .int 0])), (hEra, .inl (cE, 20, .inl (fun _ => 0))), (hPla, .inr (1, [.ref aO, .ref aQ, .ref aF, .ref aW, .int 0])), (hRows, .inr (3, [.ref aP, .ref aS, .ref aM, .ref aK, .ref aV, .int 0, .int 0]))] sz)) 0 0 (va_A [(h0, .inr (8, [.ref hRows, .ref hMer, .ref hEra, .ref hTape, .ref hRea, .ref hTra, .ref hWor, .ref hPla, .ref hMod, .ref hHe1, .ref hHe2, .int 0, .int 0, .int 0, .int 0, .int (-1), .int 0])), (hEra, .inl (cE, 20, .inl (fun _ => 0))), (hPla, .inr (1, [.ref aO, .ref aQ, .ref aF, .ref aW, .int 0])), (hRows, .inr (3, [.ref aP, .ref aS, .ref aM, .ref aK, .ref aV, .int 0, .int 0]))] sz) := by
  refine Met.ofW (cc := cX8_erase) (maxL := 2) (ret := (some .int)) (by decide) rfl ?_
  intro p e s m args below meth c s₁ B hml hv
  obtain ⟨rfl, hsz, hP, hK, hD0, hN⟩ := hv
  have hx := B.exec
  have hb := B.bytes
  have hr := B.returns
  have hts := atoms_spec (ws := wsX8_erase) B.pre
  have hown : s.vm.findClass RX8 = some m.cls := findClass_of_methodNamed B.named
  have hlocks := B.notSynchronized
  subst hsz
  have hD := hD0.self (sz := s.heap.size)
  generalize hAe : va_A [(h0, .inr (8, [.ref hRows, .ref hMer, .ref hEra, .ref hTape, .ref hRea, .ref hTra, .ref hWor, .ref hPla, .ref hMod, .ref hHe1, .ref hHe2, .int 0, .int 0, .int 0, .int 0, .int (-1), .int 0])), (hEra, .inl (cE, 20, .inl (fun _ => 0))), (hPla, .inr (1, [.ref aO, .ref aQ, .ref aF, .ref aW, .int 0])), (hRows, .inr (3, [.ref aP, .ref aS, .ref aM, .ref aK, .ref aV, .int 0, .int 0]))] s.heap.size = A at hD ⊢
  have hA : ∀ q : Nat, s.heap.size ≤ q → A q := fun q h => by rw [← hAe]; exact Or.inr h
  have hS : va_S A s.heap s.heap [] := va_S.rf
  have hP : va_P (dC, dI) vwCl [(h0, .inr (8, [.ref hRows, .ref hMer, .ref hEra, .ref hTape, .ref hRea, .ref hTra, .ref hWor, .ref hPla, .ref hMod, .ref hHe1, .ref hHe2, .int 0, .int 0, .int 0, .int 0, .int (-1), .int 0])), (hEra, .inl (cE, 20, .inl (fun _ => 0))), (hPla, .inr (1, [.ref aO, .ref aQ, .ref aF, .ref aW, .int 0])), (hRows, .inr (3, [.ref aP, .ref aS, .ref aM, .ref aK, .ref aV, .int 0, .int 0]))] s.heap := hP
  have hl := lv_entry ([.ref h0, .int a]) (n := 2) (Nat.le_of_ble_eq_true rfl)
  rw [lg_entry_eq]
  generalize (lg_sl ([.ref h0, .int a]) ++ List.replicate (2 - (lg_sl ([.ref h0, .int a])).length) Slot.unset).toArray = ls at hl ⊢
  have hl : lv_has ls 2 [(0, .ref h0), (1, .int a)] := hl
  refine lv_aload_n hx hb dX8_erase_0 rfl (lv_at hl 0 rfl) ?_
  refine lv_aload_n hx hb dX8_erase_1 rfl (lv_at hl 0 rfl) ?_
  refine lv_iload_n hx hb dX8_erase_2 rfl (lv_at hl 1 rfl) ?_
  have hk_1 : (0 : Int32).toInt = 0 := by decide
  have hk_2 : ((-1) : Int32).toInt = (-1) := by decide
  have hPc := hP.sub (ws' := [(h0, .inr (8, [.ref hRows, .ref hMer, .ref hEra, .ref hTape, .ref hRea, .ref hTra, .ref hWor, .ref hPla, .ref hMod, .ref hHe1, .ref hHe2, .int 0, .int 0, .int 0, .int 0, .int (-1), .int 0])), (hEra, .inl (cE, 20, .inl (fun _ => 0))), (hPla, .inr (1, [.ref aO, .ref aQ, .ref aF, .ref aW, .int 0])), (hRows, .inr (3, [.ref aP, .ref aS, .ref aM, .ref aK, .ref aV, .int 0, .int 0]))]) [0, 1, 2, 3] rfl
  have hDc := hD.sub (ws' := [(h0, .inr (8, [.ref hRows, .ref hMer, .ref hEra, .ref hTape, .ref hRea, .ref hTra, .ref hWor, .ref hPla, .ref hMod, .ref hHe1, .ref hHe2, .int 0, .int 0, .int 0, .int 0, .int (-1), .int 0])), (hEra, .inl (cE, 20, .inl (fun _ => 0))), (hPla, .inr (1, [.ref aO, .ref aQ, .ref aF, .ref aW, .int 0])), (hRows, .inr (3, [.ref aP, .ref aS, .ref aM, .ref aK, .ref aV, .int 0, .int 0]))]) [0, 1, 2, 3] (by decide) rfl
  have hKc := hK.sub (tys' := [(cE, .boolean)]) [0] rfl
  have hFc := va_free (wc := [(h0, .inr (8, [.ref hRows, .ref hMer, .ref hEra, .ref hTape, .ref hRea, .ref hTra, .ref hWor, .ref hPla, .ref hMod, .ref hHe1, .ref hHe2, .int 0, .int 0, .int 0, .int 0, .int (-1), .int 0])), (hEra, .inl (cE, 20, .inl (fun _ => 0))), (hPla, .inr (1, [.ref aO, .ref aQ, .ref aF, .ref aW, .int 0])), (hRows, .inr (3, [.ref aP, .ref aS, .ref aM, .ref aK, .ref aV, .int 0, .int 0]))]) hD hS hA [0, 1, 2, 3] rfl
  refine va_calli (va_runV (As := [.int a]) (rest := [.ref h0]) ⟨hx, hb, hml, hown, hts⟩ (c_X8_dropPerson l dC dI s.heap.size h0 hRows hMer hEra hTape hRea hTra hWor hPla hMod hHe1 hHe2 aO aQ aF aW aP aS aM aK aV cE a ) (cwV 1 hts gX8_erase_X8_dropPerson rfl rfl rfl (by decide +kernel) ⟨Nat.le_of_ble_eq_true rfl, Nat.le_of_ble_eq_true rfl⟩) ⟨fun a U g mk q => by obtain ⟨q0, q1, qP, qK, qD, qN⟩ := q; exact ⟨q0, q1, qP, va_K.moved (u := U) (U := U.calling g mk a) (Vm.Alike.refl U.vm) qK, qD, qN.same rfl⟩, va_recv hKc hPc (ci := 8) (q0 := 0) rfl rfl, fun U hU hW => ⟨rfl, by rw [hU], by rw [hU]; exact hPc, va_K.moved hW.alike hKc, hDc.weaken (fun _ _ _ _ => trivial), hN.warm hW⟩⟩ rfl rfl hl.1 rfl (lv_room (Nat.le_of_ble_eq_true rfl)) dX8_erase_3 ⟨Nat.le_of_ble_eq_true rfl, Nat.le_of_ble_eq_true rfl⟩) hS (fun q _ h => hFc q h) hFc (fun r_3 u_4 t H1 locs ht hvm hw_5 hB hz1 hk1 hS => ?_)
  obtain ⟨w_6, rfl⟩ : ∃ z, z = u_4 := ⟨_, rfl⟩
  try dsimp only at hw_5
  obtain ⟨hP1, hK1, hD1⟩ := hB
  rw [ht] at hP1
  have hK1 := va_K.moved hvm.symm hK1
  obtain ⟨hP, hD⟩ := va_join (wr := []) (w1 := [(h0, .inr (8, [.ref hRows, .ref hMer, .ref hEra, .ref hTape, .ref hRea, .ref hTra, .ref hWor, .ref hPla, .ref hMod, .ref hHe1, .ref hHe2, .int 0, .int w_6, .int 0, .int 0, .int (-1), .int 0]))]) hP hD [0, 1, 2, 3] [] rfl rfl (by decide) (by decide) hk1 hFc hP1 hD1
  have hK := (hK.sub (tys' := [(cE, .boolean)]) [0] rfl).app hK1
  generalize H1 = H at hP hS ⊢
  have hP : va_P (dC, dI) vwCl [(h0, .inr (8, [.ref hRows, .ref hMer, .ref hEra, .ref hTape, .ref hRea, .ref hTra, .ref hWor, .ref hPla, .ref hMod, .ref hHe1, .ref hHe2, .int 0, .int w_6, .int 0, .int 0, .int (-1), .int 0]))] H := hP
  have hD : va_D A [(h0, .inr (8, [.ref hRows, .ref hMer, .ref hEra, .ref hTape, .ref hRea, .ref hTra, .ref hWor, .ref hPla, .ref hMod, .ref hHe1, .ref hHe2, .int 0, .int w_6, .int 0, .int 0, .int (-1), .int 0]))] := hD
  have hK : va_K (dC, dI) vwCl [(cE, .boolean)] s := hK
  have hk_7 : (0 : Int32).toInt = 0 := by decide
  have hk_8 : ((-1) : Int32).toInt = (-1) := by decide
  have hPc := hP.sub (ws' := [(h0, .inr (8, [.ref hRows, .ref hMer, .ref hEra, .ref hTape, .ref hRea, .ref hTra, .ref hWor, .ref hPla, .ref hMod, .ref hHe1, .ref hHe2, .int 0, .int w_6, .int 0, .int 0, .int (-1), .int 0]))]) [0] rfl
  have hDc := hD.sub (ws' := [(h0, .inr (8, [.ref hRows, .ref hMer, .ref hEra, .ref hTape, .ref hRea, .ref hTra, .ref hWor, .ref hPla, .ref hMod, .ref hHe1, .ref hHe2, .int 0, .int w_6, .int 0, .int 0, .int (-1), .int 0]))]) [0] (by decide) rfl
  have hKc := hK.sub (tys' := []) [] rfl
  have hFc := va_free (wc := [(h0, .inr (8, [.ref hRows, .ref hMer, .ref hEra, .ref hTape, .ref hRea, .ref hTra, .ref hWor, .ref hPla, .ref hMod, .ref hHe1, .ref hHe2, .int 0, .int w_6, .int 0, .int 0, .int (-1), .int 0]))]) hD hS hA [0] rfl
  refine va_calli (va_runV (As := [.int r_3]) (rest := []) ⟨hx, hb, hml, hown, hts⟩ (c_X8_settle l dC dI H.size h0 hRows hMer hEra hTape hRea hTra hWor hPla hMod hHe1 hHe2 0 w_6 0 0 (-1) 0 r_3 ) (cwV 1 hts gX8_erase_X8_settle rfl rfl rfl (by decide +kernel) ⟨Nat.le_of_ble_eq_true rfl, Nat.le_of_ble_eq_true rfl⟩) ⟨fun a U g mk q => by obtain ⟨q0, q1, qP, qK, qD, qN⟩ := q; exact ⟨q0, q1, qP, va_K.moved (u := U) (U := U.calling g mk a) (Vm.Alike.refl U.vm) qK, qD, qN.same rfl⟩, va_recv hKc hPc (ci := 8) (q0 := 0) rfl rfl, fun U hU hW => ⟨rfl, by rw [hU], by rw [hU]; exact hPc, va_K.moved hW.alike hKc, hDc.weaken (fun _ _ _ _ => trivial), hN.warm hW⟩⟩ rfl rfl hl.1 rfl (lv_room (Nat.le_of_ble_eq_true rfl)) dX8_erase_6 ⟨Nat.le_of_ble_eq_true rfl, Nat.le_of_ble_eq_true rfl⟩) hS (fun q _ h => hFc q h) hFc (fun r_9 u_10 t H1 locs ht hvm hw_11 hB hz1 hk1 hS => ?_)
  obtain ⟨w_12, rfl⟩ : ∃ z, z = u_10 := ⟨_, rfl⟩
  try dsimp only at hw_11
  obtain ⟨hP1, hK1, hD1⟩ := hB
  rw [ht] at hP1
  have hK1 := va_K.moved hvm.symm hK1
  obtain ⟨hP, hD⟩ := va_join (wr := []) (w1 := [(h0, .inr (8, [.ref hRows, .ref hMer, .ref hEra, .ref hTape, .ref hRea, .ref hTra, .ref hWor, .ref hPla, .ref hMod, .ref hHe1, .ref hHe2, .int 0, .int w_6, .int 0, .int 0, .int (-1), .int w_12]))]) hP hD [0] [] rfl rfl (by decide) (by decide) hk1 hFc hP1 hD1
  have hK := (hK.sub (tys' := [(cE, .boolean)]) [0] rfl).app hK1
  generalize H1 = H at hP hS ⊢
  have hP : va_P (dC, dI) vwCl [(h0, .inr (8, [.ref hRows, .ref hMer, .ref hEra, .ref hTape, .ref hRea, .ref hTra, .ref hWor, .ref hPla, .ref hMod, .ref hHe1, .ref hHe2, .int 0, .int w_6, .int 0, .int 0, .int (-1), .int w_12]))] H := hP
  have hD : va_D A [(h0, .inr (8, [.ref hRows, .ref hMer, .ref hEra, .ref hTape, .ref hRea, .ref hTra, .ref hWor, .ref hPla, .ref hMod, .ref hHe1, .ref hHe2, .int 0, .int w_6, .int 0, .int 0, .int (-1), .int w_12]))] := hD
  have hK : va_K (dC, dI) vwCl [(cE, .boolean)] s := hK
  obtain rfl : r_3 = r_9 := hw_11.symm
  have hans : (r_3 : Int32).toInt = r_3.toInt := rfl
  exact W.iret (v := r_3) hx hb hr (fun t ht hW => ⟨⟨r_3, (), rfl, by first | omega | (dsimp only; omega), trivial⟩, hS.F ht⟩) hS.2.2 dX8_erase_9
end
section
theorem dX5_append_0 : decode cX5_append 0 = .ok (.iconst 3, 1) := by decide +kernel
theorem dX5_append_1 : decode cX5_append 1 = .ok (.istore_n 2, 1) := by decide +kernel
theorem dX5_append_2 : decode cX5_append 2 = .ok (.iload_n 2, 1) := by decide +kernel
theorem dX5_append_3 : decode cX5_append 3 = .ok (.ifCond .lt 48, 3) := by decide +kernel
theorem dX5_append_6 : decode cX5_append 6 = .ok (.aload_n 0, 1) := by decide +kernel
theorem dX5_append_7 : decode cX5_append 7 = .ok (.getfield 15, 3) := by decide +kernel
theorem dX5_append_10 : decode cX5_append 10 = .ok (.sipush 200, 3) := by decide +kernel
theorem dX5_append_13 : decode cX5_append 13 = .ok (.if_icmp .ge 38, 3) := by decide +kernel
theorem dX5_append_16 : decode cX5_append 16 = .ok (.aload_n 0, 1) := by decide +kernel
theorem dX5_append_17 : decode cX5_append 17 = .ok (.getfield 9, 3) := by decide +kernel
theorem dX5_append_20 : decode cX5_append 20 = .ok (.aload_n 0, 1) := by decide +kernel
theorem dX5_append_21 : decode cX5_append 21 = .ok (.getfield 15, 3) := by decide +kernel
theorem dX5_append_24 : decode cX5_append 24 = .ok (.iload_n 1, 1) := by decide +kernel
theorem dX5_append_25 : decode cX5_append 25 = .ok (.bipush 8, 2) := by decide +kernel
theorem dX5_append_27 : decode cX5_append 27 = .ok (.iload_n 2, 1) := by decide +kernel
theorem dX5_append_28 : decode cX5_append 28 = .ok (.imul, 1) := by decide +kernel
theorem dX5_append_29 : decode cX5_append 29 = .ok (.iushr, 1) := by decide +kernel
theorem dX5_append_30 : decode cX5_append 30 = .ok (.sipush 255, 3) := by decide +kernel
theorem dX5_append_33 : decode cX5_append 33 = .ok (.iand, 1) := by decide +kernel
theorem dX5_append_34 : decode cX5_append 34 = .ok (.iastore, 1) := by decide +kernel
theorem dX5_append_35 : decode cX5_append 35 = .ok (.aload_n 0, 1) := by decide +kernel
theorem dX5_append_36 : decode cX5_append 36 = .ok (.dup, 1) := by decide +kernel
theorem dX5_append_37 : decode cX5_append 37 = .ok (.getfield 15, 3) := by decide +kernel
theorem dX5_append_40 : decode cX5_append 40 = .ok (.iconst 1, 1) := by decide +kernel
theorem dX5_append_41 : decode cX5_append 41 = .ok (.iadd, 1) := by decide +kernel
theorem dX5_append_42 : decode cX5_append 42 = .ok (.putfield 15, 3) := by decide +kernel
theorem dX5_append_45 : decode cX5_append 45 = .ok (.iinc 2 (-1), 3) := by decide +kernel
theorem dX5_append_48 : decode cX5_append 48 = .ok (.goto (-46), 3) := by decide +kernel
theorem dX5_append_51 : decode cX5_append 51 = .ok (.return_, 1) := by decide +kernel
theorem dX8_feed_0 : decode cX8_feed 0 = .ok (.aload_n 0, 1) := by decide +kernel
theorem dX8_feed_1 : decode cX8_feed 1 = .ok (.getfield 30, 3) := by decide +kernel
theorem dX8_feed_4 : decode cX8_feed 4 = .ok (.getfield 142, 3) := by decide +kernel
theorem dX8_feed_7 : decode cX8_feed 7 = .ok (.bipush 20, 2) := by decide +kernel
theorem dX8_feed_9 : decode cX8_feed 9 = .ok (.iadd, 1) := by decide +kernel
theorem dX8_feed_10 : decode cX8_feed 10 = .ok (.sipush 200, 3) := by decide +kernel
theorem dX8_feed_13 : decode cX8_feed 13 = .ok (.if_icmp .le 5, 3) := by decide +kernel
theorem dX8_feed_18 : decode cX8_feed 18 = .ok (.aload_n 0, 1) := by decide +kernel
theorem dX8_feed_19 : decode cX8_feed 19 = .ok (.getfield 30, 3) := by decide +kernel
theorem dX8_feed_22 : decode cX8_feed 22 = .ok (.iload_n 1, 1) := by decide +kernel
set_option maxRecDepth 20000 in
theorem ggX8_feed_X5_append : GoodIn wsX8_feed wsX5_append := goodIn_r _ [5, 6, 7, 25, 26] (by decide +kernel) (by decide +kernel)
set_option maxRecDepth 20000 in
theorem gX8_feed_X5_append_n145 : GoodIn wsX8_feed (wsX5_append) := ggX8_feed_X5_append
theorem dX8_feed_23 : decode cX8_feed 23 = .ok (.invokevirtual 145, 3) := by decide +kernel
theorem dX8_feed_26 : decode cX8_feed 26 = .ok (.aload_n 0, 1) := by decide +kernel
theorem dX8_feed_27 : decode cX8_feed 27 = .ok (.getfield 30, 3) := by decide +kernel
theorem dX8_feed_30 : decode cX8_feed 30 = .ok (.iload_n 2, 1) := by decide +kernel
theorem dX8_feed_31 : decode cX8_feed 31 = .ok (.invokevirtual 145, 3) := by decide +kernel
theorem dX8_feed_34 : decode cX8_feed 34 = .ok (.aload_n 0, 1) := by decide +kernel
theorem dX8_feed_35 : decode cX8_feed 35 = .ok (.getfield 30, 3) := by decide +kernel
theorem dX8_feed_38 : decode cX8_feed 38 = .ok (.iload_n 3, 1) := by decide +kernel
theorem dX8_feed_39 : decode cX8_feed 39 = .ok (.invokevirtual 145, 3) := by decide +kernel
theorem dX8_feed_42 : decode cX8_feed 42 = .ok (.aload_n 0, 1) := by decide +kernel
theorem dX8_feed_43 : decode cX8_feed 43 = .ok (.getfield 30, 3) := by decide +kernel
theorem dX8_feed_46 : decode cX8_feed 46 = .ok (.iload 4, 2) := by decide +kernel
theorem dX8_feed_48 : decode cX8_feed 48 = .ok (.invokevirtual 145, 3) := by decide +kernel
theorem dX8_feed_51 : decode cX8_feed 51 = .ok (.aload_n 0, 1) := by decide +kernel
theorem dX8_feed_52 : decode cX8_feed 52 = .ok (.getfield 30, 3) := by decide +kernel
theorem dX8_feed_55 : decode cX8_feed 55 = .ok (.iload 5, 2) := by decide +kernel
theorem dX8_feed_57 : decode cX8_feed 57 = .ok (.invokevirtual 145, 3) := by decide +kernel
theorem dX8_feed_60 : decode cX8_feed 60 = .ok (.aload_n 0, 1) := by decide +kernel
theorem dX8_feed_61 : decode cX8_feed 61 = .ok (.getfield 30, 3) := by decide +kernel
theorem dX8_feed_64 : decode cX8_feed 64 = .ok (.getfield 142, 3) := by decide +kernel
theorem dX8_feed_67 : decode cX8_feed 67 = .ok (.ireturn, 1) := by decide +kernel
set_option maxHeartbeats 4000000 in
set_option maxRecDepth 100000 in
theorem c_X5_append (l : Launch) (dC : Nat → ClassId) (dI : Nat → Nat → Nat) (sz : Nat) (hTape : Nat) (aB : Nat) (cB : ClassId) (fB : Nat → Int32) (n : Int32) (a : Int32) (hn0 : 0 ≤ n.toInt) (hn1 : n.toInt ≤ 196) : Met l yX5_append wsX5_append ({ frames := 0, cells := 0, slots := 0, locals := 0 }) (va_Pc [.ref hTape, .int a] (fun U => U.heap.size = sz ∧ va_P (dC, dI) vwCl [(hTape, .inr (5, [.ref aB, .int n])), (aB, .inl (cB, 200, .inl fB))] U.heap ∧ va_K (dC, dI) vwCl [(cB, .int)] U ∧ va_D (fun _ => True) [(hTape, .inr (5, [.ref aB, .int n])), (aB, .inl (cB, 200, .inl fB))] ∧ nw_ok U)) (va_Qv (fun (u : Int32 × (Nat → Int32)) => u.1.toInt = n.toInt + 4) (fun (u : Int32 × (Nat → Int32)) (t : State) => va_P (dC, dI) vwCl [(hTape, .inr (5, [.ref aB, .int u.1])), (aB, .inl (cB, 200, .inl u.2))] t.heap ∧ va_K (dC, dI) vwCl [(cB, .int)] t ∧ va_D (va_A [(hTape, .inr (5, [.ref aB, .int n])), (aB, .inl (cB, 200, .inl fB))] sz) [(hTape, .inr (5, [.ref aB, .int u.1])), (aB, .inl (cB, 200, .inl u.2))]) (va_A [(hTape, .inr (5, [.ref aB, .int n])), (aB, .inl (cB, 200, .inl fB))] sz)) 0 0 (va_A [(hTape, .inr (5, [.ref aB, .int n])), (aB, .inl (cB, 200, .inl fB))] sz) := by
  refine Met.ofW (cc := cX5_append) (maxL := 3) (ret := none) (by decide) rfl ?_
  intro p e s m args below meth c s₁ B hml hv
  obtain ⟨rfl, hsz, hP, hK, hD0, hN⟩ := hv
  have hx := B.exec
  have hb := B.bytes
  have hr := B.returns
  have hts := atoms_spec (ws := wsX5_append) B.pre
  have hown : s.vm.findClass RX5 = some m.cls := findClass_of_methodNamed B.named
  have hlocks := B.notSynchronized
  subst hsz
  have hD := hD0.self (sz := s.heap.size)
  generalize hAe : va_A [(hTape, .inr (5, [.ref aB, .int n])), (aB, .inl (cB, 200, .inl fB))] s.heap.size = A at hD ⊢
  have hA : ∀ q : Nat, s.heap.size ≤ q → A q := fun q h => by rw [← hAe]; exact Or.inr h
  have hS : va_S A s.heap s.heap [] := va_S.rf
  have hP : va_P (dC, dI) vwCl [(hTape, .inr (5, [.ref aB, .int n])), (aB, .inl (cB, 200, .inl fB))] s.heap := hP
  have hIX5 : ∀ w ∈ u_ws RX5 TX5 2, w ∈ wsX5_append := by decide +kernel
  have hl := lv_entry ([.ref hTape, .int a]) (n := 3) (Nat.le_of_ble_eq_true rfl)
  rw [lg_entry_eq]
  generalize (lg_sl ([.ref hTape, .int a]) ++ List.replicate (3 - (lg_sl ([.ref hTape, .int a])).length) Slot.unset).toArray = ls at hl ⊢
  have hl : lv_has ls 3 [(0, .ref hTape), (1, .int a)] := hl
  refine lv_iconst (v := 3) hx hb dX5_append_0 (by decide) ?_
  refine lv_istore_n (lv' := [(2, .int 3), (0, .ref hTape), (1, .int a)]) hx hb dX5_append_1 rfl hl (by decide) rfl (fun ls hl => ?_)
  refine lv_iload_n hx hb dX5_append_2 rfl (lv_at hl 0 rfl) ?_
  refine lv_if_lt (tgt := 51) hx hb dX5_append_3 (by decide) (fun c_1 => absurd c_1 (by decide)) (fun c_1 => ?_)
  refine lv_aload_n hx hb dX5_append_6 rfl (lv_at hl 1 rfl) ?_
  refine va_get (D := (dC, dI)) (ci := 5) (v := .int n) (C := RX5) (T := TX5) (N := 2) hx hb hts hIX5 hown hK hP 0 rfl rfl 1 (by decide) (hts (.fieldLink RX5 15 "TraitHouse$Tape" "size" "I") (by decide +kernel)) (fun _ h9 => h9) rfl dX5_append_7 ?_
  refine lv_sipush (v := 200) hx hb dX5_append_10 (by decide) ?_
  refine lv_icmp_ge (tgt := 51) hx hb dX5_append_13 (by decide) (fun c_2 => ?_) (fun c_2 => ?_)
  · have dc_2 : 200 ≤ n.toInt := jI_le c_2 (by decide) rfl
    exfalso; omega
  · have dc_2 : n.toInt < 200 := jI_nle c_2 (by decide) rfl
    refine lv_aload_n hx hb dX5_append_16 rfl (lv_at hl 1 rfl) ?_
    refine va_get (D := (dC, dI)) (ci := 5) (v := .ref aB) (C := RX5) (T := TX5) (N := 2) hx hb hts hIX5 hown hK hP 0 rfl rfl 0 (by decide) (hts (.fieldLink RX5 9 "TraitHouse$Tape" "bytes" "[I") (by decide +kernel)) (fun _ h9 => h9) rfl dX5_append_17 ?_
    refine lv_aload_n hx hb dX5_append_20 rfl (lv_at hl 1 rfl) ?_
    refine va_get (D := (dC, dI)) (ci := 5) (v := .int n) (C := RX5) (T := TX5) (N := 2) hx hb hts hIX5 hown hK hP 0 rfl rfl 1 (by decide) (hts (.fieldLink RX5 15 "TraitHouse$Tape" "size" "I") (by decide +kernel)) (fun _ h9 => h9) rfl dX5_append_21 ?_
    refine lv_iload_n hx hb dX5_append_24 rfl (lv_at hl 2 rfl) ?_
    refine lv_bipush (v := 8) hx hb dX5_append_25 (by decide) ?_
    refine lv_iload_n hx hb dX5_append_27 rfl (lv_at hl 0 rfl) ?_
    refine lv_imul hx hb dX5_append_28 ?_
    refine lv_topi (fun x_3 ex_3 => ?_)
    obtain rfl : x_3 = 24 := ex_3.trans (by decide)
    obtain ⟨x_4, ex_4⟩ : ∃ y : Int32, y = (a.toUInt32 >>> ((24 : Int32).toUInt32 &&& Int32.toUInt32 31)).toInt32 := ⟨_, rfl⟩
    refine lv_iushr (v := x_4) hx hb dX5_append_29 ex_4.symm ?_
    refine lv_sipush (v := 255) hx hb dX5_append_30 (by decide) ?_
    refine lv_iand hx hb dX5_append_33 ?_
    refine lv_topi (fun x_5 ex_5 => ?_)
    have h_6 : vp_in n 200 := (vp_in_iff.mpr ⟨by omega, by omega⟩)
    refine va_iast hx hb hK hP hD hS 1 0 rfl rfl h_6 dX5_append_34 (fun H locs hP hD hS => ?_)
    have hP : va_P (dC, dI) vwCl [(hTape, .inr (5, [.ref aB, .int n])), (aB, .inl (cB, 200, .inl (upd fB n.toNatClampNeg x_5)))] H := hP
    have hD : va_D A [(hTape, .inr (5, [.ref aB, .int n])), (aB, .inl (cB, 200, .inl (upd fB n.toNatClampNeg x_5)))] := hD
    obtain ⟨g_7, eg_7⟩ : ∃ g : Nat → Int32, g = upd fB n.toNatClampNeg x_5 := ⟨_, rfl⟩
    rw [← eg_7] at hP hD
    refine lv_aload_n hx hb dX5_append_35 rfl (lv_at hl 1 rfl) ?_
    refine lv_dup hx hb dX5_append_36 rfl ?_
    refine va_get (D := (dC, dI)) (ci := 5) (v := .int n) (C := RX5) (T := TX5) (N := 2) hx hb hts hIX5 hown hK hP 0 rfl rfl 1 (by decide) (hts (.fieldLink RX5 15 "TraitHouse$Tape" "size" "I") (by decide +kernel)) (fun _ h9 => h9) rfl dX5_append_37 ?_
    refine lv_iconst (v := 1) hx hb dX5_append_40 (by decide) ?_
    refine lv_iadd hx hb dX5_append_41 ?_
    refine lv_topi (fun x_8 ex_8 => ?_)
    have dx_8 : x_8.toInt = n.toInt + 1 := by rw [ex_8]; exact jI_add rfl (by decide) (by omega) (by omega)
    refine va_put (D := (dC, dI)) (ci := 5) (v := .int x_8) (ty := .int) (C := RX5) (T := TX5) (N := 2) hx hb hts hIX5 tyX5 tyX5_ok nmX5 hown hK hP hD hS 0 rfl rfl 1 (by decide) (hts (.fieldLink RX5 15 "TraitHouse$Tape" "size" "I") (by decide +kernel)) (fun _ h9 => h9) rfl (by decide +kernel) rfl rfl (Nat.le_of_ble_eq_true rfl) dX5_append_42 (fun H locs hP hD hS => ?_)
    have hP : va_P (dC, dI) vwCl [(hTape, .inr (5, [.ref aB, .int x_8])), (aB, .inl (cB, 200, .inl g_7))] H := hP
    have hD : va_D A [(hTape, .inr (5, [.ref aB, .int x_8])), (aB, .inl (cB, 200, .inl g_7))] := hD
    refine lv_iinc (v := 2) (lv' := [(2, .int 2), (0, .ref hTape), (1, .int a)]) hx hb dX5_append_45 hl (k := 0) rfl (by decide) (by decide) rfl (fun ls hl => ?_)
    refine lv_goto (tgt := 2) hx hb dX5_append_48 (by decide) ?_
    refine lv_iload_n hx hb dX5_append_2 rfl (lv_at hl 0 rfl) ?_
    refine lv_if_lt (tgt := 51) hx hb dX5_append_3 (by decide) (fun c_9 => absurd c_9 (by decide)) (fun c_9 => ?_)
    refine lv_aload_n hx hb dX5_append_6 rfl (lv_at hl 1 rfl) ?_
    refine va_get (D := (dC, dI)) (ci := 5) (v := .int x_8) (C := RX5) (T := TX5) (N := 2) hx hb hts hIX5 hown hK hP 0 rfl rfl 1 (by decide) (hts (.fieldLink RX5 15 "TraitHouse$Tape" "size" "I") (by decide +kernel)) (fun _ h9 => h9) rfl dX5_append_7 ?_
    refine lv_sipush (v := 200) hx hb dX5_append_10 (by decide) ?_
    refine lv_icmp_ge (tgt := 51) hx hb dX5_append_13 (by decide) (fun c_10 => ?_) (fun c_10 => ?_)
    · have dc_10 : 200 ≤ x_8.toInt := jI_le c_10 (by decide) rfl
      exfalso; omega
    · have dc_10 : x_8.toInt < 200 := jI_nle c_10 (by decide) rfl
      refine lv_aload_n hx hb dX5_append_16 rfl (lv_at hl 1 rfl) ?_
      refine va_get (D := (dC, dI)) (ci := 5) (v := .ref aB) (C := RX5) (T := TX5) (N := 2) hx hb hts hIX5 hown hK hP 0 rfl rfl 0 (by decide) (hts (.fieldLink RX5 9 "TraitHouse$Tape" "bytes" "[I") (by decide +kernel)) (fun _ h9 => h9) rfl dX5_append_17 ?_
      refine lv_aload_n hx hb dX5_append_20 rfl (lv_at hl 1 rfl) ?_
      refine va_get (D := (dC, dI)) (ci := 5) (v := .int x_8) (C := RX5) (T := TX5) (N := 2) hx hb hts hIX5 hown hK hP 0 rfl rfl 1 (by decide) (hts (.fieldLink RX5 15 "TraitHouse$Tape" "size" "I") (by decide +kernel)) (fun _ h9 => h9) rfl dX5_append_21 ?_
      refine lv_iload_n hx hb dX5_append_24 rfl (lv_at hl 2 rfl) ?_
      refine lv_bipush (v := 8) hx hb dX5_append_25 (by decide) ?_
      refine lv_iload_n hx hb dX5_append_27 rfl (lv_at hl 0 rfl) ?_
      refine lv_imul hx hb dX5_append_28 ?_
      refine lv_topi (fun x_11 ex_11 => ?_)
      obtain rfl : x_11 = 16 := ex_11.trans (by decide)
      obtain ⟨x_12, ex_12⟩ : ∃ y : Int32, y = (a.toUInt32 >>> ((16 : Int32).toUInt32 &&& Int32.toUInt32 31)).toInt32 := ⟨_, rfl⟩
      refine lv_iushr (v := x_12) hx hb dX5_append_29 ex_12.symm ?_
      refine lv_sipush (v := 255) hx hb dX5_append_30 (by decide) ?_
      refine lv_iand hx hb dX5_append_33 ?_
      refine lv_topi (fun x_13 ex_13 => ?_)
      have h_14 : vp_in x_8 200 := (vp_in_iff.mpr ⟨by omega, by omega⟩)
      refine va_iast hx hb hK hP hD hS 1 0 rfl rfl h_14 dX5_append_34 (fun H locs hP hD hS => ?_)
      have hP : va_P (dC, dI) vwCl [(hTape, .inr (5, [.ref aB, .int x_8])), (aB, .inl (cB, 200, .inl (upd g_7 x_8.toNatClampNeg x_13)))] H := hP
      have hD : va_D A [(hTape, .inr (5, [.ref aB, .int x_8])), (aB, .inl (cB, 200, .inl (upd g_7 x_8.toNatClampNeg x_13)))] := hD
      obtain ⟨g_15, eg_15⟩ : ∃ g : Nat → Int32, g = upd g_7 x_8.toNatClampNeg x_13 := ⟨_, rfl⟩
      rw [← eg_15] at hP hD
      refine lv_aload_n hx hb dX5_append_35 rfl (lv_at hl 1 rfl) ?_
      refine lv_dup hx hb dX5_append_36 rfl ?_
      refine va_get (D := (dC, dI)) (ci := 5) (v := .int x_8) (C := RX5) (T := TX5) (N := 2) hx hb hts hIX5 hown hK hP 0 rfl rfl 1 (by decide) (hts (.fieldLink RX5 15 "TraitHouse$Tape" "size" "I") (by decide +kernel)) (fun _ h9 => h9) rfl dX5_append_37 ?_
      refine lv_iconst (v := 1) hx hb dX5_append_40 (by decide) ?_
      refine lv_iadd hx hb dX5_append_41 ?_
      refine lv_topi (fun x_16 ex_16 => ?_)
      have dx_16 : x_16.toInt = x_8.toInt + 1 := by rw [ex_16]; exact jI_add rfl (by decide) (by omega) (by omega)
      refine va_put (D := (dC, dI)) (ci := 5) (v := .int x_16) (ty := .int) (C := RX5) (T := TX5) (N := 2) hx hb hts hIX5 tyX5 tyX5_ok nmX5 hown hK hP hD hS 0 rfl rfl 1 (by decide) (hts (.fieldLink RX5 15 "TraitHouse$Tape" "size" "I") (by decide +kernel)) (fun _ h9 => h9) rfl (by decide +kernel) rfl rfl (Nat.le_of_ble_eq_true rfl) dX5_append_42 (fun H locs hP hD hS => ?_)
      have hP : va_P (dC, dI) vwCl [(hTape, .inr (5, [.ref aB, .int x_16])), (aB, .inl (cB, 200, .inl g_15))] H := hP
      have hD : va_D A [(hTape, .inr (5, [.ref aB, .int x_16])), (aB, .inl (cB, 200, .inl g_15))] := hD
      refine lv_iinc (v := 1) (lv' := [(2, .int 1), (0, .ref hTape), (1, .int a)]) hx hb dX5_append_45 hl (k := 0) rfl (by decide) (by decide) rfl (fun ls hl => ?_)
      refine lv_goto (tgt := 2) hx hb dX5_append_48 (by decide) ?_
      refine lv_iload_n hx hb dX5_append_2 rfl (lv_at hl 0 rfl) ?_
      refine lv_if_lt (tgt := 51) hx hb dX5_append_3 (by decide) (fun c_17 => absurd c_17 (by decide)) (fun c_17 => ?_)
      refine lv_aload_n hx hb dX5_append_6 rfl (lv_at hl 1 rfl) ?_
      refine va_get (D := (dC, dI)) (ci := 5) (v := .int x_16) (C := RX5) (T := TX5) (N := 2) hx hb hts hIX5 hown hK hP 0 rfl rfl 1 (by decide) (hts (.fieldLink RX5 15 "TraitHouse$Tape" "size" "I") (by decide +kernel)) (fun _ h9 => h9) rfl dX5_append_7 ?_
      refine lv_sipush (v := 200) hx hb dX5_append_10 (by decide) ?_
      refine lv_icmp_ge (tgt := 51) hx hb dX5_append_13 (by decide) (fun c_18 => ?_) (fun c_18 => ?_)
      · have dc_18 : 200 ≤ x_16.toInt := jI_le c_18 (by decide) rfl
        exfalso; omega
      · have dc_18 : x_16.toInt < 200 := jI_nle c_18 (by decide) rfl
        refine lv_aload_n hx hb dX5_append_16 rfl (lv_at hl 1 rfl) ?_
        refine va_get (D := (dC, dI)) (ci := 5) (v := .ref aB) (C := RX5) (T := TX5) (N := 2) hx hb hts hIX5 hown hK hP 0 rfl rfl 0 (by decide) (hts (.fieldLink RX5 9 "TraitHouse$Tape" "bytes" "[I") (by decide +kernel)) (fun _ h9 => h9) rfl dX5_append_17 ?_
        refine lv_aload_n hx hb dX5_append_20 rfl (lv_at hl 1 rfl) ?_
        refine va_get (D := (dC, dI)) (ci := 5) (v := .int x_16) (C := RX5) (T := TX5) (N := 2) hx hb hts hIX5 hown hK hP 0 rfl rfl 1 (by decide) (hts (.fieldLink RX5 15 "TraitHouse$Tape" "size" "I") (by decide +kernel)) (fun _ h9 => h9) rfl dX5_append_21 ?_
        refine lv_iload_n hx hb dX5_append_24 rfl (lv_at hl 2 rfl) ?_
        refine lv_bipush (v := 8) hx hb dX5_append_25 (by decide) ?_
        refine lv_iload_n hx hb dX5_append_27 rfl (lv_at hl 0 rfl) ?_
        refine lv_imul hx hb dX5_append_28 ?_
        refine lv_topi (fun x_19 ex_19 => ?_)
        obtain rfl : x_19 = 8 := ex_19.trans (by decide)
        obtain ⟨x_20, ex_20⟩ : ∃ y : Int32, y = (a.toUInt32 >>> ((8 : Int32).toUInt32 &&& Int32.toUInt32 31)).toInt32 := ⟨_, rfl⟩
        refine lv_iushr (v := x_20) hx hb dX5_append_29 ex_20.symm ?_
        refine lv_sipush (v := 255) hx hb dX5_append_30 (by decide) ?_
        refine lv_iand hx hb dX5_append_33 ?_
        refine lv_topi (fun x_21 ex_21 => ?_)
        have h_22 : vp_in x_16 200 := (vp_in_iff.mpr ⟨by omega, by omega⟩)
        refine va_iast hx hb hK hP hD hS 1 0 rfl rfl h_22 dX5_append_34 (fun H locs hP hD hS => ?_)
        have hP : va_P (dC, dI) vwCl [(hTape, .inr (5, [.ref aB, .int x_16])), (aB, .inl (cB, 200, .inl (upd g_15 x_16.toNatClampNeg x_21)))] H := hP
        have hD : va_D A [(hTape, .inr (5, [.ref aB, .int x_16])), (aB, .inl (cB, 200, .inl (upd g_15 x_16.toNatClampNeg x_21)))] := hD
        obtain ⟨g_23, eg_23⟩ : ∃ g : Nat → Int32, g = upd g_15 x_16.toNatClampNeg x_21 := ⟨_, rfl⟩
        rw [← eg_23] at hP hD
        refine lv_aload_n hx hb dX5_append_35 rfl (lv_at hl 1 rfl) ?_
        refine lv_dup hx hb dX5_append_36 rfl ?_
        refine va_get (D := (dC, dI)) (ci := 5) (v := .int x_16) (C := RX5) (T := TX5) (N := 2) hx hb hts hIX5 hown hK hP 0 rfl rfl 1 (by decide) (hts (.fieldLink RX5 15 "TraitHouse$Tape" "size" "I") (by decide +kernel)) (fun _ h9 => h9) rfl dX5_append_37 ?_
        refine lv_iconst (v := 1) hx hb dX5_append_40 (by decide) ?_
        refine lv_iadd hx hb dX5_append_41 ?_
        refine lv_topi (fun x_24 ex_24 => ?_)
        have dx_24 : x_24.toInt = x_16.toInt + 1 := by rw [ex_24]; exact jI_add rfl (by decide) (by omega) (by omega)
        refine va_put (D := (dC, dI)) (ci := 5) (v := .int x_24) (ty := .int) (C := RX5) (T := TX5) (N := 2) hx hb hts hIX5 tyX5 tyX5_ok nmX5 hown hK hP hD hS 0 rfl rfl 1 (by decide) (hts (.fieldLink RX5 15 "TraitHouse$Tape" "size" "I") (by decide +kernel)) (fun _ h9 => h9) rfl (by decide +kernel) rfl rfl (Nat.le_of_ble_eq_true rfl) dX5_append_42 (fun H locs hP hD hS => ?_)
        have hP : va_P (dC, dI) vwCl [(hTape, .inr (5, [.ref aB, .int x_24])), (aB, .inl (cB, 200, .inl g_23))] H := hP
        have hD : va_D A [(hTape, .inr (5, [.ref aB, .int x_24])), (aB, .inl (cB, 200, .inl g_23))] := hD
        refine lv_iinc (v := 0) (lv' := [(2, .int 0), (0, .ref hTape), (1, .int a)]) hx hb dX5_append_45 hl (k := 0) rfl (by decide) (by decide) rfl (fun ls hl => ?_)
        refine lv_goto (tgt := 2) hx hb dX5_append_48 (by decide) ?_
        refine lv_iload_n hx hb dX5_append_2 rfl (lv_at hl 0 rfl) ?_
        refine lv_if_lt (tgt := 51) hx hb dX5_append_3 (by decide) (fun c_25 => absurd c_25 (by decide)) (fun c_25 => ?_)
        refine lv_aload_n hx hb dX5_append_6 rfl (lv_at hl 1 rfl) ?_
        refine va_get (D := (dC, dI)) (ci := 5) (v := .int x_24) (C := RX5) (T := TX5) (N := 2) hx hb hts hIX5 hown hK hP 0 rfl rfl 1 (by decide) (hts (.fieldLink RX5 15 "TraitHouse$Tape" "size" "I") (by decide +kernel)) (fun _ h9 => h9) rfl dX5_append_7 ?_
        refine lv_sipush (v := 200) hx hb dX5_append_10 (by decide) ?_
        refine lv_icmp_ge (tgt := 51) hx hb dX5_append_13 (by decide) (fun c_26 => ?_) (fun c_26 => ?_)
        · have dc_26 : 200 ≤ x_24.toInt := jI_le c_26 (by decide) rfl
          exfalso; omega
        · have dc_26 : x_24.toInt < 200 := jI_nle c_26 (by decide) rfl
          refine lv_aload_n hx hb dX5_append_16 rfl (lv_at hl 1 rfl) ?_
          refine va_get (D := (dC, dI)) (ci := 5) (v := .ref aB) (C := RX5) (T := TX5) (N := 2) hx hb hts hIX5 hown hK hP 0 rfl rfl 0 (by decide) (hts (.fieldLink RX5 9 "TraitHouse$Tape" "bytes" "[I") (by decide +kernel)) (fun _ h9 => h9) rfl dX5_append_17 ?_
          refine lv_aload_n hx hb dX5_append_20 rfl (lv_at hl 1 rfl) ?_
          refine va_get (D := (dC, dI)) (ci := 5) (v := .int x_24) (C := RX5) (T := TX5) (N := 2) hx hb hts hIX5 hown hK hP 0 rfl rfl 1 (by decide) (hts (.fieldLink RX5 15 "TraitHouse$Tape" "size" "I") (by decide +kernel)) (fun _ h9 => h9) rfl dX5_append_21 ?_
          refine lv_iload_n hx hb dX5_append_24 rfl (lv_at hl 2 rfl) ?_
          refine lv_bipush (v := 8) hx hb dX5_append_25 (by decide) ?_
          refine lv_iload_n hx hb dX5_append_27 rfl (lv_at hl 0 rfl) ?_
          refine lv_imul hx hb dX5_append_28 ?_
          refine lv_topi (fun x_27 ex_27 => ?_)
          obtain rfl : x_27 = 0 := ex_27.trans (by decide)
          obtain ⟨x_28, ex_28⟩ : ∃ y : Int32, y = (a.toUInt32 >>> ((0 : Int32).toUInt32 &&& Int32.toUInt32 31)).toInt32 := ⟨_, rfl⟩
          refine lv_iushr (v := x_28) hx hb dX5_append_29 ex_28.symm ?_
          obtain rfl : a = x_28 := (ex_28.trans (jI_ushr0 _)).symm
          refine lv_sipush (v := 255) hx hb dX5_append_30 (by decide) ?_
          refine lv_iand hx hb dX5_append_33 ?_
          refine lv_topi (fun x_29 ex_29 => ?_)
          have h_30 : vp_in x_24 200 := (vp_in_iff.mpr ⟨by omega, by omega⟩)
          refine va_iast hx hb hK hP hD hS 1 0 rfl rfl h_30 dX5_append_34 (fun H locs hP hD hS => ?_)
          have hP : va_P (dC, dI) vwCl [(hTape, .inr (5, [.ref aB, .int x_24])), (aB, .inl (cB, 200, .inl (upd g_23 x_24.toNatClampNeg x_29)))] H := hP
          have hD : va_D A [(hTape, .inr (5, [.ref aB, .int x_24])), (aB, .inl (cB, 200, .inl (upd g_23 x_24.toNatClampNeg x_29)))] := hD
          obtain ⟨g_31, eg_31⟩ : ∃ g : Nat → Int32, g = upd g_23 x_24.toNatClampNeg x_29 := ⟨_, rfl⟩
          rw [← eg_31] at hP hD
          refine lv_aload_n hx hb dX5_append_35 rfl (lv_at hl 1 rfl) ?_
          refine lv_dup hx hb dX5_append_36 rfl ?_
          refine va_get (D := (dC, dI)) (ci := 5) (v := .int x_24) (C := RX5) (T := TX5) (N := 2) hx hb hts hIX5 hown hK hP 0 rfl rfl 1 (by decide) (hts (.fieldLink RX5 15 "TraitHouse$Tape" "size" "I") (by decide +kernel)) (fun _ h9 => h9) rfl dX5_append_37 ?_
          refine lv_iconst (v := 1) hx hb dX5_append_40 (by decide) ?_
          refine lv_iadd hx hb dX5_append_41 ?_
          refine lv_topi (fun x_32 ex_32 => ?_)
          have dx_32 : x_32.toInt = x_24.toInt + 1 := by rw [ex_32]; exact jI_add rfl (by decide) (by omega) (by omega)
          refine va_put (D := (dC, dI)) (ci := 5) (v := .int x_32) (ty := .int) (C := RX5) (T := TX5) (N := 2) hx hb hts hIX5 tyX5 tyX5_ok nmX5 hown hK hP hD hS 0 rfl rfl 1 (by decide) (hts (.fieldLink RX5 15 "TraitHouse$Tape" "size" "I") (by decide +kernel)) (fun _ h9 => h9) rfl (by decide +kernel) rfl rfl (Nat.le_of_ble_eq_true rfl) dX5_append_42 (fun H locs hP hD hS => ?_)
          have hP : va_P (dC, dI) vwCl [(hTape, .inr (5, [.ref aB, .int x_32])), (aB, .inl (cB, 200, .inl g_31))] H := hP
          have hD : va_D A [(hTape, .inr (5, [.ref aB, .int x_32])), (aB, .inl (cB, 200, .inl g_31))] := hD
          refine lv_iinc (v := (-1)) (lv' := [(2, .int (-1)), (0, .ref hTape), (1, .int a)]) hx hb dX5_append_45 hl (k := 0) rfl (by decide) (by decide) rfl (fun ls hl => ?_)
          refine lv_goto (tgt := 2) hx hb dX5_append_48 (by decide) ?_
          refine lv_iload_n hx hb dX5_append_2 rfl (lv_at hl 0 rfl) ?_
          refine lv_if_lt (tgt := 51) hx hb dX5_append_3 (by decide) (fun c_33 => ?_) (fun c_33 => absurd (by decide) c_33)
          have hP9 := hP.sub (ws' := [(hTape, .inr (5, [.ref aB, .int x_32])), (aB, .inl (cB, 200, .inl g_31))]) [0, 1] rfl
          have hD9 := hD.sub (ws' := [(hTape, .inr (5, [.ref aB, .int x_32])), (aB, .inl (cB, 200, .inl g_31))]) [0, 1] (by decide) rfl
          have hK9 := hK.sub (tys' := [(cB, .int)]) [0] rfl
          exact W.vret hx hb hr (fun t ht hW => ⟨⟨(x_32, g_31), rfl, by first | omega | (dsimp only; omega), by rw [ht]; exact hP9, va_K.moved hW.alike hK9, hD9⟩, hS.F ht⟩) hS.2.2 dX5_append_51

set_option maxHeartbeats 4000000 in
set_option maxRecDepth 100000 in
theorem c_X8_feed (l : Launch) (dC : Nat → ClassId) (dI : Nat → Nat → Nat) (sz : Nat) (h0 : Nat) (hRows : Nat) (hMer : Nat) (hEra : Nat) (hTape : Nat) (hRea : Nat) (hTra : Nat) (hWor : Nat) (hPla : Nat) (hMod : Nat) (hHe1 : Nat) (hHe2 : Nat) (aB : Nat) (cB : ClassId) (a : Int32) (b : Int32) (d : Int32) (e1 : Int32) (e2 : Int32)  : Met l yX8_feed wsX8_feed ({ frames := 1, cells := 0, slots := 0, locals := 22 }) (va_Pc [.ref h0, .int a, .int b, .int d, .int e1, .int e2] (fun U => U.heap.size = sz ∧ va_P (dC, dI) vwCl [(h0, .inr (8, [.ref hRows, .ref hMer, .ref hEra, .ref hTape, .ref hRea, .ref hTra, .ref hWor, .ref hPla, .ref hMod, .ref hHe1, .ref hHe2, .int 0, .int 0, .int 0, .int 0, .int (-1), .int 0])), (hTape, .inr (5, [.ref aB, .int 0])), (aB, .inl (cB, 200, .inl (fun _ => 0)))] U.heap ∧ va_K (dC, dI) vwCl [(cB, .int)] U ∧ va_D (fun _ => True) [(h0, .inr (8, [.ref hRows, .ref hMer, .ref hEra, .ref hTape, .ref hRea, .ref hTra, .ref hWor, .ref hPla, .ref hMod, .ref hHe1, .ref hHe2, .int 0, .int 0, .int 0, .int 0, .int (-1), .int 0])), (hTape, .inr (5, [.ref aB, .int 0])), (aB, .inl (cB, 200, .inl (fun _ => 0)))] ∧ nw_ok U)) (va_Qi (fun (r : Int32) (_ : Unit) => r.toInt = 20) (fun (_ : Unit) (t : State) => True) (va_A [(h0, .inr (8, [.ref hRows, .ref hMer, .ref hEra, .ref hTape, .ref hRea, .ref hTra, .ref hWor, .ref hPla, .ref hMod, .ref hHe1, .ref hHe2, .int 0, .int 0, .int 0, .int 0, .int (-1), .int 0])), (hTape, .inr (5, [.ref aB, .int 0])), (aB, .inl (cB, 200, .inl (fun _ => 0)))] sz)) 0 0 (va_A [(h0, .inr (8, [.ref hRows, .ref hMer, .ref hEra, .ref hTape, .ref hRea, .ref hTra, .ref hWor, .ref hPla, .ref hMod, .ref hHe1, .ref hHe2, .int 0, .int 0, .int 0, .int 0, .int (-1), .int 0])), (hTape, .inr (5, [.ref aB, .int 0])), (aB, .inl (cB, 200, .inl (fun _ => 0)))] sz) := by
  refine Met.ofW (cc := cX8_feed) (maxL := 6) (ret := (some .int)) (by decide) rfl ?_
  intro p e s m args below meth c s₁ B hml hv
  obtain ⟨rfl, hsz, hP, hK, hD0, hN⟩ := hv
  have hx := B.exec
  have hb := B.bytes
  have hr := B.returns
  have hts := atoms_spec (ws := wsX8_feed) B.pre
  have hown : s.vm.findClass RX8 = some m.cls := findClass_of_methodNamed B.named
  have hlocks := B.notSynchronized
  subst hsz
  have hD := hD0.self (sz := s.heap.size)
  generalize hAe : va_A [(h0, .inr (8, [.ref hRows, .ref hMer, .ref hEra, .ref hTape, .ref hRea, .ref hTra, .ref hWor, .ref hPla, .ref hMod, .ref hHe1, .ref hHe2, .int 0, .int 0, .int 0, .int 0, .int (-1), .int 0])), (hTape, .inr (5, [.ref aB, .int 0])), (aB, .inl (cB, 200, .inl (fun _ => 0)))] s.heap.size = A at hD ⊢
  have hA : ∀ q : Nat, s.heap.size ≤ q → A q := fun q h => by rw [← hAe]; exact Or.inr h
  have hS : va_S A s.heap s.heap [] := va_S.rf
  have hP : va_P (dC, dI) vwCl [(h0, .inr (8, [.ref hRows, .ref hMer, .ref hEra, .ref hTape, .ref hRea, .ref hTra, .ref hWor, .ref hPla, .ref hMod, .ref hHe1, .ref hHe2, .int 0, .int 0, .int 0, .int 0, .int (-1), .int 0])), (hTape, .inr (5, [.ref aB, .int 0])), (aB, .inl (cB, 200, .inl (fun _ => 0)))] s.heap := hP
  have hIX5 : ∀ w ∈ u_ws RX5 TX5 2, w ∈ wsX8_feed := by decide +kernel
  have hIX8 : ∀ w ∈ u_ws RX8 TX8 17, w ∈ wsX8_feed := by decide +kernel
  have hl := lv_entry ([.ref h0, .int a, .int b, .int d, .int e1, .int e2]) (n := 6) (Nat.le_of_ble_eq_true rfl)
  rw [lg_entry_eq]
  generalize (lg_sl ([.ref h0, .int a, .int b, .int d, .int e1, .int e2]) ++ List.replicate (6 - (lg_sl ([.ref h0, .int a, .int b, .int d, .int e1, .int e2])).length) Slot.unset).toArray = ls at hl ⊢
  have hl : lv_has ls 6 [(0, .ref h0), (1, .int a), (2, .int b), (3, .int d), (4, .int e1), (5, .int e2)] := hl
  refine lv_aload_n hx hb dX8_feed_0 rfl (lv_at hl 0 rfl) ?_
  refine va_get (D := (dC, dI)) (ci := 8) (v := .ref hTape) (C := RX8) (T := TX8) (N := 17) hx hb hts hIX8 hown hK hP 0 rfl rfl 3 (by decide) (hts (.fieldLink RX8 30 "TraitHouse" "tape" "LTraitHouse$Tape;") (by decide +kernel)) (fun _ h9 => h9) rfl dX8_feed_1 ?_
  refine va_getN (D := (dC, dI)) (ci := 5) (v := .int 0) (C := RX5) (T := TX5) (N := 2) hx hb hts hIX5 hown hK hP 1 rfl rfl 1 (by decide) (va_Nw.use rfl (nw_at hN 10 rfl)) (fun _ h9 => h9) rfl dX8_feed_4 ?_
  refine lv_bipush (v := 20) hx hb dX8_feed_7 (by decide) ?_
  refine lv_iadd hx hb dX8_feed_9 ?_
  refine lv_topi (fun x_1 ex_1 => ?_)
  obtain rfl : x_1 = 20 := ex_1.trans (by decide)
  refine lv_sipush (v := 200) hx hb dX8_feed_10 (by decide) ?_
  refine lv_icmp_le (tgt := 18) hx hb dX8_feed_13 (by decide) (fun c_2 => ?_) (fun c_2 => absurd (by decide) c_2)
  refine lv_aload_n hx hb dX8_feed_18 rfl (lv_at hl 0 rfl) ?_
  refine va_get (D := (dC, dI)) (ci := 8) (v := .ref hTape) (C := RX8) (T := TX8) (N := 17) hx hb hts hIX8 hown hK hP 0 rfl rfl 3 (by decide) (hts (.fieldLink RX8 30 "TraitHouse" "tape" "LTraitHouse$Tape;") (by decide +kernel)) (fun _ h9 => h9) rfl dX8_feed_19 ?_
  refine lv_iload_n hx hb dX8_feed_22 rfl (lv_at hl 1 rfl) ?_
  have hk_3 : (0 : Int32).toInt = 0 := by decide
  have hPc := hP.sub (ws' := [(hTape, .inr (5, [.ref aB, .int 0])), (aB, .inl (cB, 200, .inl (fun _ => 0)))]) [1, 2] rfl
  have hDc := hD.sub (ws' := [(hTape, .inr (5, [.ref aB, .int 0])), (aB, .inl (cB, 200, .inl (fun _ => 0)))]) [1, 2] (by decide) rfl
  have hKc := hK.sub (tys' := [(cB, .int)]) [0] rfl
  have hFc := va_free (wc := [(hTape, .inr (5, [.ref aB, .int 0])), (aB, .inl (cB, 200, .inl (fun _ => 0)))]) hD hS hA [1, 2] rfl
  refine va_callv (va_runVN (As := [.int a]) (rest := []) ⟨hx, hb, hml, hown, hts⟩ (c_X5_append l dC dI s.heap.size hTape aB cB (fun _ => 0) 0 a (by omega) (by omega)) ⟨(va_cnB 1 hts gX8_feed_X5_append_n145 rfl rfl rfl (nw_at hN 44 rfl) (hts (.initialized RX5) (by decide +kernel)) (by decide +kernel) ⟨Nat.le_of_ble_eq_true rfl, Nat.le_of_ble_eq_true rfl⟩), (hts (.instanceMethod yX5_append) (by decide +kernel)), (hts (.selects RX5 yX5_append yX5_append) (by decide +kernel))⟩ ⟨fun a U g mk q => by obtain ⟨q0, q1, qP, qK, qD, qN⟩ := q; exact ⟨q0, q1, qP, va_K.moved (u := U) (U := U.calling g mk a) (Vm.Alike.refl U.vm) qK, qD, qN.same rfl⟩, va_recv hKc hPc (ci := 5) (q0 := 0) rfl rfl, fun U hU hW => ⟨rfl, by rw [hU], by rw [hU]; exact hPc, va_K.moved hW.alike hKc, hDc.weaken (fun _ _ _ _ => trivial), hN.warm hW⟩⟩ rfl rfl hl.1 rfl (lv_room (Nat.le_of_ble_eq_true rfl)) dX8_feed_23 ⟨Nat.le_of_ble_eq_true rfl, Nat.le_of_ble_eq_true rfl⟩) hS (fun q _ h => hFc q h) hFc (fun u_4 t H1 locs ht hvm hw_5 hB hz1 hk1 hS => ?_)
  obtain ⟨w_6, w_7⟩ := u_4
  try dsimp only at hw_5
  obtain ⟨hP1, hK1, hD1⟩ := hB
  rw [ht] at hP1
  have hK1 := va_K.moved hvm.symm hK1
  obtain ⟨hP, hD⟩ := va_join (wr := [(h0, .inr (8, [.ref hRows, .ref hMer, .ref hEra, .ref hTape, .ref hRea, .ref hTra, .ref hWor, .ref hPla, .ref hMod, .ref hHe1, .ref hHe2, .int 0, .int 0, .int 0, .int 0, .int (-1), .int 0]))]) (w1 := [(hTape, .inr (5, [.ref aB, .int w_6])), (aB, .inl (cB, 200, .inl w_7))]) hP hD [1, 2] [0] rfl rfl (by decide) (by decide) hk1 hFc hP1 hD1
  have hK := (hK.sub (tys' := [(cB, .int)]) [0] rfl).app hK1
  generalize H1 = H at hP hS ⊢
  have hP : va_P (dC, dI) vwCl [(h0, .inr (8, [.ref hRows, .ref hMer, .ref hEra, .ref hTape, .ref hRea, .ref hTra, .ref hWor, .ref hPla, .ref hMod, .ref hHe1, .ref hHe2, .int 0, .int 0, .int 0, .int 0, .int (-1), .int 0])), (hTape, .inr (5, [.ref aB, .int w_6])), (aB, .inl (cB, 200, .inl w_7))] H := hP
  have hD : va_D A [(h0, .inr (8, [.ref hRows, .ref hMer, .ref hEra, .ref hTape, .ref hRea, .ref hTra, .ref hWor, .ref hPla, .ref hMod, .ref hHe1, .ref hHe2, .int 0, .int 0, .int 0, .int 0, .int (-1), .int 0])), (hTape, .inr (5, [.ref aB, .int w_6])), (aB, .inl (cB, 200, .inl w_7))] := hD
  have hK : va_K (dC, dI) vwCl [(cB, .int), (cB, .int)] s := hK
  refine lv_aload_n hx hb dX8_feed_26 rfl (lv_at hl 0 rfl) ?_
  refine va_get (D := (dC, dI)) (ci := 8) (v := .ref hTape) (C := RX8) (T := TX8) (N := 17) hx hb hts hIX8 hown hK hP 0 rfl rfl 3 (by decide) (hts (.fieldLink RX8 30 "TraitHouse" "tape" "LTraitHouse$Tape;") (by decide +kernel)) (fun _ h9 => h9) rfl dX8_feed_27 ?_
  refine lv_iload_n hx hb dX8_feed_30 rfl (lv_at hl 2 rfl) ?_
  have hPc := hP.sub (ws' := [(hTape, .inr (5, [.ref aB, .int w_6])), (aB, .inl (cB, 200, .inl w_7))]) [1, 2] rfl
  have hDc := hD.sub (ws' := [(hTape, .inr (5, [.ref aB, .int w_6])), (aB, .inl (cB, 200, .inl w_7))]) [1, 2] (by decide) rfl
  have hKc := hK.sub (tys' := [(cB, .int)]) [0] rfl
  have hFc := va_free (wc := [(hTape, .inr (5, [.ref aB, .int w_6])), (aB, .inl (cB, 200, .inl w_7))]) hD hS hA [1, 2] rfl
  refine va_callv (va_runVN (As := [.int b]) (rest := []) ⟨hx, hb, hml, hown, hts⟩ (c_X5_append l dC dI H.size hTape aB cB w_7 w_6 b (by omega) (by omega)) ⟨(va_cnB 1 hts gX8_feed_X5_append_n145 rfl rfl rfl (nw_at hN 44 rfl) (hts (.initialized RX5) (by decide +kernel)) (by decide +kernel) ⟨Nat.le_of_ble_eq_true rfl, Nat.le_of_ble_eq_true rfl⟩), (hts (.instanceMethod yX5_append) (by decide +kernel)), (hts (.selects RX5 yX5_append yX5_append) (by decide +kernel))⟩ ⟨fun a U g mk q => by obtain ⟨q0, q1, qP, qK, qD, qN⟩ := q; exact ⟨q0, q1, qP, va_K.moved (u := U) (U := U.calling g mk a) (Vm.Alike.refl U.vm) qK, qD, qN.same rfl⟩, va_recv hKc hPc (ci := 5) (q0 := 0) rfl rfl, fun U hU hW => ⟨rfl, by rw [hU], by rw [hU]; exact hPc, va_K.moved hW.alike hKc, hDc.weaken (fun _ _ _ _ => trivial), hN.warm hW⟩⟩ rfl rfl hl.1 rfl (lv_room (Nat.le_of_ble_eq_true rfl)) dX8_feed_31 ⟨Nat.le_of_ble_eq_true rfl, Nat.le_of_ble_eq_true rfl⟩) hS (fun q _ h => hFc q h) hFc (fun u_8 t H1 locs ht hvm hw_9 hB hz1 hk1 hS => ?_)
  obtain ⟨w_10, w_11⟩ := u_8
  try dsimp only at hw_9
  obtain ⟨hP1, hK1, hD1⟩ := hB
  rw [ht] at hP1
  have hK1 := va_K.moved hvm.symm hK1
  obtain ⟨hP, hD⟩ := va_join (wr := [(h0, .inr (8, [.ref hRows, .ref hMer, .ref hEra, .ref hTape, .ref hRea, .ref hTra, .ref hWor, .ref hPla, .ref hMod, .ref hHe1, .ref hHe2, .int 0, .int 0, .int 0, .int 0, .int (-1), .int 0]))]) (w1 := [(hTape, .inr (5, [.ref aB, .int w_10])), (aB, .inl (cB, 200, .inl w_11))]) hP hD [1, 2] [0] rfl rfl (by decide) (by decide) hk1 hFc hP1 hD1
  have hK := (hK.sub (tys' := [(cB, .int), (cB, .int)]) [0, 1] rfl).app hK1
  generalize H1 = H at hP hS ⊢
  have hP : va_P (dC, dI) vwCl [(h0, .inr (8, [.ref hRows, .ref hMer, .ref hEra, .ref hTape, .ref hRea, .ref hTra, .ref hWor, .ref hPla, .ref hMod, .ref hHe1, .ref hHe2, .int 0, .int 0, .int 0, .int 0, .int (-1), .int 0])), (hTape, .inr (5, [.ref aB, .int w_10])), (aB, .inl (cB, 200, .inl w_11))] H := hP
  have hD : va_D A [(h0, .inr (8, [.ref hRows, .ref hMer, .ref hEra, .ref hTape, .ref hRea, .ref hTra, .ref hWor, .ref hPla, .ref hMod, .ref hHe1, .ref hHe2, .int 0, .int 0, .int 0, .int 0, .int (-1), .int 0])), (hTape, .inr (5, [.ref aB, .int w_10])), (aB, .inl (cB, 200, .inl w_11))] := hD
  have hK : va_K (dC, dI) vwCl [(cB, .int), (cB, .int), (cB, .int)] s := hK
  refine lv_aload_n hx hb dX8_feed_34 rfl (lv_at hl 0 rfl) ?_
  refine va_get (D := (dC, dI)) (ci := 8) (v := .ref hTape) (C := RX8) (T := TX8) (N := 17) hx hb hts hIX8 hown hK hP 0 rfl rfl 3 (by decide) (hts (.fieldLink RX8 30 "TraitHouse" "tape" "LTraitHouse$Tape;") (by decide +kernel)) (fun _ h9 => h9) rfl dX8_feed_35 ?_
  refine lv_iload_n hx hb dX8_feed_38 rfl (lv_at hl 3 rfl) ?_
  have hPc := hP.sub (ws' := [(hTape, .inr (5, [.ref aB, .int w_10])), (aB, .inl (cB, 200, .inl w_11))]) [1, 2] rfl
  have hDc := hD.sub (ws' := [(hTape, .inr (5, [.ref aB, .int w_10])), (aB, .inl (cB, 200, .inl w_11))]) [1, 2] (by decide) rfl
  have hKc := hK.sub (tys' := [(cB, .int)]) [0] rfl
  have hFc := va_free (wc := [(hTape, .inr (5, [.ref aB, .int w_10])), (aB, .inl (cB, 200, .inl w_11))]) hD hS hA [1, 2] rfl
  refine va_callv (va_runVN (As := [.int d]) (rest := []) ⟨hx, hb, hml, hown, hts⟩ (c_X5_append l dC dI H.size hTape aB cB w_11 w_10 d (by omega) (by omega)) ⟨(va_cnB 1 hts gX8_feed_X5_append_n145 rfl rfl rfl (nw_at hN 44 rfl) (hts (.initialized RX5) (by decide +kernel)) (by decide +kernel) ⟨Nat.le_of_ble_eq_true rfl, Nat.le_of_ble_eq_true rfl⟩), (hts (.instanceMethod yX5_append) (by decide +kernel)), (hts (.selects RX5 yX5_append yX5_append) (by decide +kernel))⟩ ⟨fun a U g mk q => by obtain ⟨q0, q1, qP, qK, qD, qN⟩ := q; exact ⟨q0, q1, qP, va_K.moved (u := U) (U := U.calling g mk a) (Vm.Alike.refl U.vm) qK, qD, qN.same rfl⟩, va_recv hKc hPc (ci := 5) (q0 := 0) rfl rfl, fun U hU hW => ⟨rfl, by rw [hU], by rw [hU]; exact hPc, va_K.moved hW.alike hKc, hDc.weaken (fun _ _ _ _ => trivial), hN.warm hW⟩⟩ rfl rfl hl.1 rfl (lv_room (Nat.le_of_ble_eq_true rfl)) dX8_feed_39 ⟨Nat.le_of_ble_eq_true rfl, Nat.le_of_ble_eq_true rfl⟩) hS (fun q _ h => hFc q h) hFc (fun u_12 t H1 locs ht hvm hw_13 hB hz1 hk1 hS => ?_)
  obtain ⟨w_14, w_15⟩ := u_12
  try dsimp only at hw_13
  obtain ⟨hP1, hK1, hD1⟩ := hB
  rw [ht] at hP1
  have hK1 := va_K.moved hvm.symm hK1
  obtain ⟨hP, hD⟩ := va_join (wr := [(h0, .inr (8, [.ref hRows, .ref hMer, .ref hEra, .ref hTape, .ref hRea, .ref hTra, .ref hWor, .ref hPla, .ref hMod, .ref hHe1, .ref hHe2, .int 0, .int 0, .int 0, .int 0, .int (-1), .int 0]))]) (w1 := [(hTape, .inr (5, [.ref aB, .int w_14])), (aB, .inl (cB, 200, .inl w_15))]) hP hD [1, 2] [0] rfl rfl (by decide) (by decide) hk1 hFc hP1 hD1
  have hK := (hK.sub (tys' := [(cB, .int), (cB, .int), (cB, .int)]) [0, 1, 2] rfl).app hK1
  generalize H1 = H at hP hS ⊢
  have hP : va_P (dC, dI) vwCl [(h0, .inr (8, [.ref hRows, .ref hMer, .ref hEra, .ref hTape, .ref hRea, .ref hTra, .ref hWor, .ref hPla, .ref hMod, .ref hHe1, .ref hHe2, .int 0, .int 0, .int 0, .int 0, .int (-1), .int 0])), (hTape, .inr (5, [.ref aB, .int w_14])), (aB, .inl (cB, 200, .inl w_15))] H := hP
  have hD : va_D A [(h0, .inr (8, [.ref hRows, .ref hMer, .ref hEra, .ref hTape, .ref hRea, .ref hTra, .ref hWor, .ref hPla, .ref hMod, .ref hHe1, .ref hHe2, .int 0, .int 0, .int 0, .int 0, .int (-1), .int 0])), (hTape, .inr (5, [.ref aB, .int w_14])), (aB, .inl (cB, 200, .inl w_15))] := hD
  have hK : va_K (dC, dI) vwCl [(cB, .int), (cB, .int), (cB, .int), (cB, .int)] s := hK
  refine lv_aload_n hx hb dX8_feed_42 rfl (lv_at hl 0 rfl) ?_
  refine va_get (D := (dC, dI)) (ci := 8) (v := .ref hTape) (C := RX8) (T := TX8) (N := 17) hx hb hts hIX8 hown hK hP 0 rfl rfl 3 (by decide) (hts (.fieldLink RX8 30 "TraitHouse" "tape" "LTraitHouse$Tape;") (by decide +kernel)) (fun _ h9 => h9) rfl dX8_feed_43 ?_
  refine lv_iload hx hb dX8_feed_46 (lv_at hl 4 rfl) ?_
  have hPc := hP.sub (ws' := [(hTape, .inr (5, [.ref aB, .int w_14])), (aB, .inl (cB, 200, .inl w_15))]) [1, 2] rfl
  have hDc := hD.sub (ws' := [(hTape, .inr (5, [.ref aB, .int w_14])), (aB, .inl (cB, 200, .inl w_15))]) [1, 2] (by decide) rfl
  have hKc := hK.sub (tys' := [(cB, .int)]) [0] rfl
  have hFc := va_free (wc := [(hTape, .inr (5, [.ref aB, .int w_14])), (aB, .inl (cB, 200, .inl w_15))]) hD hS hA [1, 2] rfl
  refine va_callv (va_runVN (As := [.int e1]) (rest := []) ⟨hx, hb, hml, hown, hts⟩ (c_X5_append l dC dI H.size hTape aB cB w_15 w_14 e1 (by omega) (by omega)) ⟨(va_cnB 1 hts gX8_feed_X5_append_n145 rfl rfl rfl (nw_at hN 44 rfl) (hts (.initialized RX5) (by decide +kernel)) (by decide +kernel) ⟨Nat.le_of_ble_eq_true rfl, Nat.le_of_ble_eq_true rfl⟩), (hts (.instanceMethod yX5_append) (by decide +kernel)), (hts (.selects RX5 yX5_append yX5_append) (by decide +kernel))⟩ ⟨fun a U g mk q => by obtain ⟨q0, q1, qP, qK, qD, qN⟩ := q; exact ⟨q0, q1, qP, va_K.moved (u := U) (U := U.calling g mk a) (Vm.Alike.refl U.vm) qK, qD, qN.same rfl⟩, va_recv hKc hPc (ci := 5) (q0 := 0) rfl rfl, fun U hU hW => ⟨rfl, by rw [hU], by rw [hU]; exact hPc, va_K.moved hW.alike hKc, hDc.weaken (fun _ _ _ _ => trivial), hN.warm hW⟩⟩ rfl rfl hl.1 rfl (lv_room (Nat.le_of_ble_eq_true rfl)) dX8_feed_48 ⟨Nat.le_of_ble_eq_true rfl, Nat.le_of_ble_eq_true rfl⟩) hS (fun q _ h => hFc q h) hFc (fun u_16 t H1 locs ht hvm hw_17 hB hz1 hk1 hS => ?_)
  obtain ⟨w_18, w_19⟩ := u_16
  try dsimp only at hw_17
  obtain ⟨hP1, hK1, hD1⟩ := hB
  rw [ht] at hP1
  have hK1 := va_K.moved hvm.symm hK1
  obtain ⟨hP, hD⟩ := va_join (wr := [(h0, .inr (8, [.ref hRows, .ref hMer, .ref hEra, .ref hTape, .ref hRea, .ref hTra, .ref hWor, .ref hPla, .ref hMod, .ref hHe1, .ref hHe2, .int 0, .int 0, .int 0, .int 0, .int (-1), .int 0]))]) (w1 := [(hTape, .inr (5, [.ref aB, .int w_18])), (aB, .inl (cB, 200, .inl w_19))]) hP hD [1, 2] [0] rfl rfl (by decide) (by decide) hk1 hFc hP1 hD1
  have hK := (hK.sub (tys' := [(cB, .int), (cB, .int), (cB, .int), (cB, .int)]) [0, 1, 2, 3] rfl).app hK1
  generalize H1 = H at hP hS ⊢
  have hP : va_P (dC, dI) vwCl [(h0, .inr (8, [.ref hRows, .ref hMer, .ref hEra, .ref hTape, .ref hRea, .ref hTra, .ref hWor, .ref hPla, .ref hMod, .ref hHe1, .ref hHe2, .int 0, .int 0, .int 0, .int 0, .int (-1), .int 0])), (hTape, .inr (5, [.ref aB, .int w_18])), (aB, .inl (cB, 200, .inl w_19))] H := hP
  have hD : va_D A [(h0, .inr (8, [.ref hRows, .ref hMer, .ref hEra, .ref hTape, .ref hRea, .ref hTra, .ref hWor, .ref hPla, .ref hMod, .ref hHe1, .ref hHe2, .int 0, .int 0, .int 0, .int 0, .int (-1), .int 0])), (hTape, .inr (5, [.ref aB, .int w_18])), (aB, .inl (cB, 200, .inl w_19))] := hD
  have hK : va_K (dC, dI) vwCl [(cB, .int), (cB, .int), (cB, .int), (cB, .int), (cB, .int)] s := hK
  refine lv_aload_n hx hb dX8_feed_51 rfl (lv_at hl 0 rfl) ?_
  refine va_get (D := (dC, dI)) (ci := 8) (v := .ref hTape) (C := RX8) (T := TX8) (N := 17) hx hb hts hIX8 hown hK hP 0 rfl rfl 3 (by decide) (hts (.fieldLink RX8 30 "TraitHouse" "tape" "LTraitHouse$Tape;") (by decide +kernel)) (fun _ h9 => h9) rfl dX8_feed_52 ?_
  refine lv_iload hx hb dX8_feed_55 (lv_at hl 5 rfl) ?_
  have hPc := hP.sub (ws' := [(hTape, .inr (5, [.ref aB, .int w_18])), (aB, .inl (cB, 200, .inl w_19))]) [1, 2] rfl
  have hDc := hD.sub (ws' := [(hTape, .inr (5, [.ref aB, .int w_18])), (aB, .inl (cB, 200, .inl w_19))]) [1, 2] (by decide) rfl
  have hKc := hK.sub (tys' := [(cB, .int)]) [0] rfl
  have hFc := va_free (wc := [(hTape, .inr (5, [.ref aB, .int w_18])), (aB, .inl (cB, 200, .inl w_19))]) hD hS hA [1, 2] rfl
  refine va_callv (va_runVN (As := [.int e2]) (rest := []) ⟨hx, hb, hml, hown, hts⟩ (c_X5_append l dC dI H.size hTape aB cB w_19 w_18 e2 (by omega) (by omega)) ⟨(va_cnB 1 hts gX8_feed_X5_append_n145 rfl rfl rfl (nw_at hN 44 rfl) (hts (.initialized RX5) (by decide +kernel)) (by decide +kernel) ⟨Nat.le_of_ble_eq_true rfl, Nat.le_of_ble_eq_true rfl⟩), (hts (.instanceMethod yX5_append) (by decide +kernel)), (hts (.selects RX5 yX5_append yX5_append) (by decide +kernel))⟩ ⟨fun a U g mk q => by obtain ⟨q0, q1, qP, qK, qD, qN⟩ := q; exact ⟨q0, q1, qP, va_K.moved (u := U) (U := U.calling g mk a) (Vm.Alike.refl U.vm) qK, qD, qN.same rfl⟩, va_recv hKc hPc (ci := 5) (q0 := 0) rfl rfl, fun U hU hW => ⟨rfl, by rw [hU], by rw [hU]; exact hPc, va_K.moved hW.alike hKc, hDc.weaken (fun _ _ _ _ => trivial), hN.warm hW⟩⟩ rfl rfl hl.1 rfl (lv_room (Nat.le_of_ble_eq_true rfl)) dX8_feed_57 ⟨Nat.le_of_ble_eq_true rfl, Nat.le_of_ble_eq_true rfl⟩) hS (fun q _ h => hFc q h) hFc (fun u_20 t H1 locs ht hvm hw_21 hB hz1 hk1 hS => ?_)
  obtain ⟨w_22, w_23⟩ := u_20
  try dsimp only at hw_21
  obtain ⟨hP1, hK1, hD1⟩ := hB
  rw [ht] at hP1
  have hK1 := va_K.moved hvm.symm hK1
  obtain ⟨hP, hD⟩ := va_join (wr := [(h0, .inr (8, [.ref hRows, .ref hMer, .ref hEra, .ref hTape, .ref hRea, .ref hTra, .ref hWor, .ref hPla, .ref hMod, .ref hHe1, .ref hHe2, .int 0, .int 0, .int 0, .int 0, .int (-1), .int 0]))]) (w1 := [(hTape, .inr (5, [.ref aB, .int w_22])), (aB, .inl (cB, 200, .inl w_23))]) hP hD [1, 2] [0] rfl rfl (by decide) (by decide) hk1 hFc hP1 hD1
  have hK := (hK.sub (tys' := [(cB, .int), (cB, .int), (cB, .int), (cB, .int), (cB, .int)]) [0, 1, 2, 3, 4] rfl).app hK1
  generalize H1 = H at hP hS ⊢
  have hP : va_P (dC, dI) vwCl [(h0, .inr (8, [.ref hRows, .ref hMer, .ref hEra, .ref hTape, .ref hRea, .ref hTra, .ref hWor, .ref hPla, .ref hMod, .ref hHe1, .ref hHe2, .int 0, .int 0, .int 0, .int 0, .int (-1), .int 0])), (hTape, .inr (5, [.ref aB, .int w_22])), (aB, .inl (cB, 200, .inl w_23))] H := hP
  have hD : va_D A [(h0, .inr (8, [.ref hRows, .ref hMer, .ref hEra, .ref hTape, .ref hRea, .ref hTra, .ref hWor, .ref hPla, .ref hMod, .ref hHe1, .ref hHe2, .int 0, .int 0, .int 0, .int 0, .int (-1), .int 0])), (hTape, .inr (5, [.ref aB, .int w_22])), (aB, .inl (cB, 200, .inl w_23))] := hD
  have hK : va_K (dC, dI) vwCl [(cB, .int), (cB, .int), (cB, .int), (cB, .int), (cB, .int), (cB, .int)] s := hK
  refine lv_aload_n hx hb dX8_feed_60 rfl (lv_at hl 0 rfl) ?_
  refine va_get (D := (dC, dI)) (ci := 8) (v := .ref hTape) (C := RX8) (T := TX8) (N := 17) hx hb hts hIX8 hown hK hP 0 rfl rfl 3 (by decide) (hts (.fieldLink RX8 30 "TraitHouse" "tape" "LTraitHouse$Tape;") (by decide +kernel)) (fun _ h9 => h9) rfl dX8_feed_61 ?_
  refine va_getN (D := (dC, dI)) (ci := 5) (v := .int w_22) (C := RX5) (T := TX5) (N := 2) hx hb hts hIX5 hown hK hP 1 rfl rfl 1 (by decide) (va_Nw.use rfl (nw_at hN 10 rfl)) (fun _ h9 => h9) rfl dX8_feed_64 ?_
  have hans : (w_22 : Int32).toInt = w_22.toInt := rfl
  exact W.iret (v := w_22) hx hb hr (fun t ht hW => ⟨⟨w_22, (), rfl, by first | omega | (dsimp only; omega), trivial⟩, hS.F ht⟩) hS.2.2 dX8_feed_67
end
section
theorem dJ7_fill_53178_0 : decode cJ7_fill_53178 0 = .ok (.iconst 0, 1) := by decide +kernel
theorem dJ7_fill_53178_1 : decode cJ7_fill_53178 1 = .ok (.istore_n 2, 1) := by decide +kernel
theorem dJ7_fill_53178_2 : decode cJ7_fill_53178 2 = .ok (.aload_n 0, 1) := by decide +kernel
theorem dJ7_fill_53178_3 : decode cJ7_fill_53178 3 = .ok (.arraylength, 1) := by decide +kernel
theorem dJ7_fill_53178_4 : decode cJ7_fill_53178 4 = .ok (.istore_n 3, 1) := by decide +kernel
theorem dJ7_fill_53178_5 : decode cJ7_fill_53178 5 = .ok (.iload_n 2, 1) := by decide +kernel
theorem dJ7_fill_53178_6 : decode cJ7_fill_53178 6 = .ok (.iload_n 3, 1) := by decide +kernel
theorem dJ7_fill_53178_7 : decode cJ7_fill_53178 7 = .ok (.if_icmp .ge 13, 3) := by decide +kernel
theorem dJ7_fill_53178_20 : decode cJ7_fill_53178 20 = .ok (.return_, 1) := by decide +kernel
theorem dJ7_fill_53178_10 : decode cJ7_fill_53178 10 = .ok (.aload_n 0, 1) := by decide +kernel
theorem dJ7_fill_53178_11 : decode cJ7_fill_53178 11 = .ok (.iload_n 2, 1) := by decide +kernel
theorem dJ7_fill_53178_12 : decode cJ7_fill_53178 12 = .ok (.iload_n 1, 1) := by decide +kernel
theorem dJ7_fill_53178_13 : decode cJ7_fill_53178 13 = .ok (.iastore, 1) := by decide +kernel
theorem dJ7_fill_53178_14 : decode cJ7_fill_53178 14 = .ok (.iinc 2 1, 3) := by decide +kernel
theorem dJ7_fill_53178_17 : decode cJ7_fill_53178 17 = .ok (.goto (-12), 3) := by decide +kernel
theorem dX5_init_0 : decode cX5_init 0 = .ok (.aload_n 0, 1) := by decide +kernel
theorem dX5_init_1 : decode cX5_init 1 = .ok (.invokespecial 3, 3) := by decide +kernel
theorem dX5_init_4 : decode cX5_init 4 = .ok (.aload_n 0, 1) := by decide +kernel
theorem dX5_init_5 : decode cX5_init 5 = .ok (.sipush 200, 3) := by decide +kernel
theorem dX5_init_8 : decode cX5_init 8 = .ok (.newarray .int, 2) := by decide +kernel
theorem dX5_init_10 : decode cX5_init 10 = .ok (.putfield 9, 3) := by decide +kernel
theorem dX5_init_13 : decode cX5_init 13 = .ok (.return_, 1) := by decide +kernel
theorem jnb_int {N : Nat} (h : N ≤ 100000) : N * componentBytes .int ≤ 536870912 := by
  have e : componentBytes .int = 4 := rfl
  rw [e]; omega
theorem jnb_boolean {N : Nat} (h : N ≤ 100000) : N * componentBytes .boolean ≤ 536870912 := by
  have e : componentBytes .boolean = 1 := rfl
  rw [e]; omega
theorem jnb_byte {N : Nat} (h : N ≤ 100000) : N * componentBytes .byte ≤ 536870912 := by
  have e : componentBytes .byte = 1 := rfl
  rw [e]; omega
theorem jnb_long {N : Nat} (h : N ≤ 100000) : N * componentBytes .long ≤ 536870912 := by
  have e : componentBytes .long = 8 := rfl
  rw [e]; omega
theorem jnew_int (N : Nat) : ∀ cA : ClassId, vp_cell cA (N, .inl (fun _ => 0)) = arrV cA N (fun _ => defaultValue .int) := fun _ => rfl
theorem jnew_boolean (N : Nat) : ∀ cA : ClassId, vp_cell cA (N, .inl (fun _ => 0)) = arrV cA N (fun _ => defaultValue .boolean) := fun _ => rfl
theorem jnew_byte (N : Nat) : ∀ cA : ClassId, vp_cell cA (N, .inl (fun _ => 0)) = arrV cA N (fun _ => defaultValue .byte) := fun _ => rfl
theorem jnew_long (N : Nat) : ∀ cA : ClassId, vp_cell cA (N, .inr (.inl (fun _ => 0))) = arrV cA N (fun _ => defaultValue .long) := fun _ => rfl

set_option maxHeartbeats 4000000 in
set_option maxRecDepth 100000 in
theorem c_J7_fill_53178 (l : Launch) (dC : Nat → ClassId) (dI : Nat → Nat → Nat) (sz : Nat) (a : Nat) (cA : ClassId) (f : Nat → Int32) (v : Int32)  : Met l yJ7_fill_53178 wsJ7_fill_53178 ({ frames := 0, cells := 0, slots := 0, locals := 0 }) (va_Pc [.ref a, .int v] (fun U => U.heap.size = sz ∧ va_P (dC, dI) vwCl [(a, .inl (cA, 20, .inl f))] U.heap ∧ va_K (dC, dI) vwCl [(cA, .int)] U ∧ va_D (fun _ => True) [(a, .inl (cA, 20, .inl f))] ∧ nw_ok U)) (va_Qv (fun (u : (Nat → Int32)) => ∀ k : Nat, k < 20 → u k = v) (fun (u : (Nat → Int32)) (t : State) => va_P (dC, dI) vwCl [(a, .inl (cA, 20, .inl u))] t.heap ∧ va_K (dC, dI) vwCl [(cA, .int)] t ∧ va_D (va_A [(a, .inl (cA, 20, .inl f))] sz) [(a, .inl (cA, 20, .inl u))]) (va_A [(a, .inl (cA, 20, .inl f))] sz)) 0 0 (va_A [(a, .inl (cA, 20, .inl f))] sz) := by
  refine Met.ofW (cc := cJ7_fill_53178) (maxL := 4) (ret := none) (by decide) rfl ?_
  intro p e s m args below meth c s₁ B hml hv
  obtain ⟨rfl, hsz, hP, hK, hD0, hN⟩ := hv
  have hx := B.exec
  have hb := B.bytes
  have hr := B.returns
  have hts := atoms_spec (ws := wsJ7_fill_53178) B.pre
  have hown : s.vm.findClass RJ7 = some m.cls := findClass_of_methodNamed B.named
  have hlocks := B.notSynchronized
  subst hsz
  have hD := hD0.self (sz := s.heap.size)
  generalize hAe : va_A [(a, .inl (cA, 20, .inl f))] s.heap.size = A at hD ⊢
  have hA : ∀ q : Nat, s.heap.size ≤ q → A q := fun q h => by rw [← hAe]; exact Or.inr h
  have hS : va_S A s.heap s.heap [] := va_S.rf
  have hP : va_P (dC, dI) vwCl [(a, .inl (cA, 20, .inl f))] s.heap := hP
  have hl := lv_entry ([.ref a, .int v]) (n := 4) (Nat.le_of_ble_eq_true rfl)
  rw [lg_entry_eq]
  generalize (lg_sl ([.ref a, .int v]) ++ List.replicate (4 - (lg_sl ([.ref a, .int v])).length) Slot.unset).toArray = ls at hl ⊢
  have hl : lv_has ls 4 [(0, .ref a), (1, .int v)] := hl
  generalize hQe : MQ below _ _ _ _ _ _ = QQ
  refine lv_iconst (v := 0) hx hb dJ7_fill_53178_0 (by decide) ?_
  refine lv_istore_n (lv' := [(2, .int 0), (0, .ref a), (1, .int v)]) hx hb dJ7_fill_53178_1 rfl hl (by decide) rfl (fun ls hl => ?_)
  refine lv_aload_n hx hb dJ7_fill_53178_2 rfl (lv_at hl 1 rfl) ?_
  refine va_alen (v := 20) hx hb hK hP 0 0 rfl rfl (by first | rfl | decide) dJ7_fill_53178_3 ?_
  refine lv_istore_n (lv' := [(3, .int 20), (2, .int 0), (0, .ref a), (1, .int v)]) hx hb dJ7_fill_53178_4 rfl hl (by decide) rfl (fun ls hl => ?_)
  have loop : ∀ (n : Nat) (i5 : Int32) (g_a : Nat → Int32) (H : Heap) (locs : List Loc) (ls : Array Slot), 0 ≤ i5.toInt → i5.toInt ≤ 20 → 20 < i5.toInt + n → (∀ k : Nat, (k : Int) < i5.toInt → g_a k = v) → va_P (dC, dI) vwCl [(a, .inl (cA, 20, .inl g_a))] H → va_D A [(a, .inl (cA, 20, .inl g_a))] → va_S A s.heap H locs → lv_has ls 4 [(3, .int 20), (2, .int i5), (0, .ref a), (1, .int v)] → W p l e ({ frames := 0, cells := 0, slots := 0, locals := 0 }) s m ([.ref a, .int v] : List Value).toArray below meth c H locs 0 0 QQ (F0 m 5 ls []) := by
    intro n
    induction n with
    | zero => intro i5 g_a H locs ls hi0 hi1 hi2; exfalso; omega
    | succ n ih =>
      intro i5 g_a H locs ls hi0 hi1 hi2 hv0 hP hD hS hl
      refine lv_iload_n hx hb dJ7_fill_53178_5 rfl (lv_at hl 1 rfl) ?_
      refine lv_iload_n hx hb dJ7_fill_53178_6 rfl (lv_at hl 0 rfl) ?_
      refine lv_icmp_ge (tgt := 20) hx hb dJ7_fill_53178_7 (by decide) (fun c_1 => ?_) (fun c_1 => ?_)
      · have dc_1 : 20 ≤ i5.toInt := jI_le c_1 (by decide) rfl
        have hP9 := hP.sub (ws' := [(a, .inl (cA, 20, .inl g_a))]) [0] rfl
        have hD9 := hD.sub (ws' := [(a, .inl (cA, 20, .inl g_a))]) [0] (by decide) rfl
        have hK9 := hK.sub (tys' := [(cA, .int)]) [0] rfl
        subst hQe
        exact W.vret hx hb hr (fun t ht hW => ⟨⟨g_a, rfl, by intro k hk; exact hv0 k (by omega), by rw [ht]; exact hP9, va_K.moved hW.alike hK9, hD9⟩, hS.F ht⟩) hS.2.2 dJ7_fill_53178_20
      · have dc_1 : i5.toInt < 20 := jI_nle c_1 (by decide) rfl
        refine lv_aload_n hx hb dJ7_fill_53178_10 rfl (lv_at hl 2 rfl) ?_
        refine lv_iload_n hx hb dJ7_fill_53178_11 rfl (lv_at hl 1 rfl) ?_
        refine lv_iload_n hx hb dJ7_fill_53178_12 rfl (lv_at hl 3 rfl) ?_
        have h_2 : vp_in i5 20 := (vp_in_iff.mpr ⟨by omega, by omega⟩)
        refine va_iast hx hb hK hP hD hS 0 0 rfl rfl h_2 dJ7_fill_53178_13 (fun H locs hP hD hS => ?_)
        have hP : va_P (dC, dI) vwCl [(a, .inl (cA, 20, .inl (upd g_a i5.toNatClampNeg v)))] H := hP
        have hD : va_D A [(a, .inl (cA, 20, .inl (upd g_a i5.toNatClampNeg v)))] := hD
        obtain ⟨g_3, eg_3⟩ : ∃ g : Nat → Int32, g = upd g_a i5.toNatClampNeg v := ⟨_, rfl⟩
        rw [← eg_3] at hP hD
        obtain ⟨x_4, ex_4⟩ : ∃ y : Int32, y = i5 + 1 := ⟨_, rfl⟩
        have dx_4 : x_4.toInt = i5.toInt + 1 := by rw [ex_4]; exact jI_add rfl (by decide) (by omega) (by omega)
        refine lv_iinc (v := x_4) (lv' := [(2, .int x_4), (3, .int 20), (0, .ref a), (1, .int v)]) hx hb dJ7_fill_53178_14 hl (k := 1) rfl (by rw [ex_4]; rfl) (by decide) rfl (fun ls hl => ?_)
        refine lv_goto (tgt := 5) hx hb dJ7_fill_53178_17 (by decide) ?_
        exact ih x_4 g_3 _ _ ls (by omega) (by omega) (by omega) (jfill hv0 eg_3 hi0 (by omega))  (hP.sub [0] rfl) (hD.sub [0] (by decide) rfl) hS (lv_sub hl [1, 0, 2, 3] rfl)
  exact loop 21 0 f _ _ ls (by decide) (by decide) (by decide) (fun k hk => absurd hk (by simp))  hP hD hS (lv_sub hl [0, 1, 2, 3] rfl)

set_option maxHeartbeats 4000000 in
set_option maxRecDepth 100000 in
theorem c_X5_init (l : Launch) (dC : Nat → ClassId) (dI : Nat → Nat → Nat) (sz : Nat) (hTape : Nat)  : Met l yX5_init wsX5_init ({ frames := 1, cells := 1, slots := 200, locals := 20 }) (va_Pc [.ref hTape] (fun U => U.heap.size = sz ∧ va_P (dC, dI) vwCl [(hTape, .inr (5, [.null, .int 0]))] U.heap ∧ va_K (dC, dI) vwCl [] U ∧ va_D (fun _ => True) [(hTape, .inr (5, [.null, .int 0]))] ∧ nw_ok U)) (va_Qv (fun (_ : Unit) => True) (fun (_ : Unit) (t : State) => ∃ (aB : Nat) (cB : ClassId), va_P (dC, dI) vwCl [(hTape, .inr (5, [.ref aB, .int 0])), (aB, .inl (cB, 200, .inl (fun _ => 0)))] t.heap ∧ va_K (dC, dI) vwCl [(cB, .int)] t ∧ va_D (va_A [(hTape, .inr (5, [.null, .int 0]))] sz) [(hTape, .inr (5, [.ref aB, .int 0])), (aB, .inl (cB, 200, .inl (fun _ => 0)))]) (va_A [(hTape, .inr (5, [.null, .int 0]))] sz)) 1 200 (va_A [(hTape, .inr (5, [.null, .int 0]))] sz) := by
  refine Met.ofW (cc := cX5_init) (maxL := 1) (ret := none) (by decide) rfl ?_
  intro p e s m args below meth c s₁ B hml hv
  obtain ⟨rfl, hsz, hP, hK, hD0, hN⟩ := hv
  have hx := B.exec
  have hb := B.bytes
  have hr := B.returns
  have hts := atoms_spec (ws := wsX5_init) B.pre
  have hown : s.vm.findClass RX5 = some m.cls := findClass_of_methodNamed B.named
  have hlocks := B.notSynchronized
  have hin : meth.name = "<init>" := (name_of_methodNamed B.named B.method).1
  subst hsz
  have hD := hD0.self (sz := s.heap.size)
  generalize hAe : va_A [(hTape, .inr (5, [.null, .int 0]))] s.heap.size = A at hD ⊢
  have hA : ∀ q : Nat, s.heap.size ≤ q → A q := fun q h => by rw [← hAe]; exact Or.inr h
  have hS : va_S A s.heap s.heap [] := va_S.rf
  have hP : va_P (dC, dI) vwCl [(hTape, .inr (5, [.null, .int 0]))] s.heap := hP
  have hIX5 : ∀ w ∈ u_ws RX5 TX5 2, w ∈ wsX5_init := by decide +kernel
  have hl := lv_entry ([.ref hTape]) (n := 1) (Nat.le_of_ble_eq_true rfl)
  rw [lg_entry_eq]
  generalize (lg_sl ([.ref hTape]) ++ List.replicate (1 - (lg_sl ([.ref hTape])).length) Slot.unset).toArray = ls at hl ⊢
  have hl : lv_has ls 1 [(0, .ref hTape)] := hl
  refine lv_aload_n hx hb dX5_init_0 rfl (lv_at hl 0 rfl) ?_
  refine W.objInit hx hb hown (hts (.methodLink RX5 3 objectInit) (by decide +kernel)) (hts (.instanceMethod objectInit) (by decide +kernel)) (hts (.code objectInit ⟨#[0xb1]⟩ 1 none) (by decide +kernel)) rfl (by rw [hml]; exact hl.1) rfl dX5_init_1 (Nat.le_of_ble_eq_true rfl) (Nat.le_of_ble_eq_true rfl) ?_
  refine W.eq (g2 := F0 m 4 ls []) rfl ?_
  refine lv_aload_n hx hb dX5_init_4 rfl (lv_at hl 0 rfl) ?_
  refine lv_sipush (v := 200) hx hb dX5_init_5 (by decide) ?_
  refine va_newa (atype := .int) (a0 := (200, .inl (fun _ => 0))) (ty := .int) (N' := 200) hx hb (hts (.arrayClass .int) (by decide +kernel)) rfl hK hP hD hS hA (jnew_int 200) (by decide) (by decide) (jnb_int (by decide)) (by decide) (by decide) dX5_init_8 (fun q_1 cA_2 H hK hP hD hS => ?_)
  have hP : va_P (dC, dI) vwCl [(hTape, .inr (5, [.null, .int 0])), (q_1, .inl (cA_2, 200, .inl (fun _ => 0)))] H := hP
  have hD : va_D A [(hTape, .inr (5, [.null, .int 0])), (q_1, .inl (cA_2, 200, .inl (fun _ => 0)))] := hD
  have hK : va_K (dC, dI) vwCl [(cA_2, .int)] s := hK
  refine W.widen (k := 1) (n := 200) (Nat.le_of_ble_eq_true rfl) (Nat.le_of_ble_eq_true rfl) ?_
  refine va_putF (D := (dC, dI)) (ci := 5) (v := .ref q_1) (ty := (.array .int)) (C := RX5) (T := TX5) (N := 2) hx hb hts hIX5 tyX5 tyX5_ok nmX5 hown hK hP hD hS 0 rfl rfl 0 (by decide) (hts (.fieldLink RX5 9 "TraitHouse$Tape" "bytes" "[I") (by decide +kernel)) (fun _ h9 => h9) rfl hin rfl (by decide +kernel) rfl rfl (Nat.le_of_ble_eq_true rfl) dX5_init_10 (fun H locs hP hD hS => ?_)
  have hP : va_P (dC, dI) vwCl [(hTape, .inr (5, [.ref q_1, .int 0])), (q_1, .inl (cA_2, 200, .inl (fun _ => 0)))] H := hP
  have hD : va_D A [(hTape, .inr (5, [.ref q_1, .int 0])), (q_1, .inl (cA_2, 200, .inl (fun _ => 0)))] := hD
  have hP9 := hP.sub (ws' := [(hTape, .inr (5, [.ref q_1, .int 0])), (q_1, .inl (cA_2, 200, .inl (fun _ => 0)))]) [0, 1] rfl
  have hD9 := hD.sub (ws' := [(hTape, .inr (5, [.ref q_1, .int 0])), (q_1, .inl (cA_2, 200, .inl (fun _ => 0)))]) [0, 1] (by decide) rfl
  have hK9 := hK.sub (tys' := [(cA_2, .int)]) [0] rfl
  refine W.widen (k := 1) (n := 200) (Nat.le_of_ble_eq_true rfl) (Nat.le_of_ble_eq_true rfl) ?_
  exact W.vret hx hb hr (fun t ht hW => ⟨⟨(), rfl, trivial, q_1, cA_2, by rw [ht]; exact hP9, va_K.moved hW.alike hK9, hD9⟩, hS.F ht⟩) hS.2.2 dX5_init_13
end
