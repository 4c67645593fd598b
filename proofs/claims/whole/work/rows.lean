section
-- ===== PART A: goes FIRST, ahead of the names: the tables' words, and 'selects' of the private methods out of them =====
/-- a private method of a class that the tables say can be made, by its rows of tables_1 -/
def lw_okq (q : MethodName × Nat) : Prop := (q.1.cls ≠ "java/lang/invoke/MethodHandle" ∧ q.1.cls ≠ "java/lang/invoke/VarHandle") ∧ Cond.instantiable q.1.cls q.2 ∈ tables_1 ∧ Cond.privateMethod q.1 ∈ tables_1 ∧ Cond.instanceMethod q.1 ∈ tables_1
theorem lw_p0 : lw_okq (⟨"AheadRows$Reader", "takes", "(I)Z"⟩, 3) := ⟨⟨by decide +kernel, by decide +kernel⟩, List.mem_of_getElem? (i := 57) (by decide +kernel), List.mem_of_getElem? (i := 245) (by decide +kernel), List.mem_of_getElem? (i := 246) (by decide +kernel)⟩
theorem lw_p1 : lw_okq (⟨"AheadRows$Reader", "takesMark", "(I)Z"⟩, 3) := ⟨⟨by decide +kernel, by decide +kernel⟩, List.mem_of_getElem? (i := 57) (by decide +kernel), List.mem_of_getElem? (i := 249) (by decide +kernel), List.mem_of_getElem? (i := 250) (by decide +kernel)⟩
theorem lw_p2 : lw_okq (⟨"AheadRows$Reader", "isRowWhole", "()Z"⟩, 3) := ⟨⟨by decide +kernel, by decide +kernel⟩, List.mem_of_getElem? (i := 57) (by decide +kernel), List.mem_of_getElem? (i := 268) (by decide +kernel), List.mem_of_getElem? (i := 269) (by decide +kernel)⟩
theorem lw_p3 : lw_okq (⟨"AheadRows$Reader", "takesDivider", "(I)Z"⟩, 3) := ⟨⟨by decide +kernel, by decide +kernel⟩, List.mem_of_getElem? (i := 57) (by decide +kernel), List.mem_of_getElem? (i := 275) (by decide +kernel), List.mem_of_getElem? (i := 276) (by decide +kernel)⟩
theorem lw_p4 : lw_okq (⟨"AheadRows$Reader", "takesNumber", "(I)Z"⟩, 3) := ⟨⟨by decide +kernel, by decide +kernel⟩, List.mem_of_getElem? (i := 57) (by decide +kernel), List.mem_of_getElem? (i := 279) (by decide +kernel), List.mem_of_getElem? (i := 280) (by decide +kernel)⟩
theorem lw_p5 : lw_okq (⟨"AheadRows$Reader", "leastNumber", "()I"⟩, 3) := ⟨⟨by decide +kernel, by decide +kernel⟩, List.mem_of_getElem? (i := 57) (by decide +kernel), List.mem_of_getElem? (i := 287) (by decide +kernel), List.mem_of_getElem? (i := 288) (by decide +kernel)⟩
theorem lw_p6 : lw_okq (⟨"AheadRows$Reader", "mostNumber", "()I"⟩, 3) := ⟨⟨by decide +kernel, by decide +kernel⟩, List.mem_of_getElem? (i := 57) (by decide +kernel), List.mem_of_getElem? (i := 291) (by decide +kernel), List.mem_of_getElem? (i := 292) (by decide +kernel)⟩
theorem lw_p7 : lw_okq (⟨"AheadRows", "changedFrom", "(I)V"⟩, 13) := ⟨⟨by decide +kernel, by decide +kernel⟩, List.mem_of_getElem? (i := 16) (by decide +kernel), List.mem_of_getElem? (i := 328) (by decide +kernel), List.mem_of_getElem? (i := 329) (by decide +kernel)⟩
theorem lw_p8 : lw_okq (⟨"AheadRows$Terms", "fill", "(LAheadRows$Ledger;I)V"⟩, 2) := ⟨⟨by decide +kernel, by decide +kernel⟩, List.mem_of_getElem? (i := 91) (by decide +kernel), List.mem_of_getElem? (i := 376) (by decide +kernel), List.mem_of_getElem? (i := 377) (by decide +kernel)⟩
theorem lw_p9 : lw_okq (⟨"AheadRows$Terms", "fillTold", "(IIIII)V"⟩, 2) := ⟨⟨by decide +kernel, by decide +kernel⟩, List.mem_of_getElem? (i := 91) (by decide +kernel), List.mem_of_getElem? (i := 382) (by decide +kernel), List.mem_of_getElem? (i := 383) (by decide +kernel)⟩
theorem lw_p10 : lw_okq (⟨"AheadRows$Terms", "madeAt", "(IIIII)I"⟩, 2) := ⟨⟨by decide +kernel, by decide +kernel⟩, List.mem_of_getElem? (i := 91) (by decide +kernel), List.mem_of_getElem? (i := 392) (by decide +kernel), List.mem_of_getElem? (i := 393) (by decide +kernel)⟩
theorem lw_p11 : lw_okq (⟨"AheadRows$Terms", "valueAt", "(II)I"⟩, 2) := ⟨⟨by decide +kernel, by decide +kernel⟩, List.mem_of_getElem? (i := 91) (by decide +kernel), List.mem_of_getElem? (i := 396) (by decide +kernel), List.mem_of_getElem? (i := 397) (by decide +kernel)⟩
theorem lw_p12 : lw_okq (⟨"AheadRows$Remainders", "fill", "(LAheadRows$Ledger;II)V"⟩, 2) := ⟨⟨by decide +kernel, by decide +kernel⟩, List.mem_of_getElem? (i := 104) (by decide +kernel), List.mem_of_getElem? (i := 409) (by decide +kernel), List.mem_of_getElem? (i := 410) (by decide +kernel)⟩
theorem lw_p13 : lw_okq (⟨"AheadRows$Remainders", "filled", "(II)LAheadRows$Cycle;"⟩, 2) := ⟨⟨by decide +kernel, by decide +kernel⟩, List.mem_of_getElem? (i := 104) (by decide +kernel), List.mem_of_getElem? (i := 413) (by decide +kernel), List.mem_of_getElem? (i := 414) (by decide +kernel)⟩
theorem lw_p14 : lw_okq (⟨"AheadRows$Cycle", "repeatsAfter", "(I)Z"⟩, 3) := ⟨⟨by decide +kernel, by decide +kernel⟩, List.mem_of_getElem? (i := 111) (by decide +kernel), List.mem_of_getElem? (i := 455) (by decide +kernel), List.mem_of_getElem? (i := 456) (by decide +kernel)⟩
theorem lw_p15 : lw_okq (⟨"AheadRows$Complexity", "begin", "(I)V"⟩, 5) := ⟨⟨by decide +kernel, by decide +kernel⟩, List.mem_of_getElem? (i := 142) (by decide +kernel), List.mem_of_getElem? (i := 478) (by decide +kernel), List.mem_of_getElem? (i := 479) (by decide +kernel)⟩
def lw_privs_1 : List (MethodName × Nat) := [(⟨"AheadRows$Reader", "takes", "(I)Z"⟩, 3), (⟨"AheadRows$Reader", "takesMark", "(I)Z"⟩, 3), (⟨"AheadRows$Reader", "isRowWhole", "()Z"⟩, 3), (⟨"AheadRows$Reader", "takesDivider", "(I)Z"⟩, 3), (⟨"AheadRows$Reader", "takesNumber", "(I)Z"⟩, 3), (⟨"AheadRows$Reader", "leastNumber", "()I"⟩, 3), (⟨"AheadRows$Reader", "mostNumber", "()I"⟩, 3), (⟨"AheadRows", "changedFrom", "(I)V"⟩, 13), (⟨"AheadRows$Terms", "fill", "(LAheadRows$Ledger;I)V"⟩, 2), (⟨"AheadRows$Terms", "fillTold", "(IIIII)V"⟩, 2), (⟨"AheadRows$Terms", "madeAt", "(IIIII)I"⟩, 2), (⟨"AheadRows$Terms", "valueAt", "(II)I"⟩, 2), (⟨"AheadRows$Remainders", "fill", "(LAheadRows$Ledger;II)V"⟩, 2), (⟨"AheadRows$Remainders", "filled", "(II)LAheadRows$Cycle;"⟩, 2), (⟨"AheadRows$Cycle", "repeatsAfter", "(I)Z"⟩, 3), (⟨"AheadRows$Complexity", "begin", "(I)V"⟩, 5)]
theorem lw_r1 : ∀ q ∈ lw_privs_1, lw_okq q := List.forall_mem_cons.mpr ⟨lw_p0, List.forall_mem_cons.mpr ⟨lw_p1, List.forall_mem_cons.mpr ⟨lw_p2, List.forall_mem_cons.mpr ⟨lw_p3, List.forall_mem_cons.mpr ⟨lw_p4, List.forall_mem_cons.mpr ⟨lw_p5, List.forall_mem_cons.mpr ⟨lw_p6, List.forall_mem_cons.mpr ⟨lw_p7, List.forall_mem_cons.mpr ⟨lw_p8, List.forall_mem_cons.mpr ⟨lw_p9, List.forall_mem_cons.mpr ⟨lw_p10, List.forall_mem_cons.mpr ⟨lw_p11, List.forall_mem_cons.mpr ⟨lw_p12, List.forall_mem_cons.mpr ⟨lw_p13, List.forall_mem_cons.mpr ⟨lw_p14, List.forall_mem_cons.mpr ⟨lw_p15, fun _ h => absurd h List.not_mem_nil⟩⟩⟩⟩⟩⟩⟩⟩⟩⟩⟩⟩⟩⟩⟩⟩
theorem lw_p16 : lw_okq (⟨"AheadRows$Complexity", "missAt", "(LAheadRows$Cycle;I)I"⟩, 5) := ⟨⟨by decide +kernel, by decide +kernel⟩, List.mem_of_getElem? (i := 142) (by decide +kernel), List.mem_of_getElem? (i := 483) (by decide +kernel), List.mem_of_getElem? (i := 484) (by decide +kernel)⟩
theorem lw_p17 : lw_okq (⟨"AheadRows$Complexity", "inverse", "(I)I"⟩, 5) := ⟨⟨by decide +kernel, by decide +kernel⟩, List.mem_of_getElem? (i := 142) (by decide +kernel), List.mem_of_getElem? (i := 489) (by decide +kernel), List.mem_of_getElem? (i := 490) (by decide +kernel)⟩
theorem lw_p18 : lw_okq (⟨"AheadRows$Complexity", "mend", "(II)V"⟩, 5) := ⟨⟨by decide +kernel, by decide +kernel⟩, List.mem_of_getElem? (i := 142) (by decide +kernel), List.mem_of_getElem? (i := 493) (by decide +kernel), List.mem_of_getElem? (i := 494) (by decide +kernel)⟩
theorem lw_p19 : lw_okq (⟨"AheadRows", "isOpenAt", "(II)Z"⟩, 13) := ⟨⟨by decide +kernel, by decide +kernel⟩, List.mem_of_getElem? (i := 16) (by decide +kernel), List.mem_of_getElem? (i := 577) (by decide +kernel), List.mem_of_getElem? (i := 578) (by decide +kernel)⟩
theorem lw_p20 : lw_okq (⟨"AheadRows", "hasRemainderNought", "(III)Z"⟩, 13) := ⟨⟨by decide +kernel, by decide +kernel⟩, List.mem_of_getElem? (i := 16) (by decide +kernel), List.mem_of_getElem? (i := 581) (by decide +kernel), List.mem_of_getElem? (i := 582) (by decide +kernel)⟩
theorem lw_p21 : lw_okq (⟨"AheadRows", "added", "(IIIII)I"⟩, 13) := ⟨⟨by decide +kernel, by decide +kernel⟩, List.mem_of_getElem? (i := 16) (by decide +kernel), List.mem_of_getElem? (i := 601) (by decide +kernel), List.mem_of_getElem? (i := 602) (by decide +kernel)⟩
theorem lw_p22 : lw_okq (⟨"AheadRows", "isEasy", "(I)Z"⟩, 13) := ⟨⟨by decide +kernel, by decide +kernel⟩, List.mem_of_getElem? (i := 16) (by decide +kernel), List.mem_of_getElem? (i := 639) (by decide +kernel), List.mem_of_getElem? (i := 640) (by decide +kernel)⟩
theorem lw_p23 : lw_okq (⟨"AheadRows", "numberOfPart", "(III)I"⟩, 13) := ⟨⟨by decide +kernel, by decide +kernel⟩, List.mem_of_getElem? (i := 16) (by decide +kernel), List.mem_of_getElem? (i := 643) (by decide +kernel), List.mem_of_getElem? (i := 644) (by decide +kernel)⟩
theorem lw_p24 : lw_okq (⟨"AheadRows", "isPartOfPowers", "(II)Z"⟩, 13) := ⟨⟨by decide +kernel, by decide +kernel⟩, List.mem_of_getElem? (i := 16) (by decide +kernel), List.mem_of_getElem? (i := 647) (by decide +kernel), List.mem_of_getElem? (i := 648) (by decide +kernel)⟩
theorem lw_p25 : lw_okq (⟨"AheadRows$Explanation", "fits", "(LAheadRows$Numbers;)Z"⟩, 3) := ⟨⟨by decide +kernel, by decide +kernel⟩, List.mem_of_getElem? (i := 75) (by decide +kernel), List.mem_of_getElem? (i := 668) (by decide +kernel), List.mem_of_getElem? (i := 669) (by decide +kernel)⟩
theorem lw_p26 : lw_okq (⟨"AheadRows$Explanation", "isFoundByOne", "(LAheadRows$Numbers;)Z"⟩, 3) := ⟨⟨by decide +kernel, by decide +kernel⟩, List.mem_of_getElem? (i := 75) (by decide +kernel), List.mem_of_getElem? (i := 674) (by decide +kernel), List.mem_of_getElem? (i := 675) (by decide +kernel)⟩
theorem lw_p27 : lw_okq (⟨"AheadRows$Explanation", "isFoundByTwo", "(LAheadRows$Numbers;)Z"⟩, 3) := ⟨⟨by decide +kernel, by decide +kernel⟩, List.mem_of_getElem? (i := 75) (by decide +kernel), List.mem_of_getElem? (i := 678) (by decide +kernel), List.mem_of_getElem? (i := 679) (by decide +kernel)⟩
theorem lw_p28 : lw_okq (⟨"AheadRows", "toldRows", "()I"⟩, 13) := ⟨⟨by decide +kernel, by decide +kernel⟩, List.mem_of_getElem? (i := 16) (by decide +kernel), List.mem_of_getElem? (i := 734) (by decide +kernel), List.mem_of_getElem? (i := 735) (by decide +kernel)⟩
theorem lw_p29 : lw_okq (⟨"AheadRows", "degenerateRows", "()I"⟩, 13) := ⟨⟨by decide +kernel, by decide +kernel⟩, List.mem_of_getElem? (i := 16) (by decide +kernel), List.mem_of_getElem? (i := 738) (by decide +kernel), List.mem_of_getElem? (i := 739) (by decide +kernel)⟩
theorem lw_p30 : lw_okq (⟨"AheadRows", "digestWithRow", "(JI)J"⟩, 13) := ⟨⟨by decide +kernel, by decide +kernel⟩, List.mem_of_getElem? (i := 16) (by decide +kernel), List.mem_of_getElem? (i := 747) (by decide +kernel), List.mem_of_getElem? (i := 748) (by decide +kernel)⟩
theorem lw_p31 : lw_okq (⟨"AheadRowsModel", "read", "()I"⟩, 33) := ⟨⟨by decide +kernel, by decide +kernel⟩, List.mem_of_getElem? (i := 759) (by decide +kernel), List.mem_of_getElem? (i := 885) (by decide +kernel), List.mem_of_getElem? (i := 886) (by decide +kernel)⟩
def lw_privs_2 : List (MethodName × Nat) := [(⟨"AheadRows$Complexity", "missAt", "(LAheadRows$Cycle;I)I"⟩, 5), (⟨"AheadRows$Complexity", "inverse", "(I)I"⟩, 5), (⟨"AheadRows$Complexity", "mend", "(II)V"⟩, 5), (⟨"AheadRows", "isOpenAt", "(II)Z"⟩, 13), (⟨"AheadRows", "hasRemainderNought", "(III)Z"⟩, 13), (⟨"AheadRows", "added", "(IIIII)I"⟩, 13), (⟨"AheadRows", "isEasy", "(I)Z"⟩, 13), (⟨"AheadRows", "numberOfPart", "(III)I"⟩, 13), (⟨"AheadRows", "isPartOfPowers", "(II)Z"⟩, 13), (⟨"AheadRows$Explanation", "fits", "(LAheadRows$Numbers;)Z"⟩, 3), (⟨"AheadRows$Explanation", "isFoundByOne", "(LAheadRows$Numbers;)Z"⟩, 3), (⟨"AheadRows$Explanation", "isFoundByTwo", "(LAheadRows$Numbers;)Z"⟩, 3), (⟨"AheadRows", "toldRows", "()I"⟩, 13), (⟨"AheadRows", "degenerateRows", "()I"⟩, 13), (⟨"AheadRows", "digestWithRow", "(JI)J"⟩, 13), (⟨"AheadRowsModel", "read", "()I"⟩, 33)]
theorem lw_r2 : ∀ q ∈ lw_privs_2, lw_okq q := List.forall_mem_cons.mpr ⟨lw_p16, List.forall_mem_cons.mpr ⟨lw_p17, List.forall_mem_cons.mpr ⟨lw_p18, List.forall_mem_cons.mpr ⟨lw_p19, List.forall_mem_cons.mpr ⟨lw_p20, List.forall_mem_cons.mpr ⟨lw_p21, List.forall_mem_cons.mpr ⟨lw_p22, List.forall_mem_cons.mpr ⟨lw_p23, List.forall_mem_cons.mpr ⟨lw_p24, List.forall_mem_cons.mpr ⟨lw_p25, List.forall_mem_cons.mpr ⟨lw_p26, List.forall_mem_cons.mpr ⟨lw_p27, List.forall_mem_cons.mpr ⟨lw_p28, List.forall_mem_cons.mpr ⟨lw_p29, List.forall_mem_cons.mpr ⟨lw_p30, List.forall_mem_cons.mpr ⟨lw_p31, fun _ h => absurd h List.not_mem_nil⟩⟩⟩⟩⟩⟩⟩⟩⟩⟩⟩⟩⟩⟩⟩⟩
theorem lw_p32 : lw_okq (⟨"AheadRowsModel", "takes", "(I)Z"⟩, 33) := ⟨⟨by decide +kernel, by decide +kernel⟩, List.mem_of_getElem? (i := 759) (by decide +kernel), List.mem_of_getElem? (i := 889) (by decide +kernel), List.mem_of_getElem? (i := 890) (by decide +kernel)⟩
theorem lw_p33 : lw_okq (⟨"AheadRowsModel", "takesKind", "(I)Z"⟩, 33) := ⟨⟨by decide +kernel, by decide +kernel⟩, List.mem_of_getElem? (i := 759) (by decide +kernel), List.mem_of_getElem? (i := 893) (by decide +kernel), List.mem_of_getElem? (i := 894) (by decide +kernel)⟩
theorem lw_p34 : lw_okq (⟨"AheadRowsModel", "isDone", "()Z"⟩, 33) := ⟨⟨by decide +kernel, by decide +kernel⟩, List.mem_of_getElem? (i := 759) (by decide +kernel), List.mem_of_getElem? (i := 900) (by decide +kernel), List.mem_of_getElem? (i := 901) (by decide +kernel)⟩
theorem lw_p35 : lw_okq (⟨"AheadRowsModel", "fitsSign", "(I)Z"⟩, 33) := ⟨⟨by decide +kernel, by decide +kernel⟩, List.mem_of_getElem? (i := 759) (by decide +kernel), List.mem_of_getElem? (i := 907) (by decide +kernel), List.mem_of_getElem? (i := 908) (by decide +kernel)⟩
theorem lw_p36 : lw_okq (⟨"AheadRowsModel", "changes", "()V"⟩, 33) := ⟨⟨by decide +kernel, by decide +kernel⟩, List.mem_of_getElem? (i := 759) (by decide +kernel), List.mem_of_getElem? (i := 919) (by decide +kernel), List.mem_of_getElem? (i := 920) (by decide +kernel)⟩
theorem lw_p37 : lw_okq (⟨"AheadRowsModel", "isRow", "(I)Z"⟩, 33) := ⟨⟨by decide +kernel, by decide +kernel⟩, List.mem_of_getElem? (i := 759) (by decide +kernel), List.mem_of_getElem? (i := 927) (by decide +kernel), List.mem_of_getElem? (i := 928) (by decide +kernel)⟩
theorem lw_p38 : lw_okq (⟨"AheadRowsModel", "termOf", "(II)I"⟩, 33) := ⟨⟨by decide +kernel, by decide +kernel⟩, List.mem_of_getElem? (i := 759) (by decide +kernel), List.mem_of_getElem? (i := 943) (by decide +kernel), List.mem_of_getElem? (i := 944) (by decide +kernel)⟩
theorem lw_p39 : lw_okq (⟨"AheadRowsModel", "layTerms", "()V"⟩, 33) := ⟨⟨by decide +kernel, by decide +kernel⟩, List.mem_of_getElem? (i := 759) (by decide +kernel), List.mem_of_getElem? (i := 947) (by decide +kernel), List.mem_of_getElem? (i := 948) (by decide +kernel)⟩
theorem lw_p40 : lw_okq (⟨"AheadRowsModel", "madeTerm", "(II)I"⟩, 33) := ⟨⟨by decide +kernel, by decide +kernel⟩, List.mem_of_getElem? (i := 759) (by decide +kernel), List.mem_of_getElem? (i := 951) (by decide +kernel), List.mem_of_getElem? (i := 952) (by decide +kernel)⟩
theorem lw_p41 : lw_okq (⟨"AheadRowsModel", "toldTerm", "(II)I"⟩, 33) := ⟨⟨by decide +kernel, by decide +kernel⟩, List.mem_of_getElem? (i := 759) (by decide +kernel), List.mem_of_getElem? (i := 955) (by decide +kernel), List.mem_of_getElem? (i := 956) (by decide +kernel)⟩
theorem lw_p42 : lw_okq (⟨"AheadRowsModel", "termAt", "(II)I"⟩, 33) := ⟨⟨by decide +kernel, by decide +kernel⟩, List.mem_of_getElem? (i := 759) (by decide +kernel), List.mem_of_getElem? (i := 959) (by decide +kernel), List.mem_of_getElem? (i := 960) (by decide +kernel)⟩
theorem lw_p43 : lw_okq (⟨"AheadRowsModel", "stepTerm", "(II)I"⟩, 33) := ⟨⟨by decide +kernel, by decide +kernel⟩, List.mem_of_getElem? (i := 759) (by decide +kernel), List.mem_of_getElem? (i := 969) (by decide +kernel), List.mem_of_getElem? (i := 970) (by decide +kernel)⟩
theorem lw_p44 : lw_okq (⟨"AheadRowsModel", "bothTerm", "(II)I"⟩, 33) := ⟨⟨by decide +kernel, by decide +kernel⟩, List.mem_of_getElem? (i := 759) (by decide +kernel), List.mem_of_getElem? (i := 973) (by decide +kernel), List.mem_of_getElem? (i := 974) (by decide +kernel)⟩
theorem lw_p45 : lw_okq (⟨"AheadRowsModel", "byNow", "(III)I"⟩, 33) := ⟨⟨by decide +kernel, by decide +kernel⟩, List.mem_of_getElem? (i := 759) (by decide +kernel), List.mem_of_getElem? (i := 981) (by decide +kernel), List.mem_of_getElem? (i := 982) (by decide +kernel)⟩
theorem lw_p46 : lw_okq (⟨"AheadRowsModel", "layRests", "(I)V"⟩, 33) := ⟨⟨by decide +kernel, by decide +kernel⟩, List.mem_of_getElem? (i := 759) (by decide +kernel), List.mem_of_getElem? (i := 985) (by decide +kernel), List.mem_of_getElem? (i := 986) (by decide +kernel)⟩
theorem lw_p47 : lw_okq (⟨"AheadRowsModel", "layRest", "(II)V"⟩, 33) := ⟨⟨by decide +kernel, by decide +kernel⟩, List.mem_of_getElem? (i := 759) (by decide +kernel), List.mem_of_getElem? (i := 989) (by decide +kernel), List.mem_of_getElem? (i := 990) (by decide +kernel)⟩
def lw_privs_3 : List (MethodName × Nat) := [(⟨"AheadRowsModel", "takes", "(I)Z"⟩, 33), (⟨"AheadRowsModel", "takesKind", "(I)Z"⟩, 33), (⟨"AheadRowsModel", "isDone", "()Z"⟩, 33), (⟨"AheadRowsModel", "fitsSign", "(I)Z"⟩, 33), (⟨"AheadRowsModel", "changes", "()V"⟩, 33), (⟨"AheadRowsModel", "isRow", "(I)Z"⟩, 33), (⟨"AheadRowsModel", "termOf", "(II)I"⟩, 33), (⟨"AheadRowsModel", "layTerms", "()V"⟩, 33), (⟨"AheadRowsModel", "madeTerm", "(II)I"⟩, 33), (⟨"AheadRowsModel", "toldTerm", "(II)I"⟩, 33), (⟨"AheadRowsModel", "termAt", "(II)I"⟩, 33), (⟨"AheadRowsModel", "stepTerm", "(II)I"⟩, 33), (⟨"AheadRowsModel", "bothTerm", "(II)I"⟩, 33), (⟨"AheadRowsModel", "byNow", "(III)I"⟩, 33), (⟨"AheadRowsModel", "layRests", "(I)V"⟩, 33), (⟨"AheadRowsModel", "layRest", "(II)V"⟩, 33)]
theorem lw_r3 : ∀ q ∈ lw_privs_3, lw_okq q := List.forall_mem_cons.mpr ⟨lw_p32, List.forall_mem_cons.mpr ⟨lw_p33, List.forall_mem_cons.mpr ⟨lw_p34, List.forall_mem_cons.mpr ⟨lw_p35, List.forall_mem_cons.mpr ⟨lw_p36, List.forall_mem_cons.mpr ⟨lw_p37, List.forall_mem_cons.mpr ⟨lw_p38, List.forall_mem_cons.mpr ⟨lw_p39, List.forall_mem_cons.mpr ⟨lw_p40, List.forall_mem_cons.mpr ⟨lw_p41, List.forall_mem_cons.mpr ⟨lw_p42, List.forall_mem_cons.mpr ⟨lw_p43, List.forall_mem_cons.mpr ⟨lw_p44, List.forall_mem_cons.mpr ⟨lw_p45, List.forall_mem_cons.mpr ⟨lw_p46, List.forall_mem_cons.mpr ⟨lw_p47, fun _ h => absurd h List.not_mem_nil⟩⟩⟩⟩⟩⟩⟩⟩⟩⟩⟩⟩⟩⟩⟩⟩
theorem lw_p48 : lw_okq (⟨"AheadRowsModel", "layTold", "(II)V"⟩, 33) := ⟨⟨by decide +kernel, by decide +kernel⟩, List.mem_of_getElem? (i := 759) (by decide +kernel), List.mem_of_getElem? (i := 993) (by decide +kernel), List.mem_of_getElem? (i := 994) (by decide +kernel)⟩
theorem lw_p49 : lw_okq (⟨"AheadRowsModel", "layTurn", "(I)V"⟩, 33) := ⟨⟨by decide +kernel, by decide +kernel⟩, List.mem_of_getElem? (i := 759) (by decide +kernel), List.mem_of_getElem? (i := 1000) (by decide +kernel), List.mem_of_getElem? (i := 1001) (by decide +kernel)⟩
theorem lw_p50 : lw_okq (⟨"AheadRowsModel", "madeRest", "(III)I"⟩, 33) := ⟨⟨by decide +kernel, by decide +kernel⟩, List.mem_of_getElem? (i := 759) (by decide +kernel), List.mem_of_getElem? (i := 1007) (by decide +kernel), List.mem_of_getElem? (i := 1008) (by decide +kernel)⟩
theorem lw_p51 : lw_okq (⟨"AheadRowsModel", "restAt", "(IJ)I"⟩, 33) := ⟨⟨by decide +kernel, by decide +kernel⟩, List.mem_of_getElem? (i := 759) (by decide +kernel), List.mem_of_getElem? (i := 1011) (by decide +kernel), List.mem_of_getElem? (i := 1012) (by decide +kernel)⟩
theorem lw_p52 : lw_okq (⟨"AheadRowsModel", "lapNow", "(III)I"⟩, 33) := ⟨⟨by decide +kernel, by decide +kernel⟩, List.mem_of_getElem? (i := 759) (by decide +kernel), List.mem_of_getElem? (i := 1019) (by decide +kernel), List.mem_of_getElem? (i := 1020) (by decide +kernel)⟩
theorem lw_p53 : lw_okq (⟨"AheadRowsModel", "lapOf", "(I)I"⟩, 33) := ⟨⟨by decide +kernel, by decide +kernel⟩, List.mem_of_getElem? (i := 759) (by decide +kernel), List.mem_of_getElem? (i := 1023) (by decide +kernel), List.mem_of_getElem? (i := 1024) (by decide +kernel)⟩
theorem lw_p54 : lw_okq (⟨"AheadRowsModel", "comesAgain", "(III)Z"⟩, 33) := ⟨⟨by decide +kernel, by decide +kernel⟩, List.mem_of_getElem? (i := 759) (by decide +kernel), List.mem_of_getElem? (i := 1027) (by decide +kernel), List.mem_of_getElem? (i := 1028) (by decide +kernel)⟩
theorem lw_p55 : lw_okq (⟨"AheadRowsModel", "headOf", "(I)I"⟩, 33) := ⟨⟨by decide +kernel, by decide +kernel⟩, List.mem_of_getElem? (i := 759) (by decide +kernel), List.mem_of_getElem? (i := 1031) (by decide +kernel), List.mem_of_getElem? (i := 1032) (by decide +kernel)⟩
theorem lw_p56 : lw_okq (⟨"AheadRowsModel", "zerosOf", "(I)I"⟩, 33) := ⟨⟨by decide +kernel, by decide +kernel⟩, List.mem_of_getElem? (i := 759) (by decide +kernel), List.mem_of_getElem? (i := 1035) (by decide +kernel), List.mem_of_getElem? (i := 1036) (by decide +kernel)⟩
theorem lw_p57 : lw_okq (⟨"AheadRowsModel", "leastNow", "(III)I"⟩, 33) := ⟨⟨by decide +kernel, by decide +kernel⟩, List.mem_of_getElem? (i := 759) (by decide +kernel), List.mem_of_getElem? (i := 1046) (by decide +kernel), List.mem_of_getElem? (i := 1047) (by decide +kernel)⟩
theorem lw_p58 : lw_okq (⟨"AheadRowsModel", "isSolved", "(III)Z"⟩, 33) := ⟨⟨by decide +kernel, by decide +kernel⟩, List.mem_of_getElem? (i := 759) (by decide +kernel), List.mem_of_getElem? (i := 1050) (by decide +kernel), List.mem_of_getElem? (i := 1051) (by decide +kernel)⟩
theorem lw_p59 : lw_okq (⟨"AheadRowsModel", "layTable", "(II)V"⟩, 33) := ⟨⟨by decide +kernel, by decide +kernel⟩, List.mem_of_getElem? (i := 759) (by decide +kernel), List.mem_of_getElem? (i := 1054) (by decide +kernel), List.mem_of_getElem? (i := 1055) (by decide +kernel)⟩
theorem lw_p60 : lw_okq (⟨"AheadRowsModel", "lineWith", "(III)I"⟩, 33) := ⟨⟨by decide +kernel, by decide +kernel⟩, List.mem_of_getElem? (i := 759) (by decide +kernel), List.mem_of_getElem? (i := 1058) (by decide +kernel), List.mem_of_getElem? (i := 1059) (by decide +kernel)⟩
theorem lw_p61 : lw_okq (⟨"AheadRowsModel", "swapLines", "(II)V"⟩, 33) := ⟨⟨by decide +kernel, by decide +kernel⟩, List.mem_of_getElem? (i := 759) (by decide +kernel), List.mem_of_getElem? (i := 1062) (by decide +kernel), List.mem_of_getElem? (i := 1063) (by decide +kernel)⟩
theorem lw_p62 : lw_okq (⟨"AheadRowsModel", "makeOne", "(III)V"⟩, 33) := ⟨⟨by decide +kernel, by decide +kernel⟩, List.mem_of_getElem? (i := 759) (by decide +kernel), List.mem_of_getElem? (i := 1066) (by decide +kernel), List.mem_of_getElem? (i := 1067) (by decide +kernel)⟩
theorem lw_p63 : lw_okq (⟨"AheadRowsModel", "takeAway", "(IIII)V"⟩, 33) := ⟨⟨by decide +kernel, by decide +kernel⟩, List.mem_of_getElem? (i := 759) (by decide +kernel), List.mem_of_getElem? (i := 1070) (by decide +kernel), List.mem_of_getElem? (i := 1071) (by decide +kernel)⟩
def lw_privs_4 : List (MethodName × Nat) := [(⟨"AheadRowsModel", "layTold", "(II)V"⟩, 33), (⟨"AheadRowsModel", "layTurn", "(I)V"⟩, 33), (⟨"AheadRowsModel", "madeRest", "(III)I"⟩, 33), (⟨"AheadRowsModel", "restAt", "(IJ)I"⟩, 33), (⟨"AheadRowsModel", "lapNow", "(III)I"⟩, 33), (⟨"AheadRowsModel", "lapOf", "(I)I"⟩, 33), (⟨"AheadRowsModel", "comesAgain", "(III)Z"⟩, 33), (⟨"AheadRowsModel", "headOf", "(I)I"⟩, 33), (⟨"AheadRowsModel", "zerosOf", "(I)I"⟩, 33), (⟨"AheadRowsModel", "leastNow", "(III)I"⟩, 33), (⟨"AheadRowsModel", "isSolved", "(III)Z"⟩, 33), (⟨"AheadRowsModel", "layTable", "(II)V"⟩, 33), (⟨"AheadRowsModel", "lineWith", "(III)I"⟩, 33), (⟨"AheadRowsModel", "swapLines", "(II)V"⟩, 33), (⟨"AheadRowsModel", "makeOne", "(III)V"⟩, 33), (⟨"AheadRowsModel", "takeAway", "(IIII)V"⟩, 33)]
theorem lw_r4 : ∀ q ∈ lw_privs_4, lw_okq q := List.forall_mem_cons.mpr ⟨lw_p48, List.forall_mem_cons.mpr ⟨lw_p49, List.forall_mem_cons.mpr ⟨lw_p50, List.forall_mem_cons.mpr ⟨lw_p51, List.forall_mem_cons.mpr ⟨lw_p52, List.forall_mem_cons.mpr ⟨lw_p53, List.forall_mem_cons.mpr ⟨lw_p54, List.forall_mem_cons.mpr ⟨lw_p55, List.forall_mem_cons.mpr ⟨lw_p56, List.forall_mem_cons.mpr ⟨lw_p57, List.forall_mem_cons.mpr ⟨lw_p58, List.forall_mem_cons.mpr ⟨lw_p59, List.forall_mem_cons.mpr ⟨lw_p60, List.forall_mem_cons.mpr ⟨lw_p61, List.forall_mem_cons.mpr ⟨lw_p62, List.forall_mem_cons.mpr ⟨lw_p63, fun _ h => absurd h List.not_mem_nil⟩⟩⟩⟩⟩⟩⟩⟩⟩⟩⟩⟩⟩⟩⟩⟩
theorem lw_p64 : lw_okq (⟨"AheadRowsModel", "isMet", "(III)Z"⟩, 33) := ⟨⟨by decide +kernel, by decide +kernel⟩, List.mem_of_getElem? (i := 759) (by decide +kernel), List.mem_of_getElem? (i := 1074) (by decide +kernel), List.mem_of_getElem? (i := 1075) (by decide +kernel)⟩
theorem lw_p65 : lw_okq (⟨"AheadRowsModel", "isTold", "(I)Z"⟩, 33) := ⟨⟨by decide +kernel, by decide +kernel⟩, List.mem_of_getElem? (i := 759) (by decide +kernel), List.mem_of_getElem? (i := 1082) (by decide +kernel), List.mem_of_getElem? (i := 1083) (by decide +kernel)⟩
theorem lw_p66 : lw_okq (⟨"AheadRowsModel", "arePartsTold", "(I)Z"⟩, 33) := ⟨⟨by decide +kernel, by decide +kernel⟩, List.mem_of_getElem? (i := 759) (by decide +kernel), List.mem_of_getElem? (i := 1086) (by decide +kernel), List.mem_of_getElem? (i := 1087) (by decide +kernel)⟩
theorem lw_p67 : lw_okq (⟨"AheadRowsModel", "ruleNow", "(II)I"⟩, 33) := ⟨⟨by decide +kernel, by decide +kernel⟩, List.mem_of_getElem? (i := 759) (by decide +kernel), List.mem_of_getElem? (i := 1090) (by decide +kernel), List.mem_of_getElem? (i := 1091) (by decide +kernel)⟩
theorem lw_p68 : lw_okq (⟨"AheadRowsModel", "bothRule", "(II)I"⟩, 33) := ⟨⟨by decide +kernel, by decide +kernel⟩, List.mem_of_getElem? (i := 759) (by decide +kernel), List.mem_of_getElem? (i := 1094) (by decide +kernel), List.mem_of_getElem? (i := 1095) (by decide +kernel)⟩
theorem lw_p69 : lw_okq (⟨"AheadRowsModel", "twoRule", "(II)I"⟩, 33) := ⟨⟨by decide +kernel, by decide +kernel⟩, List.mem_of_getElem? (i := 759) (by decide +kernel), List.mem_of_getElem? (i := 1098) (by decide +kernel), List.mem_of_getElem? (i := 1099) (by decide +kernel)⟩
theorem lw_p70 : lw_okq (⟨"AheadRowsModel", "noughtsOf", "(I)I"⟩, 33) := ⟨⟨by decide +kernel, by decide +kernel⟩, List.mem_of_getElem? (i := 759) (by decide +kernel), List.mem_of_getElem? (i := 1128) (by decide +kernel), List.mem_of_getElem? (i := 1129) (by decide +kernel)⟩
theorem lw_p71 : lw_okq (⟨"AheadRowsModel", "openNow", "(II)I"⟩, 33) := ⟨⟨by decide +kernel, by decide +kernel⟩, List.mem_of_getElem? (i := 759) (by decide +kernel), List.mem_of_getElem? (i := 1140) (by decide +kernel), List.mem_of_getElem? (i := 1141) (by decide +kernel)⟩
theorem lw_p72 : lw_okq (⟨"AheadRowsModel", "layOpen", "(I)V"⟩, 33) := ⟨⟨by decide +kernel, by decide +kernel⟩, List.mem_of_getElem? (i := 759) (by decide +kernel), List.mem_of_getElem? (i := 1144) (by decide +kernel), List.mem_of_getElem? (i := 1145) (by decide +kernel)⟩
theorem lw_p73 : lw_okq (⟨"AheadRowsModel", "meetsNow", "(III)I"⟩, 33) := ⟨⟨by decide +kernel, by decide +kernel⟩, List.mem_of_getElem? (i := 759) (by decide +kernel), List.mem_of_getElem? (i := 1152) (by decide +kernel), List.mem_of_getElem? (i := 1153) (by decide +kernel)⟩
theorem lw_p74 : lw_okq (⟨"AheadRowsModel", "comes", "(IIIII)I"⟩, 33) := ⟨⟨by decide +kernel, by decide +kernel⟩, List.mem_of_getElem? (i := 759) (by decide +kernel), List.mem_of_getElem? (i := 1166) (by decide +kernel), List.mem_of_getElem? (i := 1167) (by decide +kernel)⟩
theorem lw_p75 : lw_okq (⟨"AheadRowsModel", "lay", "(IIIIII)V"⟩, 33) := ⟨⟨by decide +kernel, by decide +kernel⟩, List.mem_of_getElem? (i := 759) (by decide +kernel), List.mem_of_getElem? (i := 1170) (by decide +kernel), List.mem_of_getElem? (i := 1171) (by decide +kernel)⟩
theorem lw_p76 : lw_okq (⟨"AheadRowsModel", "canBe", "(I)Z"⟩, 33) := ⟨⟨by decide +kernel, by decide +kernel⟩, List.mem_of_getElem? (i := 759) (by decide +kernel), List.mem_of_getElem? (i := 1202) (by decide +kernel), List.mem_of_getElem? (i := 1203) (by decide +kernel)⟩
theorem lw_p77 : lw_okq (⟨"AheadRowsModel", "powersIn", "(I)I"⟩, 33) := ⟨⟨by decide +kernel, by decide +kernel⟩, List.mem_of_getElem? (i := 759) (by decide +kernel), List.mem_of_getElem? (i := 1206) (by decide +kernel), List.mem_of_getElem? (i := 1207) (by decide +kernel)⟩
theorem lw_p78 : lw_okq (⟨"AheadRowsModel", "isPower", "(I)Z"⟩, 33) := ⟨⟨by decide +kernel, by decide +kernel⟩, List.mem_of_getElem? (i := 759) (by decide +kernel), List.mem_of_getElem? (i := 1210) (by decide +kernel), List.mem_of_getElem? (i := 1211) (by decide +kernel)⟩
theorem lw_p79 : lw_okq (⟨"AheadRowsModel", "easedC", "(I)I"⟩, 33) := ⟨⟨by decide +kernel, by decide +kernel⟩, List.mem_of_getElem? (i := 759) (by decide +kernel), List.mem_of_getElem? (i := 1214) (by decide +kernel), List.mem_of_getElem? (i := 1215) (by decide +kernel)⟩
def lw_privs_5 : List (MethodName × Nat) := [(⟨"AheadRowsModel", "isMet", "(III)Z"⟩, 33), (⟨"AheadRowsModel", "isTold", "(I)Z"⟩, 33), (⟨"AheadRowsModel", "arePartsTold", "(I)Z"⟩, 33), (⟨"AheadRowsModel", "ruleNow", "(II)I"⟩, 33), (⟨"AheadRowsModel", "bothRule", "(II)I"⟩, 33), (⟨"AheadRowsModel", "twoRule", "(II)I"⟩, 33), (⟨"AheadRowsModel", "noughtsOf", "(I)I"⟩, 33), (⟨"AheadRowsModel", "openNow", "(II)I"⟩, 33), (⟨"AheadRowsModel", "layOpen", "(I)V"⟩, 33), (⟨"AheadRowsModel", "meetsNow", "(III)I"⟩, 33), (⟨"AheadRowsModel", "comes", "(IIIII)I"⟩, 33), (⟨"AheadRowsModel", "lay", "(IIIIII)V"⟩, 33), (⟨"AheadRowsModel", "canBe", "(I)Z"⟩, 33), (⟨"AheadRowsModel", "powersIn", "(I)I"⟩, 33), (⟨"AheadRowsModel", "isPower", "(I)Z"⟩, 33), (⟨"AheadRowsModel", "easedC", "(I)I"⟩, 33)]
theorem lw_r5 : ∀ q ∈ lw_privs_5, lw_okq q := List.forall_mem_cons.mpr ⟨lw_p64, List.forall_mem_cons.mpr ⟨lw_p65, List.forall_mem_cons.mpr ⟨lw_p66, List.forall_mem_cons.mpr ⟨lw_p67, List.forall_mem_cons.mpr ⟨lw_p68, List.forall_mem_cons.mpr ⟨lw_p69, List.forall_mem_cons.mpr ⟨lw_p70, List.forall_mem_cons.mpr ⟨lw_p71, List.forall_mem_cons.mpr ⟨lw_p72, List.forall_mem_cons.mpr ⟨lw_p73, List.forall_mem_cons.mpr ⟨lw_p74, List.forall_mem_cons.mpr ⟨lw_p75, List.forall_mem_cons.mpr ⟨lw_p76, List.forall_mem_cons.mpr ⟨lw_p77, List.forall_mem_cons.mpr ⟨lw_p78, List.forall_mem_cons.mpr ⟨lw_p79, fun _ h => absurd h List.not_mem_nil⟩⟩⟩⟩⟩⟩⟩⟩⟩⟩⟩⟩⟩⟩⟩⟩
theorem lw_p80 : lw_okq (⟨"AheadRowsModel", "easedD", "(I)I"⟩, 33) := ⟨⟨by decide +kernel, by decide +kernel⟩, List.mem_of_getElem? (i := 759) (by decide +kernel), List.mem_of_getElem? (i := 1218) (by decide +kernel), List.mem_of_getElem? (i := 1219) (by decide +kernel)⟩
theorem lw_p81 : lw_okq (⟨"AheadRowsModel", "guessTold", "(I)I"⟩, 33) := ⟨⟨by decide +kernel, by decide +kernel⟩, List.mem_of_getElem? (i := 759) (by decide +kernel), List.mem_of_getElem? (i := 1234) (by decide +kernel), List.mem_of_getElem? (i := 1235) (by decide +kernel)⟩
theorem lw_p82 : lw_okq (⟨"AheadRowsModel", "guessNow", "()I"⟩, 33) := ⟨⟨by decide +kernel, by decide +kernel⟩, List.mem_of_getElem? (i := 759) (by decide +kernel), List.mem_of_getElem? (i := 1238) (by decide +kernel), List.mem_of_getElem? (i := 1239) (by decide +kernel)⟩
theorem lw_p83 : lw_okq (⟨"AheadRowsModel", "isGuess", "(III)Z"⟩, 33) := ⟨⟨by decide +kernel, by decide +kernel⟩, List.mem_of_getElem? (i := 759) (by decide +kernel), List.mem_of_getElem? (i := 1242) (by decide +kernel), List.mem_of_getElem? (i := 1243) (by decide +kernel)⟩
theorem lw_p84 : lw_okq (⟨"AheadRowsModel", "drawnNow", "(III)I"⟩, 33) := ⟨⟨by decide +kernel, by decide +kernel⟩, List.mem_of_getElem? (i := 759) (by decide +kernel), List.mem_of_getElem? (i := 1254) (by decide +kernel), List.mem_of_getElem? (i := 1255) (by decide +kernel)⟩
theorem lw_p85 : lw_okq (⟨"AheadRowsModel", "drawOf", "(I)I"⟩, 33) := ⟨⟨by decide +kernel, by decide +kernel⟩, List.mem_of_getElem? (i := 759) (by decide +kernel), List.mem_of_getElem? (i := 1258) (by decide +kernel), List.mem_of_getElem? (i := 1259) (by decide +kernel)⟩
theorem lw_p86 : lw_okq (⟨"AheadRowsModel", "howMany", "(I)I"⟩, 33) := ⟨⟨by decide +kernel, by decide +kernel⟩, List.mem_of_getElem? (i := 759) (by decide +kernel), List.mem_of_getElem? (i := 1281) (by decide +kernel), List.mem_of_getElem? (i := 1282) (by decide +kernel)⟩
theorem lw_p87 : lw_okq (⟨"AheadRowsModel", "toldMany", "(Z)I"⟩, 33) := ⟨⟨by decide +kernel, by decide +kernel⟩, List.mem_of_getElem? (i := 759) (by decide +kernel), List.mem_of_getElem? (i := 1285) (by decide +kernel), List.mem_of_getElem? (i := 1286) (by decide +kernel)⟩
theorem lw_p88 : lw_okq (⟨"AheadRowsModel", "mixRow", "(I)V"⟩, 33) := ⟨⟨by decide +kernel, by decide +kernel⟩, List.mem_of_getElem? (i := 759) (by decide +kernel), List.mem_of_getElem? (i := 1294) (by decide +kernel), List.mem_of_getElem? (i := 1295) (by decide +kernel)⟩
theorem lw_p89 : lw_okq (⟨"AheadRowsModel", "mix", "(J)V"⟩, 33) := ⟨⟨by decide +kernel, by decide +kernel⟩, List.mem_of_getElem? (i := 759) (by decide +kernel), List.mem_of_getElem? (i := 1298) (by decide +kernel), List.mem_of_getElem? (i := 1299) (by decide +kernel)⟩
def lw_privs_6 : List (MethodName × Nat) := [(⟨"AheadRowsModel", "easedD", "(I)I"⟩, 33), (⟨"AheadRowsModel", "guessTold", "(I)I"⟩, 33), (⟨"AheadRowsModel", "guessNow", "()I"⟩, 33), (⟨"AheadRowsModel", "isGuess", "(III)Z"⟩, 33), (⟨"AheadRowsModel", "drawnNow", "(III)I"⟩, 33), (⟨"AheadRowsModel", "drawOf", "(I)I"⟩, 33), (⟨"AheadRowsModel", "howMany", "(I)I"⟩, 33), (⟨"AheadRowsModel", "toldMany", "(Z)I"⟩, 33), (⟨"AheadRowsModel", "mixRow", "(I)V"⟩, 33), (⟨"AheadRowsModel", "mix", "(J)V"⟩, 33)]
theorem lw_r6 : ∀ q ∈ lw_privs_6, lw_okq q := List.forall_mem_cons.mpr ⟨lw_p80, List.forall_mem_cons.mpr ⟨lw_p81, List.forall_mem_cons.mpr ⟨lw_p82, List.forall_mem_cons.mpr ⟨lw_p83, List.forall_mem_cons.mpr ⟨lw_p84, List.forall_mem_cons.mpr ⟨lw_p85, List.forall_mem_cons.mpr ⟨lw_p86, List.forall_mem_cons.mpr ⟨lw_p87, List.forall_mem_cons.mpr ⟨lw_p88, List.forall_mem_cons.mpr ⟨lw_p89, fun _ h => absurd h List.not_mem_nil⟩⟩⟩⟩⟩⟩⟩⟩⟩⟩
def lw_privs : List (MethodName × Nat) := lw_privs_1 ++ (lw_privs_2 ++ (lw_privs_3 ++ (lw_privs_4 ++ (lw_privs_5 ++ (lw_privs_6)))))
def lw_tbl : List Cond := k2_sels lw_privs ++ tables_1
theorem lw_privs_ok : ∀ q ∈ lw_privs, lw_okq q := by
  show ∀ q ∈ lw_privs_1 ++ (lw_privs_2 ++ (lw_privs_3 ++ (lw_privs_4 ++ (lw_privs_5 ++ (lw_privs_6))))), lw_okq q
  exact List.forall_mem_append.mpr ⟨lw_r1, List.forall_mem_append.mpr ⟨lw_r2, List.forall_mem_append.mpr ⟨lw_r3, List.forall_mem_append.mpr ⟨lw_r4, List.forall_mem_append.mpr ⟨lw_r5, lw_r6⟩⟩⟩⟩⟩
end
section
def RX0 : String := "AheadRows$Complexity"
def TX0 : u_T := fun k => match k with
  | 0 => ("AheadRows$Complexity", "connection", "[I", true)
  | 1 => ("AheadRows$Complexity", "former", "[I", true)
  | 2 => ("AheadRows$Complexity", "spare", "[I", true)
  | 3 => ("AheadRows$Complexity", "prime", "I", false)
  | _ => ("AheadRows$Complexity", "length", "I", false)
def tyX0 : Nat → FieldType := fun k => match k with
  | 0 => .array .int
  | 1 => .array .int
  | 2 => .array .int
  | 3 => .int
  | _ => .int
theorem nmX0 : ∀ a, a < 5 → ∀ b, b < 5 → a ≠ b → (TX0 a).2.1 ≠ (TX0 b).2.1 := by decide +kernel
theorem tyX0_ok : ∀ k, k < 5 → parseFieldDescriptor (TX0 k).2.2.1 = some (tyX0 k) := by decide +kernel
abbrev cX0_init : ByteArray := prog_2_method_1_code
def yX0_init : MethodName := ⟨RX0, "<init>", "()V"⟩
abbrev cX0_length : ByteArray := prog_2_method_2_code
def yX0_length : MethodName := ⟨RX0, "length", "()I"⟩
abbrev cX0_factor : ByteArray := prog_2_method_3_code
def yX0_factor : MethodName := ⟨RX0, "factor", "(I)I"⟩
abbrev cX0_examine : ByteArray := prog_2_method_4_code
def yX0_examine : MethodName := ⟨RX0, "examine", "(LAheadRows$Cycle;I)V"⟩
abbrev cX0_begin : ByteArray := prog_2_method_5_code
def yX0_begin : MethodName := ⟨RX0, "begin", "(I)V"⟩
abbrev cX0_missAt : ByteArray := prog_2_method_6_code
def yX0_missAt : MethodName := ⟨RX0, "missAt", "(LAheadRows$Cycle;I)I"⟩
abbrev cX0_mend : ByteArray := prog_2_method_7_code
def yX0_mend : MethodName := ⟨RX0, "mend", "(II)V"⟩
abbrev cX0_inverse : ByteArray := prog_2_method_8_code
def yX0_inverse : MethodName := ⟨RX0, "inverse", "(I)I"⟩
def RX1 : String := "AheadRows$Cycle"
def TX1 : u_T := fun k => match k with
  | 0 => ("AheadRows$Cycle", "modulus", "I", true)
  | 1 => ("AheadRows$Cycle", "round", "I", true)
  | _ => ("AheadRows$Cycle", "values", "[I", true)
def tyX1 : Nat → FieldType := fun k => match k with
  | 0 => .int
  | 1 => .int
  | _ => .array .int
theorem nmX1 : ∀ a, a < 3 → ∀ b, b < 3 → a ≠ b → (TX1 a).2.1 ≠ (TX1 b).2.1 := by decide +kernel
theorem tyX1_ok : ∀ k, k < 3 → parseFieldDescriptor (TX1 k).2.2.1 = some (tyX1 k) := by decide +kernel
abbrev cX1_init : ByteArray := prog_3_method_1_code
def yX1_init : MethodName := ⟨RX1, "<init>", "(I)V"⟩
abbrev cX1_at : ByteArray := prog_3_method_2_code
def yX1_at : MethodName := ⟨RX1, "at", "(I)I"⟩
abbrev cX1_fillTold : ByteArray := prog_3_method_3_code
def yX1_fillTold : MethodName := ⟨RX1, "fillTold", "(IIII)V"⟩
abbrev cX1_fillSum : ByteArray := prog_3_method_4_code
def yX1_fillSum : MethodName := ⟨RX1, "fillSum", "(LAheadRows$Cycle;LAheadRows$Cycle;)V"⟩
abbrev cX1_fillProduct : ByteArray := prog_3_method_5_code
def yX1_fillProduct : MethodName := ⟨RX1, "fillProduct", "(LAheadRows$Cycle;LAheadRows$Cycle;)V"⟩
abbrev cX1_fillEach : ByteArray := prog_3_method_6_code
def yX1_fillEach : MethodName := ⟨RX1, "fillEach", "(LAheadRows$Cycle;II)V"⟩
abbrev cX1_fillStep : ByteArray := prog_3_method_7_code
def yX1_fillStep : MethodName := ⟨RX1, "fillStep", "(LAheadRows$Cycle;)V"⟩
abbrev cX1_shortestLap : ByteArray := prog_3_method_8_code
def yX1_shortestLap : MethodName := ⟨RX1, "shortestLap", "()I"⟩
abbrev cX1_repeatsAfter : ByteArray := prog_3_method_9_code
def yX1_repeatsAfter : MethodName := ⟨RX1, "repeatsAfter", "(I)Z"⟩
abbrev cX1_headFor : ByteArray := prog_3_method_10_code
def yX1_headFor : MethodName := ⟨RX1, "headFor", "(I)I"⟩
abbrev cX1_noughtsFrom : ByteArray := prog_3_method_11_code
def yX1_noughtsFrom : MethodName := ⟨RX1, "noughtsFrom", "(II)I"⟩
abbrev cX1_firstMeeting : ByteArray := prog_3_method_12_code
def yX1_firstMeeting : MethodName := ⟨RX1, "firstMeeting", "(LAheadRows$Cycle;)I"⟩
def RX2 : String := "AheadRows$Explanation"
def TX2 : u_T := fun k => match k with
  | 0 => ("AheadRows$Explanation", "degree", "I", false)
  | 1 => ("AheadRows$Explanation", "u", "I", false)
  | _ => ("AheadRows$Explanation", "v", "I", false)
def tyX2 : Nat → FieldType := fun k => match k with
  | 0 => .int
  | 1 => .int
  | _ => .int
theorem nmX2 : ∀ a, a < 3 → ∀ b, b < 3 → a ≠ b → (TX2 a).2.1 ≠ (TX2 b).2.1 := by decide +kernel
theorem tyX2_ok : ∀ k, k < 3 → parseFieldDescriptor (TX2 k).2.2.1 = some (tyX2 k) := by decide +kernel
abbrev cX2_init : ByteArray := prog_4_method_1_code
def yX2_init : MethodName := ⟨RX2, "<init>", "()V"⟩
abbrev cX2_degree : ByteArray := prog_4_method_2_code
def yX2_degree : MethodName := ⟨RX2, "degree", "()I"⟩
abbrev cX2_u : ByteArray := prog_4_method_3_code
def yX2_u : MethodName := ⟨RX2, "u", "()I"⟩
abbrev cX2_v : ByteArray := prog_4_method_4_code
def yX2_v : MethodName := ⟨RX2, "v", "()I"⟩
abbrev cX2_isFoundFor : ByteArray := prog_4_method_5_code
def yX2_isFoundFor : MethodName := ⟨RX2, "isFoundFor", "(LAheadRows$Numbers;)Z"⟩
abbrev cX2_isFoundByOne : ByteArray := prog_4_method_6_code
def yX2_isFoundByOne : MethodName := ⟨RX2, "isFoundByOne", "(LAheadRows$Numbers;)Z"⟩
abbrev cX2_isFoundByTwo : ByteArray := prog_4_method_7_code
def yX2_isFoundByTwo : MethodName := ⟨RX2, "isFoundByTwo", "(LAheadRows$Numbers;)Z"⟩
abbrev cX2_fits : ByteArray := prog_4_method_8_code
def yX2_fits : MethodName := ⟨RX2, "fits", "(LAheadRows$Numbers;)Z"⟩
def RX3 : String := "AheadRows$Ledger"
def TX3 : u_T := fun k => match k with
  | 0 => ("AheadRows$Ledger", "kinds", "[I", true)
  | 1 => ("AheadRows$Ledger", "numbers", "[I", true)
  | _ => ("AheadRows$Ledger", "size", "I", false)
def tyX3 : Nat → FieldType := fun k => match k with
  | 0 => .array .int
  | 1 => .array .int
  | _ => .int
theorem nmX3 : ∀ a, a < 3 → ∀ b, b < 3 → a ≠ b → (TX3 a).2.1 ≠ (TX3 b).2.1 := by decide +kernel
theorem tyX3_ok : ∀ k, k < 3 → parseFieldDescriptor (TX3 k).2.2.1 = some (tyX3 k) := by decide +kernel
abbrev cX3_init : ByteArray := prog_5_method_1_code
def yX3_init : MethodName := ⟨RX3, "<init>", "()V"⟩
abbrev cX3_size : ByteArray := prog_5_method_2_code
def yX3_size : MethodName := ⟨RX3, "size", "()I"⟩
abbrev cX3_holds : ByteArray := prog_5_method_3_code
def yX3_holds : MethodName := ⟨RX3, "holds", "(I)Z"⟩
abbrev cX3_isTold : ByteArray := prog_5_method_4_code
def yX3_isTold : MethodName := ⟨RX3, "isTold", "(I)Z"⟩
abbrev cX3_kindOf : ByteArray := prog_5_method_5_code
def yX3_kindOf : MethodName := ⟨RX3, "kindOf", "(I)I"⟩
abbrev cX3_numberOf : ByteArray := prog_5_method_6_code
def yX3_numberOf : MethodName := ⟨RX3, "numberOf", "(II)I"⟩
abbrev cX3_setNumber : ByteArray := prog_5_method_7_code
def yX3_setNumber : MethodName := ⟨RX3, "setNumber", "(III)V"⟩
abbrev cX3_append : ByteArray := prog_5_method_8_code
def yX3_append : MethodName := ⟨RX3, "append", "(IIIII)Z"⟩
abbrev cX3_write : ByteArray := prog_5_method_9_code
def yX3_write : MethodName := ⟨RX3, "write", "(IIIIII)V"⟩
abbrev cX3_removeLast : ByteArray := prog_5_method_10_code
def yX3_removeLast : MethodName := ⟨RX3, "removeLast", "()V"⟩
abbrev cX3_clear : ByteArray := prog_5_method_11_code
def yX3_clear : MethodName := ⟨RX3, "clear", "()V"⟩
abbrev cX3_copyFrom : ByteArray := prog_5_method_12_code
def yX3_copyFrom : MethodName := ⟨RX3, "copyFrom", "(LAheadRows$Ledger;)V"⟩
abbrev cX3_isPlace : ByteArray := prog_5_method_13_code
def yX3_isPlace : MethodName := ⟨RX3, "isPlace", "(I)Z"⟩
def RX4 : String := "AheadRows$Numbers"
def TX4 : u_T := fun k => match k with
  | 0 => ("AheadRows$Numbers", "values", "[I", true)
  | _ => ("AheadRows$Numbers", "size", "I", false)
def tyX4 : Nat → FieldType := fun k => match k with
  | 0 => .array .int
  | _ => .int
theorem nmX4 : ∀ a, a < 2 → ∀ b, b < 2 → a ≠ b → (TX4 a).2.1 ≠ (TX4 b).2.1 := by decide +kernel
theorem tyX4_ok : ∀ k, k < 2 → parseFieldDescriptor (TX4 k).2.2.1 = some (tyX4 k) := by decide +kernel
abbrev cX4_init : ByteArray := prog_6_method_1_code
def yX4_init : MethodName := ⟨RX4, "<init>", "(I)V"⟩
abbrev cX4_size : ByteArray := prog_6_method_2_code
def yX4_size : MethodName := ⟨RX4, "size", "()I"⟩
abbrev cX4_at : ByteArray := prog_6_method_3_code
def yX4_at : MethodName := ⟨RX4, "at", "(I)I"⟩
abbrev cX4_append : ByteArray := prog_6_method_4_code
def yX4_append : MethodName := ⟨RX4, "append", "(I)Z"⟩
abbrev cX4_clear : ByteArray := prog_6_method_5_code
def yX4_clear : MethodName := ⟨RX4, "clear", "()V"⟩
abbrev cX4_copyFrom : ByteArray := prog_6_method_6_code
def yX4_copyFrom : MethodName := ⟨RX4, "copyFrom", "(LAheadRows$Numbers;)V"⟩
def RX5 : String := "AheadRows$Reader"
def TX5 : u_T := fun k => match k with
  | 0 => ("AheadRows$Reader", "draft", "LAheadRows$Ledger;", true)
  | 1 => ("AheadRows$Reader", "kind", "I", false)
  | _ => ("AheadRows$Reader", "taken", "I", false)
def tyX5 : Nat → FieldType := fun k => match k with
  | 0 => .object "AheadRows$Ledger"
  | 1 => .int
  | _ => .int
theorem nmX5 : ∀ a, a < 3 → ∀ b, b < 3 → a ≠ b → (TX5 a).2.1 ≠ (TX5 b).2.1 := by decide +kernel
theorem tyX5_ok : ∀ k, k < 3 → parseFieldDescriptor (TX5 k).2.2.1 = some (tyX5 k) := by decide +kernel
abbrev cX5_init : ByteArray := prog_7_method_1_code
def yX5_init : MethodName := ⟨RX5, "<init>", "()V"⟩
abbrev cX5_draft : ByteArray := prog_7_method_2_code
def yX5_draft : MethodName := ⟨RX5, "draft", "()LAheadRows$Ledger;"⟩
abbrev cX5_isWhole : ByteArray := prog_7_method_3_code
def yX5_isWhole : MethodName := ⟨RX5, "isWhole", "(LAheadRows$Numbers;)Z"⟩
abbrev cX5_faultOf : ByteArray := prog_7_method_4_code
def yX5_faultOf : MethodName := ⟨RX5, "faultOf", "(LAheadRows$Numbers;)I"⟩
abbrev cX5_takes : ByteArray := prog_7_method_5_code
def yX5_takes : MethodName := ⟨RX5, "takes", "(I)Z"⟩
abbrev cX5_isRowWhole : ByteArray := prog_7_method_6_code
def yX5_isRowWhole : MethodName := ⟨RX5, "isRowWhole", "()Z"⟩
abbrev cX5_takesMark : ByteArray := prog_7_method_7_code
def yX5_takesMark : MethodName := ⟨RX5, "takesMark", "(I)Z"⟩
abbrev cX5_takesDivider : ByteArray := prog_7_method_8_code
def yX5_takesDivider : MethodName := ⟨RX5, "takesDivider", "(I)Z"⟩
abbrev cX5_takesNumber : ByteArray := prog_7_method_9_code
def yX5_takesNumber : MethodName := ⟨RX5, "takesNumber", "(I)Z"⟩
abbrev cX5_leastNumber : ByteArray := prog_7_method_10_code
def yX5_leastNumber : MethodName := ⟨RX5, "leastNumber", "()I"⟩
abbrev cX5_mostNumber : ByteArray := prog_7_method_11_code
def yX5_mostNumber : MethodName := ⟨RX5, "mostNumber", "()I"⟩
abbrev cX5_kindMarkedBy : ByteArray := prog_7_method_12_code
def yX5_kindMarkedBy : MethodName := ⟨RX5, "kindMarkedBy", "(I)I"⟩
abbrev cX5_valueOf : ByteArray := prog_7_method_13_code
def yX5_valueOf : MethodName := ⟨RX5, "valueOf", "(I)I"⟩
def RX6 : String := "AheadRows$Remainders"
def TX6 : u_T := fun k => match k with
  | 0 => ("AheadRows$Remainders", "cycles", "[LAheadRows$Cycle;", true)
  | _ => ("AheadRows$Remainders", "known", "[I", true)
def tyX6 : Nat → FieldType := fun k => match k with
  | 0 => .array (.object "AheadRows$Cycle")
  | _ => .array .int
theorem nmX6 : ∀ a, a < 2 → ∀ b, b < 2 → a ≠ b → (TX6 a).2.1 ≠ (TX6 b).2.1 := by decide +kernel
theorem tyX6_ok : ∀ k, k < 2 → parseFieldDescriptor (TX6 k).2.2.1 = some (tyX6 k) := by decide +kernel
abbrev cX6_init : ByteArray := prog_8_method_1_code
def yX6_init : MethodName := ⟨RX6, "<init>", "()V"⟩
abbrev cX6_forgetFrom : ByteArray := prog_8_method_2_code
def yX6_forgetFrom : MethodName := ⟨RX6, "forgetFrom", "(I)V"⟩
abbrev cX6_cycleOf : ByteArray := prog_8_method_3_code
def yX6_cycleOf : MethodName := ⟨RX6, "cycleOf", "(LAheadRows$Ledger;II)LAheadRows$Cycle;"⟩
abbrev cX6_filled : ByteArray := prog_8_method_4_code
def yX6_filled : MethodName := ⟨RX6, "filled", "(II)LAheadRows$Cycle;"⟩
abbrev cX6_fill : ByteArray := prog_8_method_5_code
def yX6_fill : MethodName := ⟨RX6, "fill", "(LAheadRows$Ledger;II)V"⟩
def RX7 : String := "AheadRows$Roots"
def TX7 : u_T := fun k => match k with
  | _ => ("", "", "", false)
def tyX7 : Nat → FieldType := fun k => match k with
  | _ => .int
theorem nmX7 : ∀ a, a < 0 → ∀ b, b < 0 → a ≠ b → (TX7 a).2.1 ≠ (TX7 b).2.1 := by decide +kernel
theorem tyX7_ok : ∀ k, k < 0 → parseFieldDescriptor (TX7 k).2.2.1 = some (tyX7 k) := by decide +kernel
abbrev cX7_differentReal : ByteArray := prog_9_method_2_code
def yX7_differentReal : MethodName := ⟨RX7, "differentReal", "(II)I"⟩
abbrev cX7_greater : ByteArray := prog_9_method_3_code
def yX7_greater : MethodName := ⟨RX7, "greater", "(II)I"⟩
abbrev cX7_lesser : ByteArray := prog_9_method_4_code
def yX7_lesser : MethodName := ⟨RX7, "lesser", "(II)I"⟩
abbrev cX7_order : ByteArray := prog_9_method_5_code
def yX7_order : MethodName := ⟨RX7, "order", "(II)I"⟩
abbrev cX7_farthestSign : ByteArray := prog_9_method_6_code
def yX7_farthestSign : MethodName := ⟨RX7, "farthestSign", "(II)I"⟩
abbrev cX7_signOf : ByteArray := prog_9_method_7_code
def yX7_signOf : MethodName := ⟨RX7, "signOf", "(I)I"⟩
abbrev cX7_discriminant : ByteArray := prog_9_method_8_code
def yX7_discriminant : MethodName := ⟨RX7, "discriminant", "(II)I"⟩
abbrev cX7_wholeRootOf : ByteArray := prog_9_method_9_code
def yX7_wholeRootOf : MethodName := ⟨RX7, "wholeRootOf", "(I)I"⟩
def RX8 : String := "AheadRows$Rule"
def TX8 : u_T := fun k => match k with
  | _ => ("", "", "", false)
def tyX8 : Nat → FieldType := fun k => match k with
  | _ => .int
theorem nmX8 : ∀ a, a < 0 → ∀ b, b < 0 → a ≠ b → (TX8 a).2.1 ≠ (TX8 b).2.1 := by decide +kernel
theorem tyX8_ok : ∀ k, k < 0 → parseFieldDescriptor (TX8 k).2.2.1 = some (tyX8 k) := by decide +kernel
abbrev cX8_degreeOf : ByteArray := prog_10_method_2_code
def yX8_degreeOf : MethodName := ⟨RX8, "degreeOf", "(LAheadRows$Ledger;I)I"⟩
abbrev cX8_factorOf : ByteArray := prog_10_method_3_code
def yX8_factorOf : MethodName := ⟨RX8, "factorOf", "(LAheadRows$Ledger;II)I"⟩
abbrev cX8_ofTwo : ByteArray := prog_10_method_4_code
def yX8_ofTwo : MethodName := ⟨RX8, "ofTwo", "(III)I"⟩
abbrev cX8_ofPowers : ByteArray := prog_10_method_5_code
def yX8_ofPowers : MethodName := ⟨RX8, "ofPowers", "(IIII)I"⟩
abbrev cX8_ofSum : ByteArray := prog_10_method_6_code
def yX8_ofSum : MethodName := ⟨RX8, "ofSum", "(IIIII)I"⟩
abbrev cX8_ofProduct : ByteArray := prog_10_method_7_code
def yX8_ofProduct : MethodName := ⟨RX8, "ofProduct", "(IIIII)I"⟩
def RX9 : String := "AheadRows$Terms"
def TX9 : u_T := fun k => match k with
  | 0 => ("AheadRows$Terms", "values", "[I", true)
  | _ => ("AheadRows$Terms", "known", "I", false)
def tyX9 : Nat → FieldType := fun k => match k with
  | 0 => .array .int
  | _ => .int
theorem nmX9 : ∀ a, a < 2 → ∀ b, b < 2 → a ≠ b → (TX9 a).2.1 ≠ (TX9 b).2.1 := by decide +kernel
theorem tyX9_ok : ∀ k, k < 2 → parseFieldDescriptor (TX9 k).2.2.1 = some (tyX9 k) := by decide +kernel
abbrev cX9_init : ByteArray := prog_11_method_1_code
def yX9_init : MethodName := ⟨RX9, "<init>", "()V"⟩
abbrev cX9_forgetFrom : ByteArray := prog_11_method_2_code
def yX9_forgetFrom : MethodName := ⟨RX9, "forgetFrom", "(I)V"⟩
abbrev cX9_at : ByteArray := prog_11_method_3_code
def yX9_at : MethodName := ⟨RX9, "at", "(LAheadRows$Ledger;II)I"⟩
abbrev cX9_valueAt : ByteArray := prog_11_method_4_code
def yX9_valueAt : MethodName := ⟨RX9, "valueAt", "(II)I"⟩
abbrev cX9_fill : ByteArray := prog_11_method_5_code
def yX9_fill : MethodName := ⟨RX9, "fill", "(LAheadRows$Ledger;I)V"⟩
abbrev cX9_fillTold : ByteArray := prog_11_method_6_code
def yX9_fillTold : MethodName := ⟨RX9, "fillTold", "(IIIII)V"⟩
abbrev cX9_madeAt : ByteArray := prog_11_method_7_code
def yX9_madeAt : MethodName := ⟨RX9, "madeAt", "(IIIII)I"⟩
abbrev cX9_exactOrFar : ByteArray := prog_11_method_8_code
def yX9_exactOrFar : MethodName := ⟨RX9, "exactOrFar", "(IIJ)I"⟩
def RX10 : String := "AheadRows"
def TX10 : u_T := fun k => match k with
  | 0 => ("AheadRows", "ledger", "LAheadRows$Ledger;", true)
  | 1 => ("AheadRows", "given", "LAheadRows$Numbers;", true)
  | 2 => ("AheadRows", "page", "LAheadRows$Numbers;", true)
  | 3 => ("AheadRows", "reader", "LAheadRows$Reader;", true)
  | 4 => ("AheadRows", "explanation", "LAheadRows$Explanation;", true)
  | 5 => ("AheadRows", "terms", "LAheadRows$Terms;", true)
  | 6 => ("AheadRows", "remainders", "LAheadRows$Remainders;", true)
  | 7 => ("AheadRows", "complexity", "LAheadRows$Complexity;", true)
  | 8 => ("AheadRows", "drawnCycle", "LAheadRows$Cycle;", true)
  | 9 => ("AheadRows", "keptLedger", "LAheadRows$Ledger;", true)
  | 10 => ("AheadRows", "keptGiven", "LAheadRows$Numbers;", true)
  | 11 => ("AheadRows", "imageStands", "Z", false)
  | _ => ("AheadRows", "timesRead", "I", false)
def tyX10 : Nat → FieldType := fun k => match k with
  | 0 => .object "AheadRows$Ledger"
  | 1 => .object "AheadRows$Numbers"
  | 2 => .object "AheadRows$Numbers"
  | 3 => .object "AheadRows$Reader"
  | 4 => .object "AheadRows$Explanation"
  | 5 => .object "AheadRows$Terms"
  | 6 => .object "AheadRows$Remainders"
  | 7 => .object "AheadRows$Complexity"
  | 8 => .object "AheadRows$Cycle"
  | 9 => .object "AheadRows$Ledger"
  | 10 => .object "AheadRows$Numbers"
  | 11 => .boolean
  | _ => .int
theorem nmX10 : ∀ a, a < 13 → ∀ b, b < 13 → a ≠ b → (TX10 a).2.1 ≠ (TX10 b).2.1 := by decide +kernel
theorem tyX10_ok : ∀ k, k < 13 → parseFieldDescriptor (TX10 k).2.2.1 = some (tyX10 k) := by decide +kernel
abbrev cX10_init : ByteArray := prog_1_method_1_code
def yX10_init : MethodName := ⟨RX10, "<init>", "()V"⟩
abbrev cX10_letter : ByteArray := prog_1_method_2_code
def yX10_letter : MethodName := ⟨RX10, "letter", "(I)I"⟩
abbrev cX10_blank : ByteArray := prog_1_method_3_code
def yX10_blank : MethodName := ⟨RX10, "blank", "()I"⟩
abbrev cX10_fault : ByteArray := prog_1_method_4_code
def yX10_fault : MethodName := ⟨RX10, "fault", "()I"⟩
abbrev cX10_rows : ByteArray := prog_1_method_5_code
def yX10_rows : MethodName := ⟨RX10, "rows", "()I"⟩
abbrev cX10_row : ByteArray := prog_1_method_6_code
def yX10_row : MethodName := ⟨RX10, "row", "(II)I"⟩
abbrev cX10_as : ByteArray := prog_1_method_7_code
def yX10_as : MethodName := ⟨RX10, "as", "(II)I"⟩
abbrev cX10_term : ByteArray := prog_1_method_8_code
def yX10_term : MethodName := ⟨RX10, "term", "(II)I"⟩
abbrev cX10_by : ByteArray := prog_1_method_9_code
def yX10_by : MethodName := ⟨RX10, "by", "(III)I"⟩
abbrev cX10_lap : ByteArray := prog_1_method_10_code
def yX10_lap : MethodName := ⟨RX10, "lap", "(III)I"⟩
abbrev cX10_least : ByteArray := prog_1_method_11_code
def yX10_least : MethodName := ⟨RX10, "least", "(III)I"⟩
abbrev cX10_rule : ByteArray := prog_1_method_12_code
def yX10_rule : MethodName := ⟨RX10, "rule", "(II)I"⟩
abbrev cX10_roots : ByteArray := prog_1_method_13_code
def yX10_roots : MethodName := ⟨RX10, "roots", "(II)I"⟩
abbrev cX10_noughts : ByteArray := prog_1_method_14_code
def yX10_noughts : MethodName := ⟨RX10, "noughts", "(I)I"⟩
abbrev cX10_ends : ByteArray := prog_1_method_15_code
def yX10_ends : MethodName := ⟨RX10, "ends", "(I)I"⟩
abbrev cX10_open : ByteArray := prog_1_method_16_code
def yX10_open : MethodName := ⟨RX10, "open", "(II)I"⟩
abbrev cX10_meets : ByteArray := prog_1_method_17_code
def yX10_meets : MethodName := ⟨RX10, "meets", "(III)I"⟩
abbrev cX10_told : ByteArray := prog_1_method_18_code
def yX10_told : MethodName := ⟨RX10, "told", "(IIII)I"⟩
abbrev cX10_sum : ByteArray := prog_1_method_19_code
def yX10_sum : MethodName := ⟨RX10, "sum", "(II)I"⟩
abbrev cX10_product : ByteArray := prog_1_method_20_code
def yX10_product : MethodName := ⟨RX10, "product", "(II)I"⟩
abbrev cX10_each : ByteArray := prog_1_method_21_code
def yX10_each : MethodName := ⟨RX10, "each", "(III)I"⟩
abbrev cX10_step : ByteArray := prog_1_method_22_code
def yX10_step : MethodName := ⟨RX10, "step", "(I)I"⟩
abbrev cX10_put : ByteArray := prog_1_method_23_code
def yX10_put : MethodName := ⟨RX10, "put", "(III)I"⟩
abbrev cX10_drop : ByteArray := prog_1_method_24_code
def yX10_drop : MethodName := ⟨RX10, "drop", "()I"⟩
abbrev cX10_ease : ByteArray := prog_1_method_25_code
def yX10_ease : MethodName := ⟨RX10, "ease", "(I)I"⟩
abbrev cX10_give : ByteArray := prog_1_method_26_code
def yX10_give : MethodName := ⟨RX10, "give", "(I)I"⟩
abbrev cX10_forget : ByteArray := prog_1_method_27_code
def yX10_forget : MethodName := ⟨RX10, "forget", "()I"⟩
abbrev cX10_guess : ByteArray := prog_1_method_28_code
def yX10_guess : MethodName := ⟨RX10, "guess", "(I)I"⟩
abbrev cX10_found : ByteArray := prog_1_method_29_code
def yX10_found : MethodName := ⟨RX10, "found", "()I"⟩
abbrev cX10_drawn : ByteArray := prog_1_method_30_code
def yX10_drawn : MethodName := ⟨RX10, "drawn", "(III)I"⟩
abbrev cX10_image : ByteArray := prog_1_method_31_code
def yX10_image : MethodName := ⟨RX10, "image", "()I"⟩
abbrev cX10_restore : ByteArray := prog_1_method_32_code
def yX10_restore : MethodName := ⟨RX10, "restore", "()I"⟩
abbrev cX10_count : ByteArray := prog_1_method_33_code
def yX10_count : MethodName := ⟨RX10, "count", "(I)I"⟩
abbrev cX10_digest : ByteArray := prog_1_method_34_code
def yX10_digest : MethodName := ⟨RX10, "digest", "()J"⟩
abbrev cX10_digestWithRow : ByteArray := prog_1_method_35_code
def yX10_digestWithRow : MethodName := ⟨RX10, "digestWithRow", "(JI)J"⟩
abbrev cX10_added : ByteArray := prog_1_method_36_code
def yX10_added : MethodName := ⟨RX10, "added", "(IIIII)I"⟩
abbrev cX10_changedFrom : ByteArray := prog_1_method_37_code
def yX10_changedFrom : MethodName := ⟨RX10, "changedFrom", "(I)V"⟩
abbrev cX10_isOpenAt : ByteArray := prog_1_method_38_code
def yX10_isOpenAt : MethodName := ⟨RX10, "isOpenAt", "(II)Z"⟩
abbrev cX10_hasRemainderNought : ByteArray := prog_1_method_39_code
def yX10_hasRemainderNought : MethodName := ⟨RX10, "hasRemainderNought", "(III)Z"⟩
abbrev cX10_isEasy : ByteArray := prog_1_method_40_code
def yX10_isEasy : MethodName := ⟨RX10, "isEasy", "(I)Z"⟩
abbrev cX10_isPartOfPowers : ByteArray := prog_1_method_41_code
def yX10_isPartOfPowers : MethodName := ⟨RX10, "isPartOfPowers", "(II)Z"⟩
abbrev cX10_numberOfPart : ByteArray := prog_1_method_42_code
def yX10_numberOfPart : MethodName := ⟨RX10, "numberOfPart", "(III)I"⟩
abbrev cX10_toldRows : ByteArray := prog_1_method_43_code
def yX10_toldRows : MethodName := ⟨RX10, "toldRows", "()I"⟩
abbrev cX10_degenerateRows : ByteArray := prog_1_method_44_code
def yX10_degenerateRows : MethodName := ⟨RX10, "degenerateRows", "()I"⟩
abbrev cX10_nextState : ByteArray := prog_1_method_45_code
def yX10_nextState : MethodName := ⟨RX10, "nextState", "(I)I"⟩
abbrev cX10_numberDrawnAt : ByteArray := prog_1_method_46_code
def yX10_numberDrawnAt : MethodName := ⟨RX10, "numberDrawnAt", "(I)I"⟩
abbrev cX10_numbersOf : ByteArray := prog_1_method_47_code
def yX10_numbersOf : MethodName := ⟨RX10, "numbersOf", "(I)I"⟩
abbrev cX10_classAbove : ByteArray := prog_1_method_48_code
def yX10_classAbove : MethodName := ⟨RX10, "classAbove", "(I)I"⟩
abbrev cX10_isTellable : ByteArray := prog_1_method_49_code
def yX10_isTellable : MethodName := ⟨RX10, "isTellable", "(IIII)Z"⟩
abbrev cX10_isModulus : ByteArray := prog_1_method_50_code
def yX10_isModulus : MethodName := ⟨RX10, "isModulus", "(I)Z"⟩
abbrev cX10_isPrime : ByteArray := prog_1_method_51_code
def yX10_isPrime : MethodName := ⟨RX10, "isPrime", "(I)Z"⟩
abbrev cX10_isWithin : ByteArray := prog_1_method_52_code
def yX10_isWithin : MethodName := ⟨RX10, "isWithin", "(III)Z"⟩
def RX11 : String := "AheadRowsModel"
def TX11 : u_T := fun k => match k with
  | 0 => ("AheadRowsModel", "rowMany", "I", false)
  | 1 => ("AheadRowsModel", "kind", "[I", true)
  | 2 => ("AheadRowsModel", "part", "[I", true)
  | 3 => ("AheadRowsModel", "reads", "I", false)
  | 4 => ("AheadRowsModel", "given", "I", false)
  | 5 => ("AheadRowsModel", "givenAt", "[I", true)
  | 6 => ("AheadRowsModel", "pageLength", "I", false)
  | 7 => ("AheadRowsModel", "page", "[B", true)
  | 8 => ("AheadRowsModel", "newMany", "I", false)
  | 9 => ("AheadRowsModel", "newSigns", "I", false)
  | 10 => ("AheadRowsModel", "newKind", "[I", true)
  | 11 => ("AheadRowsModel", "newPart", "[I", true)
  | 12 => ("AheadRowsModel", "begins", "Z", false)
  | 13 => ("AheadRowsModel", "isLaid", "Z", false)
  | 14 => ("AheadRowsModel", "laidBy", "I", false)
  | 15 => ("AheadRowsModel", "terms", "[I", true)
  | 16 => ("AheadRowsModel", "lead", "[I", true)
  | 17 => ("AheadRowsModel", "turn", "[I", true)
  | 18 => ("AheadRowsModel", "rests", "[B", true)
  | 19 => ("AheadRowsModel", "met", "[I", true)
  | 20 => ("AheadRowsModel", "table", "[I", true)
  | 21 => ("AheadRowsModel", "found", "[I", true)
  | 22 => ("AheadRowsModel", "isOpen", "[Z", true)
  | 23 => ("AheadRowsModel", "guessU", "I", false)
  | 24 => ("AheadRowsModel", "guessV", "I", false)
  | 25 => ("AheadRowsModel", "seedNow", "J", false)
  | 26 => ("AheadRowsModel", "keptReads", "I", false)
  | 27 => ("AheadRowsModel", "keptRows", "I", false)
  | 28 => ("AheadRowsModel", "keptGiven", "I", false)
  | 29 => ("AheadRowsModel", "keptKind", "[I", true)
  | 30 => ("AheadRowsModel", "keptPart", "[I", true)
  | 31 => ("AheadRowsModel", "keptAt", "[I", true)
  | _ => ("AheadRowsModel", "h", "J", false)
def tyX11 : Nat → FieldType := fun k => match k with
  | 0 => .int
  | 1 => .array .int
  | 2 => .array .int
  | 3 => .int
  | 4 => .int
  | 5 => .array .int
  | 6 => .int
  | 7 => .array .byte
  | 8 => .int
  | 9 => .int
  | 10 => .array .int
  | 11 => .array .int
  | 12 => .boolean
  | 13 => .boolean
  | 14 => .int
  | 15 => .array .int
  | 16 => .array .int
  | 17 => .array .int
  | 18 => .array .byte
  | 19 => .array .int
  | 20 => .array .int
  | 21 => .array .int
  | 22 => .array .boolean
  | 23 => .int
  | 24 => .int
  | 25 => .long
  | 26 => .int
  | 27 => .int
  | 28 => .int
  | 29 => .array .int
  | 30 => .array .int
  | 31 => .array .int
  | _ => .long
theorem nmX11 : ∀ a, a < 33 → ∀ b, b < 33 → a ≠ b → (TX11 a).2.1 ≠ (TX11 b).2.1 := by decide +kernel
theorem tyX11_ok : ∀ k, k < 33 → parseFieldDescriptor (TX11 k).2.2.1 = some (tyX11 k) := by decide +kernel
abbrev cX11_init : ByteArray := prog_13_method_1_code
def yX11_init : MethodName := ⟨RX11, "<init>", "()V"⟩
abbrev cX11_within : ByteArray := prog_13_method_3_code
def yX11_within : MethodName := ⟨RX11, "within", "(III)Z"⟩
abbrev cX11_letter : ByteArray := prog_13_method_4_code
def yX11_letter : MethodName := ⟨RX11, "letter", "(I)I"⟩
abbrev cX11_blank : ByteArray := prog_13_method_5_code
def yX11_blank : MethodName := ⟨RX11, "blank", "()I"⟩
abbrev cX11_kindBy : ByteArray := prog_13_method_6_code
def yX11_kindBy : MethodName := ⟨RX11, "kindBy", "(I)I"⟩
abbrev cX11_signsOf : ByteArray := prog_13_method_7_code
def yX11_signsOf : MethodName := ⟨RX11, "signsOf", "(I)I"⟩
abbrev cX11_valueOf : ByteArray := prog_13_method_8_code
def yX11_valueOf : MethodName := ⟨RX11, "valueOf", "(I)I"⟩
abbrev cX11_fitsSign : ByteArray := prog_13_method_9_code
def yX11_fitsSign : MethodName := ⟨RX11, "fitsSign", "(I)Z"⟩
abbrev cX11_isDone : ByteArray := prog_13_method_10_code
def yX11_isDone : MethodName := ⟨RX11, "isDone", "()Z"⟩
abbrev cX11_takes : ByteArray := prog_13_method_11_code
def yX11_takes : MethodName := ⟨RX11, "takes", "(I)Z"⟩
abbrev cX11_takesKind : ByteArray := prog_13_method_12_code
def yX11_takesKind : MethodName := ⟨RX11, "takesKind", "(I)Z"⟩
abbrev cX11_read : ByteArray := prog_13_method_13_code
def yX11_read : MethodName := ⟨RX11, "read", "()I"⟩
abbrev cX11_fault : ByteArray := prog_13_method_14_code
def yX11_fault : MethodName := ⟨RX11, "fault", "()I"⟩
abbrev cX11_rows : ByteArray := prog_13_method_15_code
def yX11_rows : MethodName := ⟨RX11, "rows", "()I"⟩
abbrev cX11_changes : ByteArray := prog_13_method_16_code
def yX11_changes : MethodName := ⟨RX11, "changes", "()V"⟩
abbrev cX11_termAt : ByteArray := prog_13_method_17_code
def yX11_termAt : MethodName := ⟨RX11, "termAt", "(II)I"⟩
abbrev cX11_near : ByteArray := prog_13_method_18_code
def yX11_near : MethodName := ⟨RX11, "near", "(J)I"⟩
abbrev cX11_toldTerm : ByteArray := prog_13_method_19_code
def yX11_toldTerm : MethodName := ⟨RX11, "toldTerm", "(II)I"⟩
abbrev cX11_bothTerm : ByteArray := prog_13_method_20_code
def yX11_bothTerm : MethodName := ⟨RX11, "bothTerm", "(II)I"⟩
abbrev cX11_stepTerm : ByteArray := prog_13_method_21_code
def yX11_stepTerm : MethodName := ⟨RX11, "stepTerm", "(II)I"⟩
abbrev cX11_madeTerm : ByteArray := prog_13_method_22_code
def yX11_madeTerm : MethodName := ⟨RX11, "madeTerm", "(II)I"⟩
abbrev cX11_layTerms : ByteArray := prog_13_method_23_code
def yX11_layTerms : MethodName := ⟨RX11, "layTerms", "()V"⟩
abbrev cX11_termOf : ByteArray := prog_13_method_24_code
def yX11_termOf : MethodName := ⟨RX11, "termOf", "(II)I"⟩
abbrev cX11_restAt : ByteArray := prog_13_method_25_code
def yX11_restAt : MethodName := ⟨RX11, "restAt", "(IJ)I"⟩
abbrev cX11_common : ByteArray := prog_13_method_26_code
def yX11_common : MethodName := ⟨RX11, "common", "(II)I"⟩
abbrev cX11_mod : ByteArray := prog_13_method_27_code
def yX11_mod : MethodName := ⟨RX11, "mod", "(II)I"⟩
abbrev cX11_layTold : ByteArray := prog_13_method_28_code
def yX11_layTold : MethodName := ⟨RX11, "layTold", "(II)V"⟩
abbrev cX11_madeRest : ByteArray := prog_13_method_29_code
def yX11_madeRest : MethodName := ⟨RX11, "madeRest", "(III)I"⟩
abbrev cX11_layTurn : ByteArray := prog_13_method_30_code
def yX11_layTurn : MethodName := ⟨RX11, "layTurn", "(I)V"⟩
abbrev cX11_layRest : ByteArray := prog_13_method_31_code
def yX11_layRest : MethodName := ⟨RX11, "layRest", "(II)V"⟩
abbrev cX11_layRests : ByteArray := prog_13_method_32_code
def yX11_layRests : MethodName := ⟨RX11, "layRests", "(I)V"⟩
abbrev cX11_comesAgain : ByteArray := prog_13_method_33_code
def yX11_comesAgain : MethodName := ⟨RX11, "comesAgain", "(III)Z"⟩
abbrev cX11_lapOf : ByteArray := prog_13_method_34_code
def yX11_lapOf : MethodName := ⟨RX11, "lapOf", "(I)I"⟩
abbrev cX11_headOf : ByteArray := prog_13_method_35_code
def yX11_headOf : MethodName := ⟨RX11, "headOf", "(I)I"⟩
abbrev cX11_zerosOf : ByteArray := prog_13_method_36_code
def yX11_zerosOf : MethodName := ⟨RX11, "zerosOf", "(I)I"⟩
abbrev cX11_isRow : ByteArray := prog_13_method_37_code
def yX11_isRow : MethodName := ⟨RX11, "isRow", "(I)Z"⟩
abbrev cX11_row : ByteArray := prog_13_method_38_code
def yX11_row : MethodName := ⟨RX11, "row", "(II)I"⟩
abbrev cX11_isSuch : ByteArray := prog_13_method_39_code
def yX11_isSuch : MethodName := ⟨RX11, "isSuch", "(II)Z"⟩
abbrev cX11_as : ByteArray := prog_13_method_40_code
def yX11_as : MethodName := ⟨RX11, "as", "(II)I"⟩
abbrev cX11_term : ByteArray := prog_13_method_41_code
def yX11_term : MethodName := ⟨RX11, "term", "(II)I"⟩
abbrev cX11_byNow : ByteArray := prog_13_method_42_code
def yX11_byNow : MethodName := ⟨RX11, "byNow", "(III)I"⟩
abbrev cX11_by : ByteArray := prog_13_method_43_code
def yX11_by : MethodName := ⟨RX11, "by", "(III)I"⟩
abbrev cX11_lapNow : ByteArray := prog_13_method_44_code
def yX11_lapNow : MethodName := ⟨RX11, "lapNow", "(III)I"⟩
abbrev cX11_lap : ByteArray := prog_13_method_45_code
def yX11_lap : MethodName := ⟨RX11, "lap", "(III)I"⟩
abbrev cX11_layTable : ByteArray := prog_13_method_46_code
def yX11_layTable : MethodName := ⟨RX11, "layTable", "(II)V"⟩
abbrev cX11_swapLines : ByteArray := prog_13_method_47_code
def yX11_swapLines : MethodName := ⟨RX11, "swapLines", "(II)V"⟩
abbrev cX11_makeOne : ByteArray := prog_13_method_48_code
def yX11_makeOne : MethodName := ⟨RX11, "makeOne", "(III)V"⟩
abbrev cX11_takeAway : ByteArray := prog_13_method_49_code
def yX11_takeAway : MethodName := ⟨RX11, "takeAway", "(IIII)V"⟩
abbrev cX11_lineWith : ByteArray := prog_13_method_50_code
def yX11_lineWith : MethodName := ⟨RX11, "lineWith", "(III)I"⟩
abbrev cX11_isSolved : ByteArray := prog_13_method_51_code
def yX11_isSolved : MethodName := ⟨RX11, "isSolved", "(III)Z"⟩
abbrev cX11_isMet : ByteArray := prog_13_method_52_code
def yX11_isMet : MethodName := ⟨RX11, "isMet", "(III)Z"⟩
abbrev cX11_leastNow : ByteArray := prog_13_method_53_code
def yX11_leastNow : MethodName := ⟨RX11, "leastNow", "(III)I"⟩
abbrev cX11_isPrime : ByteArray := prog_13_method_54_code
def yX11_isPrime : MethodName := ⟨RX11, "isPrime", "(I)Z"⟩
abbrev cX11_least : ByteArray := prog_13_method_55_code
def yX11_least : MethodName := ⟨RX11, "least", "(III)I"⟩
abbrev cX11_isTold : ByteArray := prog_13_method_56_code
def yX11_isTold : MethodName := ⟨RX11, "isTold", "(I)Z"⟩
abbrev cX11_arePartsTold : ByteArray := prog_13_method_57_code
def yX11_arePartsTold : MethodName := ⟨RX11, "arePartsTold", "(I)Z"⟩
abbrev cX11_powers : ByteArray := prog_13_method_58_code
def yX11_powers : MethodName := ⟨RX11, "powers", "(III)I"⟩
abbrev cX11_power : ByteArray := prog_13_method_59_code
def yX11_power : MethodName := ⟨RX11, "power", "(II)I"⟩
abbrev cX11_bothRule : ByteArray := prog_13_method_60_code
def yX11_bothRule : MethodName := ⟨RX11, "bothRule", "(II)I"⟩
abbrev cX11_twoRule : ByteArray := prog_13_method_61_code
def yX11_twoRule : MethodName := ⟨RX11, "twoRule", "(II)I"⟩
abbrev cX11_ruleNow : ByteArray := prog_13_method_62_code
def yX11_ruleNow : MethodName := ⟨RX11, "ruleNow", "(II)I"⟩
abbrev cX11_rule : ByteArray := prog_13_method_63_code
def yX11_rule : MethodName := ⟨RX11, "rule", "(II)I"⟩
abbrev cX11_spread : ByteArray := prog_13_method_64_code
def yX11_spread : MethodName := ⟨RX11, "spread", "(II)I"⟩
abbrev cX11_wholeRoot : ByteArray := prog_13_method_65_code
def yX11_wholeRoot : MethodName := ⟨RX11, "wholeRoot", "(I)I"⟩
abbrev cX11_degenerate : ByteArray := prog_13_method_66_code
def yX11_degenerate : MethodName := ⟨RX11, "degenerate", "(II)I"⟩
abbrev cX11_rootsNow : ByteArray := prog_13_method_67_code
def yX11_rootsNow : MethodName := ⟨RX11, "rootsNow", "(III)I"⟩
abbrev cX11_roots : ByteArray := prog_13_method_68_code
def yX11_roots : MethodName := ⟨RX11, "roots", "(II)I"⟩
abbrev cX11_noughtsOf : ByteArray := prog_13_method_69_code
def yX11_noughtsOf : MethodName := ⟨RX11, "noughtsOf", "(I)I"⟩
abbrev cX11_noughts : ByteArray := prog_13_method_70_code
def yX11_noughts : MethodName := ⟨RX11, "noughts", "(I)I"⟩
abbrev cX11_ends : ByteArray := prog_13_method_71_code
def yX11_ends : MethodName := ⟨RX11, "ends", "(I)I"⟩
abbrev cX11_layOpen : ByteArray := prog_13_method_72_code
def yX11_layOpen : MethodName := ⟨RX11, "layOpen", "(I)V"⟩
abbrev cX11_openNow : ByteArray := prog_13_method_73_code
def yX11_openNow : MethodName := ⟨RX11, "openNow", "(II)I"⟩
abbrev cX11_open : ByteArray := prog_13_method_74_code
def yX11_open : MethodName := ⟨RX11, "open", "(II)I"⟩
abbrev cX11_meetsNow : ByteArray := prog_13_method_75_code
def yX11_meetsNow : MethodName := ⟨RX11, "meetsNow", "(III)I"⟩
abbrev cX11_meets : ByteArray := prog_13_method_76_code
def yX11_meets : MethodName := ⟨RX11, "meets", "(III)I"⟩
abbrev cX11_lay : ByteArray := prog_13_method_77_code
def yX11_lay : MethodName := ⟨RX11, "lay", "(IIIIII)V"⟩
abbrev cX11_comes : ByteArray := prog_13_method_78_code
def yX11_comes : MethodName := ⟨RX11, "comes", "(IIIII)I"⟩
abbrev cX11_isFew : ByteArray := prog_13_method_79_code
def yX11_isFew : MethodName := ⟨RX11, "isFew", "(I)Z"⟩
abbrev cX11_isMany : ByteArray := prog_13_method_80_code
def yX11_isMany : MethodName := ⟨RX11, "isMany", "(I)Z"⟩
abbrev cX11_told : ByteArray := prog_13_method_81_code
def yX11_told : MethodName := ⟨RX11, "told", "(IIII)I"⟩
abbrev cX11_sum : ByteArray := prog_13_method_82_code
def yX11_sum : MethodName := ⟨RX11, "sum", "(II)I"⟩
abbrev cX11_product : ByteArray := prog_13_method_83_code
def yX11_product : MethodName := ⟨RX11, "product", "(II)I"⟩
abbrev cX11_each : ByteArray := prog_13_method_84_code
def yX11_each : MethodName := ⟨RX11, "each", "(III)I"⟩
abbrev cX11_step : ByteArray := prog_13_method_85_code
def yX11_step : MethodName := ⟨RX11, "step", "(I)I"⟩
abbrev cX11_put : ByteArray := prog_13_method_86_code
def yX11_put : MethodName := ⟨RX11, "put", "(III)I"⟩
abbrev cX11_drop : ByteArray := prog_13_method_87_code
def yX11_drop : MethodName := ⟨RX11, "drop", "()I"⟩
abbrev cX11_isPower : ByteArray := prog_13_method_88_code
def yX11_isPower : MethodName := ⟨RX11, "isPower", "(I)Z"⟩
abbrev cX11_powersIn : ByteArray := prog_13_method_89_code
def yX11_powersIn : MethodName := ⟨RX11, "powersIn", "(I)I"⟩
abbrev cX11_canBe : ByteArray := prog_13_method_90_code
def yX11_canBe : MethodName := ⟨RX11, "canBe", "(I)Z"⟩
abbrev cX11_easedC : ByteArray := prog_13_method_91_code
def yX11_easedC : MethodName := ⟨RX11, "easedC", "(I)I"⟩
abbrev cX11_easedD : ByteArray := prog_13_method_92_code
def yX11_easedD : MethodName := ⟨RX11, "easedD", "(I)I"⟩
abbrev cX11_ease : ByteArray := prog_13_method_93_code
def yX11_ease : MethodName := ⟨RX11, "ease", "(I)I"⟩
abbrev cX11_give : ByteArray := prog_13_method_94_code
def yX11_give : MethodName := ⟨RX11, "give", "(I)I"⟩
abbrev cX11_forget : ByteArray := prog_13_method_95_code
def yX11_forget : MethodName := ⟨RX11, "forget", "()I"⟩
abbrev cX11_isGuess : ByteArray := prog_13_method_96_code
def yX11_isGuess : MethodName := ⟨RX11, "isGuess", "(III)Z"⟩
abbrev cX11_guessNow : ByteArray := prog_13_method_97_code
def yX11_guessNow : MethodName := ⟨RX11, "guessNow", "()I"⟩
abbrev cX11_guessTold : ByteArray := prog_13_method_98_code
def yX11_guessTold : MethodName := ⟨RX11, "guessTold", "(I)I"⟩
abbrev cX11_guess : ByteArray := prog_13_method_99_code
def yX11_guess : MethodName := ⟨RX11, "guess", "(I)I"⟩
abbrev cX11_found : ByteArray := prog_13_method_100_code
def yX11_found : MethodName := ⟨RX11, "found", "()I"⟩
abbrev cX11_drawOf : ByteArray := prog_13_method_101_code
def yX11_drawOf : MethodName := ⟨RX11, "drawOf", "(I)I"⟩
abbrev cX11_drawnNow : ByteArray := prog_13_method_102_code
def yX11_drawnNow : MethodName := ⟨RX11, "drawnNow", "(III)I"⟩
abbrev cX11_drawn : ByteArray := prog_13_method_103_code
def yX11_drawn : MethodName := ⟨RX11, "drawn", "(III)I"⟩
abbrev cX11_copy : ByteArray := prog_13_method_104_code
def yX11_copy : MethodName := ⟨RX11, "copy", "([I[II)V"⟩
abbrev cX11_image : ByteArray := prog_13_method_105_code
def yX11_image : MethodName := ⟨RX11, "image", "()I"⟩
abbrev cX11_restore : ByteArray := prog_13_method_106_code
def yX11_restore : MethodName := ⟨RX11, "restore", "()I"⟩
abbrev cX11_toldMany : ByteArray := prog_13_method_107_code
def yX11_toldMany : MethodName := ⟨RX11, "toldMany", "(Z)I"⟩
abbrev cX11_howMany : ByteArray := prog_13_method_108_code
def yX11_howMany : MethodName := ⟨RX11, "howMany", "(I)I"⟩
abbrev cX11_count : ByteArray := prog_13_method_109_code
def yX11_count : MethodName := ⟨RX11, "count", "(I)I"⟩
abbrev cX11_mix : ByteArray := prog_13_method_110_code
def yX11_mix : MethodName := ⟨RX11, "mix", "(J)V"⟩
abbrev cX11_mixRow : ByteArray := prog_13_method_111_code
def yX11_mixRow : MethodName := ⟨RX11, "mixRow", "(I)V"⟩
abbrev cX11_digest : ByteArray := prog_13_method_112_code
def yX11_digest : MethodName := ⟨RX11, "digest", "()J"⟩
def RJ9 : String := "java/lang/Math"
abbrev cJ9_floorMod_7cf53 : ByteArray := prog_14_method_50_code
def yJ9_floorMod_7cf53 : MethodName := ⟨RJ9, "floorMod", "(II)I"⟩
abbrev cJ9_max_7cf53 : ByteArray := prog_14_method_65_code
def yJ9_max_7cf53 : MethodName := ⟨RJ9, "max", "(II)I"⟩
abbrev cJ9_min_7cf53 : ByteArray := prog_14_method_69_code
def yJ9_min_7cf53 : MethodName := ⟨RJ9, "min", "(II)I"⟩
def RJ10 : String := "java/lang/System"
def RL : String := "AheadRowsLaw"
abbrev cL_law : ByteArray := code
def yL_law : MethodName := ⟨RL, "law", "([I)Z"⟩
abbrev vwCl : List vw_C := [(RX0, TX0, 5), (RX1, TX1, 3), (RX2, TX2, 3), (RX3, TX3, 3), (RX4, TX4, 2), (RX5, TX5, 3), (RX6, TX6, 2), (RX9, TX9, 2), (RX10, TX10, 13), (RX11, TX11, 33)]
end
section
theorem dX0_init_0 : decode cX0_init 0 = .ok (.aload_n 0, 1) := by decide +kernel
theorem dX0_init_1 : decode cX0_init 1 = .ok (.invokespecial 3, 3) := by decide +kernel
theorem dX0_init_4 : decode cX0_init 4 = .ok (.aload_n 0, 1) := by decide +kernel
theorem dX0_init_5 : decode cX0_init 5 = .ok (.bipush 17, 2) := by decide +kernel
theorem dX0_init_7 : decode cX0_init 7 = .ok (.newarray .int, 2) := by decide +kernel
theorem dX0_init_9 : decode cX0_init 9 = .ok (.putfield 9, 3) := by decide +kernel
theorem dX0_init_12 : decode cX0_init 12 = .ok (.aload_n 0, 1) := by decide +kernel
theorem dX0_init_13 : decode cX0_init 13 = .ok (.bipush 17, 2) := by decide +kernel
theorem dX0_init_15 : decode cX0_init 15 = .ok (.newarray .int, 2) := by decide +kernel
theorem dX0_init_17 : decode cX0_init 17 = .ok (.putfield 13, 3) := by decide +kernel
theorem dX0_init_20 : decode cX0_init 20 = .ok (.aload_n 0, 1) := by decide +kernel
theorem dX0_init_21 : decode cX0_init 21 = .ok (.bipush 17, 2) := by decide +kernel
theorem dX0_init_23 : decode cX0_init 23 = .ok (.newarray .int, 2) := by decide +kernel
theorem dX0_init_25 : decode cX0_init 25 = .ok (.putfield 16, 3) := by decide +kernel
theorem dX0_init_28 : decode cX0_init 28 = .ok (.aload_n 0, 1) := by decide +kernel
theorem dX0_init_29 : decode cX0_init 29 = .ok (.iconst 2, 1) := by decide +kernel
theorem dX0_init_30 : decode cX0_init 30 = .ok (.putfield 19, 3) := by decide +kernel
theorem dX0_init_33 : decode cX0_init 33 = .ok (.return_, 1) := by decide +kernel
theorem dX0_length_0 : decode cX0_length 0 = .ok (.aload_n 0, 1) := by decide +kernel
theorem dX0_length_1 : decode cX0_length 1 = .ok (.getfield 23, 3) := by decide +kernel
theorem dX0_length_4 : decode cX0_length 4 = .ok (.ireturn, 1) := by decide +kernel
theorem dX0_factor_0 : decode cX0_factor 0 = .ok (.iload_n 1, 1) := by decide +kernel
theorem dX0_factor_1 : decode cX0_factor 1 = .ok (.iconst 1, 1) := by decide +kernel
theorem dX0_factor_2 : decode cX0_factor 2 = .ok (.if_icmp .lt 34, 3) := by decide +kernel
theorem dX0_factor_5 : decode cX0_factor 5 = .ok (.iload_n 1, 1) := by decide +kernel
theorem dX0_factor_6 : decode cX0_factor 6 = .ok (.aload_n 0, 1) := by decide +kernel
theorem dX0_factor_7 : decode cX0_factor 7 = .ok (.getfield 23, 3) := by decide +kernel
theorem dX0_factor_10 : decode cX0_factor 10 = .ok (.if_icmp .gt 26, 3) := by decide +kernel
theorem dX0_factor_13 : decode cX0_factor 13 = .ok (.iload_n 1, 1) := by decide +kernel
theorem dX0_factor_14 : decode cX0_factor 14 = .ok (.bipush 17, 2) := by decide +kernel
theorem dX0_factor_16 : decode cX0_factor 16 = .ok (.if_icmp .ge 20, 3) := by decide +kernel
theorem dX0_factor_19 : decode cX0_factor 19 = .ok (.aload_n 0, 1) := by decide +kernel
theorem dX0_factor_20 : decode cX0_factor 20 = .ok (.getfield 9, 3) := by decide +kernel
theorem dX0_factor_23 : decode cX0_factor 23 = .ok (.iload_n 1, 1) := by decide +kernel
theorem dX0_factor_24 : decode cX0_factor 24 = .ok (.iaload, 1) := by decide +kernel
theorem dX0_factor_25 : decode cX0_factor 25 = .ok (.ineg, 1) := by decide +kernel
theorem dX0_factor_26 : decode cX0_factor 26 = .ok (.aload_n 0, 1) := by decide +kernel
theorem dX0_factor_27 : decode cX0_factor 27 = .ok (.getfield 19, 3) := by decide +kernel
theorem dX0_factor_30 : decode cX0_factor 30 = .ok (.invokestatic 26, 3) := by decide +kernel
theorem dX0_factor_33 : decode cX0_factor 33 = .ok (.goto 4, 3) := by decide +kernel
theorem dX0_factor_36 : decode cX0_factor 36 = .ok (.iconst 0, 1) := by decide +kernel
theorem dX0_factor_37 : decode cX0_factor 37 = .ok (.ireturn, 1) := by decide +kernel
theorem dX0_examine_0 : decode cX0_examine 0 = .ok (.aload_n 0, 1) := by decide +kernel
theorem dX0_examine_1 : decode cX0_examine 1 = .ok (.iload_n 2, 1) := by decide +kernel
theorem dX0_examine_2 : decode cX0_examine 2 = .ok (.invokevirtual 32, 3) := by decide +kernel
theorem dX0_examine_5 : decode cX0_examine 5 = .ok (.iconst 1, 1) := by decide +kernel
theorem dX0_examine_6 : decode cX0_examine 6 = .ok (.istore_n 3, 1) := by decide +kernel
theorem dX0_examine_7 : decode cX0_examine 7 = .ok (.iconst 1, 1) := by decide +kernel
theorem dX0_examine_8 : decode cX0_examine 8 = .ok (.istore 4, 2) := by decide +kernel
theorem dX0_examine_10 : decode cX0_examine 10 = .ok (.iconst 0, 1) := by decide +kernel
theorem dX0_examine_11 : decode cX0_examine 11 = .ok (.istore 5, 2) := by decide +kernel
theorem dX0_examine_13 : decode cX0_examine 13 = .ok (.iload 5, 2) := by decide +kernel
theorem dX0_examine_15 : decode cX0_examine 15 = .ok (.bipush 16, 2) := by decide +kernel
theorem dX0_examine_17 : decode cX0_examine 17 = .ok (.if_icmp .ge 123, 3) := by decide +kernel
theorem dX0_examine_20 : decode cX0_examine 20 = .ok (.aload_n 0, 1) := by decide +kernel
theorem dX0_examine_21 : decode cX0_examine 21 = .ok (.aload_n 1, 1) := by decide +kernel
theorem dX0_examine_22 : decode cX0_examine 22 = .ok (.iload 5, 2) := by decide +kernel
theorem dX0_examine_24 : decode cX0_examine 24 = .ok (.invokevirtual 36, 3) := by decide +kernel
theorem dX0_examine_27 : decode cX0_examine 27 = .ok (.istore 6, 2) := by decide +kernel
theorem dX0_examine_29 : decode cX0_examine 29 = .ok (.iload 6, 2) := by decide +kernel
theorem dX0_examine_31 : decode cX0_examine 31 = .ok (.ifCond .ne 9, 3) := by decide +kernel
theorem dX0_examine_34 : decode cX0_examine 34 = .ok (.iinc 3 1, 3) := by decide +kernel
theorem dX0_examine_37 : decode cX0_examine 37 = .ok (.goto 97, 3) := by decide +kernel
theorem dX0_examine_40 : decode cX0_examine 40 = .ok (.iconst 2, 1) := by decide +kernel
theorem dX0_examine_41 : decode cX0_examine 41 = .ok (.aload_n 0, 1) := by decide +kernel
theorem dX0_examine_42 : decode cX0_examine 42 = .ok (.getfield 23, 3) := by decide +kernel
theorem dX0_examine_45 : decode cX0_examine 45 = .ok (.imul, 1) := by decide +kernel
theorem dX0_examine_46 : decode cX0_examine 46 = .ok (.iload 5, 2) := by decide +kernel
theorem dX0_examine_48 : decode cX0_examine 48 = .ok (.if_icmp .gt 69, 3) := by decide +kernel
theorem dX0_examine_51 : decode cX0_examine 51 = .ok (.aload_n 0, 1) := by decide +kernel
theorem dX0_examine_52 : decode cX0_examine 52 = .ok (.getfield 9, 3) := by decide +kernel
theorem dX0_examine_55 : decode cX0_examine 55 = .ok (.iconst 0, 1) := by decide +kernel
theorem dX0_examine_56 : decode cX0_examine 56 = .ok (.aload_n 0, 1) := by decide +kernel
theorem dX0_examine_57 : decode cX0_examine 57 = .ok (.getfield 16, 3) := by decide +kernel
theorem dX0_examine_60 : decode cX0_examine 60 = .ok (.iconst 0, 1) := by decide +kernel
theorem dX0_examine_61 : decode cX0_examine 61 = .ok (.bipush 17, 2) := by decide +kernel
theorem dX0_examine_63 : decode cX0_examine 63 = .ok (.invokestatic 40, 3) := by decide +kernel
theorem dX0_examine_66 : decode cX0_examine 66 = .ok (.aload_n 0, 1) := by decide +kernel
theorem dX0_examine_67 : decode cX0_examine 67 = .ok (.iload 6, 2) := by decide +kernel
theorem dX0_examine_69 : decode cX0_examine 69 = .ok (.aload_n 0, 1) := by decide +kernel
theorem dX0_examine_70 : decode cX0_examine 70 = .ok (.iload 4, 2) := by decide +kernel
theorem dX0_examine_72 : decode cX0_examine 72 = .ok (.invokevirtual 46, 3) := by decide +kernel
theorem dX0_examine_75 : decode cX0_examine 75 = .ok (.imul, 1) := by decide +kernel
theorem dX0_examine_76 : decode cX0_examine 76 = .ok (.iload_n 3, 1) := by decide +kernel
theorem dX0_examine_77 : decode cX0_examine 77 = .ok (.invokevirtual 50, 3) := by decide +kernel
theorem dX0_examine_80 : decode cX0_examine 80 = .ok (.aload_n 0, 1) := by decide +kernel
theorem dX0_examine_81 : decode cX0_examine 81 = .ok (.getfield 16, 3) := by decide +kernel
theorem dX0_examine_84 : decode cX0_examine 84 = .ok (.iconst 0, 1) := by decide +kernel
theorem dX0_examine_85 : decode cX0_examine 85 = .ok (.aload_n 0, 1) := by decide +kernel
theorem dX0_examine_86 : decode cX0_examine 86 = .ok (.getfield 13, 3) := by decide +kernel
theorem dX0_examine_89 : decode cX0_examine 89 = .ok (.iconst 0, 1) := by decide +kernel
theorem dX0_examine_90 : decode cX0_examine 90 = .ok (.bipush 17, 2) := by decide +kernel
theorem dX0_examine_92 : decode cX0_examine 92 = .ok (.invokestatic 40, 3) := by decide +kernel
theorem dX0_examine_95 : decode cX0_examine 95 = .ok (.aload_n 0, 1) := by decide +kernel
theorem dX0_examine_96 : decode cX0_examine 96 = .ok (.iload 5, 2) := by decide +kernel
theorem dX0_examine_98 : decode cX0_examine 98 = .ok (.iconst 1, 1) := by decide +kernel
theorem dX0_examine_99 : decode cX0_examine 99 = .ok (.iadd, 1) := by decide +kernel
theorem dX0_examine_100 : decode cX0_examine 100 = .ok (.aload_n 0, 1) := by decide +kernel
theorem dX0_examine_101 : decode cX0_examine 101 = .ok (.getfield 23, 3) := by decide +kernel
theorem dX0_examine_104 : decode cX0_examine 104 = .ok (.isub, 1) := by decide +kernel
theorem dX0_examine_105 : decode cX0_examine 105 = .ok (.putfield 23, 3) := by decide +kernel
theorem dX0_examine_108 : decode cX0_examine 108 = .ok (.iload 6, 2) := by decide +kernel
theorem dX0_examine_110 : decode cX0_examine 110 = .ok (.istore 4, 2) := by decide +kernel
theorem dX0_examine_112 : decode cX0_examine 112 = .ok (.iconst 1, 1) := by decide +kernel
theorem dX0_examine_113 : decode cX0_examine 113 = .ok (.istore_n 3, 1) := by decide +kernel
theorem dX0_examine_114 : decode cX0_examine 114 = .ok (.goto 20, 3) := by decide +kernel
theorem dX0_examine_117 : decode cX0_examine 117 = .ok (.aload_n 0, 1) := by decide +kernel
theorem dX0_examine_118 : decode cX0_examine 118 = .ok (.iload 6, 2) := by decide +kernel
theorem dX0_examine_120 : decode cX0_examine 120 = .ok (.aload_n 0, 1) := by decide +kernel
theorem dX0_examine_121 : decode cX0_examine 121 = .ok (.iload 4, 2) := by decide +kernel
theorem dX0_examine_123 : decode cX0_examine 123 = .ok (.invokevirtual 46, 3) := by decide +kernel
theorem dX0_examine_126 : decode cX0_examine 126 = .ok (.imul, 1) := by decide +kernel
theorem dX0_examine_127 : decode cX0_examine 127 = .ok (.iload_n 3, 1) := by decide +kernel
theorem dX0_examine_128 : decode cX0_examine 128 = .ok (.invokevirtual 50, 3) := by decide +kernel
theorem dX0_examine_131 : decode cX0_examine 131 = .ok (.iinc 3 1, 3) := by decide +kernel
theorem dX0_examine_134 : decode cX0_examine 134 = .ok (.iinc 5 1, 3) := by decide +kernel
theorem dX0_examine_137 : decode cX0_examine 137 = .ok (.goto (-124), 3) := by decide +kernel
theorem dX0_examine_140 : decode cX0_examine 140 = .ok (.return_, 1) := by decide +kernel
theorem dX0_begin_0 : decode cX0_begin 0 = .ok (.aload_n 0, 1) := by decide +kernel
theorem dX0_begin_1 : decode cX0_begin 1 = .ok (.iload_n 1, 1) := by decide +kernel
theorem dX0_begin_2 : decode cX0_begin 2 = .ok (.invokestatic 54, 3) := by decide +kernel
theorem dX0_begin_5 : decode cX0_begin 5 = .ok (.ifCond .eq 7, 3) := by decide +kernel
theorem dX0_begin_8 : decode cX0_begin 8 = .ok (.iload_n 1, 1) := by decide +kernel
theorem dX0_begin_9 : decode cX0_begin 9 = .ok (.goto 4, 3) := by decide +kernel
theorem dX0_begin_12 : decode cX0_begin 12 = .ok (.iconst 2, 1) := by decide +kernel
theorem dX0_begin_13 : decode cX0_begin 13 = .ok (.putfield 19, 3) := by decide +kernel
theorem dX0_begin_16 : decode cX0_begin 16 = .ok (.aload_n 0, 1) := by decide +kernel
theorem dX0_begin_17 : decode cX0_begin 17 = .ok (.iconst 0, 1) := by decide +kernel
theorem dX0_begin_18 : decode cX0_begin 18 = .ok (.putfield 23, 3) := by decide +kernel
theorem dX0_begin_21 : decode cX0_begin 21 = .ok (.iconst 0, 1) := by decide +kernel
theorem dX0_begin_22 : decode cX0_begin 22 = .ok (.istore_n 2, 1) := by decide +kernel
theorem dX0_begin_23 : decode cX0_begin 23 = .ok (.iload_n 2, 1) := by decide +kernel
theorem dX0_begin_24 : decode cX0_begin 24 = .ok (.bipush 17, 2) := by decide +kernel
theorem dX0_begin_26 : decode cX0_begin 26 = .ok (.if_icmp .ge 36, 3) := by decide +kernel
theorem dX0_begin_29 : decode cX0_begin 29 = .ok (.aload_n 0, 1) := by decide +kernel
theorem dX0_begin_30 : decode cX0_begin 30 = .ok (.getfield 9, 3) := by decide +kernel
theorem dX0_begin_33 : decode cX0_begin 33 = .ok (.iload_n 2, 1) := by decide +kernel
theorem dX0_begin_34 : decode cX0_begin 34 = .ok (.iload_n 2, 1) := by decide +kernel
theorem dX0_begin_35 : decode cX0_begin 35 = .ok (.ifCond .ne 7, 3) := by decide +kernel
theorem dX0_begin_38 : decode cX0_begin 38 = .ok (.iconst 1, 1) := by decide +kernel
theorem dX0_begin_39 : decode cX0_begin 39 = .ok (.goto 4, 3) := by decide +kernel
theorem dX0_begin_42 : decode cX0_begin 42 = .ok (.iconst 0, 1) := by decide +kernel
theorem dX0_begin_43 : decode cX0_begin 43 = .ok (.iastore, 1) := by decide +kernel
theorem dX0_begin_44 : decode cX0_begin 44 = .ok (.aload_n 0, 1) := by decide +kernel
theorem dX0_begin_45 : decode cX0_begin 45 = .ok (.getfield 13, 3) := by decide +kernel
theorem dX0_begin_48 : decode cX0_begin 48 = .ok (.iload_n 2, 1) := by decide +kernel
theorem dX0_begin_49 : decode cX0_begin 49 = .ok (.aload_n 0, 1) := by decide +kernel
theorem dX0_begin_50 : decode cX0_begin 50 = .ok (.getfield 9, 3) := by decide +kernel
theorem dX0_begin_53 : decode cX0_begin 53 = .ok (.iload_n 2, 1) := by decide +kernel
theorem dX0_begin_54 : decode cX0_begin 54 = .ok (.iaload, 1) := by decide +kernel
theorem dX0_begin_55 : decode cX0_begin 55 = .ok (.iastore, 1) := by decide +kernel
theorem dX0_begin_56 : decode cX0_begin 56 = .ok (.iinc 2 1, 3) := by decide +kernel
theorem dX0_begin_59 : decode cX0_begin 59 = .ok (.goto (-36), 3) := by decide +kernel
theorem dX0_begin_62 : decode cX0_begin 62 = .ok (.return_, 1) := by decide +kernel
theorem dX0_missAt_0 : decode cX0_missAt 0 = .ok (.iconst 0, 1) := by decide +kernel
theorem dX0_missAt_1 : decode cX0_missAt 1 = .ok (.istore_n 3, 1) := by decide +kernel
theorem dX0_missAt_2 : decode cX0_missAt 2 = .ok (.iconst 0, 1) := by decide +kernel
theorem dX0_missAt_3 : decode cX0_missAt 3 = .ok (.istore 4, 2) := by decide +kernel
theorem dX0_missAt_5 : decode cX0_missAt 5 = .ok (.iload 4, 2) := by decide +kernel
theorem dX0_missAt_7 : decode cX0_missAt 7 = .ok (.aload_n 0, 1) := by decide +kernel
theorem dX0_missAt_8 : decode cX0_missAt 8 = .ok (.getfield 23, 3) := by decide +kernel
theorem dX0_missAt_11 : decode cX0_missAt 11 = .ok (.if_icmp .gt 41, 3) := by decide +kernel
theorem dX0_missAt_14 : decode cX0_missAt 14 = .ok (.iload 4, 2) := by decide +kernel
theorem dX0_missAt_16 : decode cX0_missAt 16 = .ok (.iload_n 2, 1) := by decide +kernel
theorem dX0_missAt_17 : decode cX0_missAt 17 = .ok (.if_icmp .gt 35, 3) := by decide +kernel
theorem dX0_missAt_20 : decode cX0_missAt 20 = .ok (.iload 4, 2) := by decide +kernel
theorem dX0_missAt_22 : decode cX0_missAt 22 = .ok (.bipush 17, 2) := by decide +kernel
theorem dX0_missAt_24 : decode cX0_missAt 24 = .ok (.if_icmp .ge 28, 3) := by decide +kernel
theorem dX0_missAt_27 : decode cX0_missAt 27 = .ok (.iload_n 3, 1) := by decide +kernel
theorem dX0_missAt_28 : decode cX0_missAt 28 = .ok (.aload_n 0, 1) := by decide +kernel
theorem dX0_missAt_29 : decode cX0_missAt 29 = .ok (.getfield 9, 3) := by decide +kernel
theorem dX0_missAt_32 : decode cX0_missAt 32 = .ok (.iload 4, 2) := by decide +kernel
theorem dX0_missAt_34 : decode cX0_missAt 34 = .ok (.iaload, 1) := by decide +kernel
theorem dX0_missAt_35 : decode cX0_missAt 35 = .ok (.aload_n 1, 1) := by decide +kernel
theorem dX0_missAt_36 : decode cX0_missAt 36 = .ok (.iload_n 2, 1) := by decide +kernel
theorem dX0_missAt_37 : decode cX0_missAt 37 = .ok (.iload 4, 2) := by decide +kernel
theorem dX0_missAt_39 : decode cX0_missAt 39 = .ok (.isub, 1) := by decide +kernel
theorem dX0_missAt_40 : decode cX0_missAt 40 = .ok (.invokevirtual 60, 3) := by decide +kernel
theorem dX0_missAt_43 : decode cX0_missAt 43 = .ok (.imul, 1) := by decide +kernel
theorem dX0_missAt_44 : decode cX0_missAt 44 = .ok (.iadd, 1) := by decide +kernel
theorem dX0_missAt_45 : decode cX0_missAt 45 = .ok (.istore_n 3, 1) := by decide +kernel
theorem dX0_missAt_46 : decode cX0_missAt 46 = .ok (.iinc 4 1, 3) := by decide +kernel
theorem dX0_missAt_49 : decode cX0_missAt 49 = .ok (.goto (-44), 3) := by decide +kernel
theorem dX0_missAt_52 : decode cX0_missAt 52 = .ok (.iload_n 3, 1) := by decide +kernel
theorem dX0_missAt_53 : decode cX0_missAt 53 = .ok (.aload_n 0, 1) := by decide +kernel
theorem dX0_missAt_54 : decode cX0_missAt 54 = .ok (.getfield 19, 3) := by decide +kernel
theorem dX0_missAt_57 : decode cX0_missAt 57 = .ok (.irem, 1) := by decide +kernel
theorem dX0_missAt_58 : decode cX0_missAt 58 = .ok (.ireturn, 1) := by decide +kernel
theorem dX0_mend_0 : decode cX0_mend 0 = .ok (.iconst 0, 1) := by decide +kernel
theorem dX0_mend_1 : decode cX0_mend 1 = .ok (.istore_n 3, 1) := by decide +kernel
theorem dX0_mend_2 : decode cX0_mend 2 = .ok (.iload_n 3, 1) := by decide +kernel
theorem dX0_mend_3 : decode cX0_mend 3 = .ok (.iload_n 2, 1) := by decide +kernel
theorem dX0_mend_4 : decode cX0_mend 4 = .ok (.iadd, 1) := by decide +kernel
theorem dX0_mend_5 : decode cX0_mend 5 = .ok (.bipush 17, 2) := by decide +kernel
theorem dX0_mend_7 : decode cX0_mend 7 = .ok (.if_icmp .ge 41, 3) := by decide +kernel
theorem dX0_mend_10 : decode cX0_mend 10 = .ok (.aload_n 0, 1) := by decide +kernel
theorem dX0_mend_11 : decode cX0_mend 11 = .ok (.getfield 9, 3) := by decide +kernel
theorem dX0_mend_14 : decode cX0_mend 14 = .ok (.iload_n 3, 1) := by decide +kernel
theorem dX0_mend_15 : decode cX0_mend 15 = .ok (.iload_n 2, 1) := by decide +kernel
theorem dX0_mend_16 : decode cX0_mend 16 = .ok (.iadd, 1) := by decide +kernel
theorem dX0_mend_17 : decode cX0_mend 17 = .ok (.aload_n 0, 1) := by decide +kernel
theorem dX0_mend_18 : decode cX0_mend 18 = .ok (.getfield 9, 3) := by decide +kernel
theorem dX0_mend_21 : decode cX0_mend 21 = .ok (.iload_n 3, 1) := by decide +kernel
theorem dX0_mend_22 : decode cX0_mend 22 = .ok (.iload_n 2, 1) := by decide +kernel
theorem dX0_mend_23 : decode cX0_mend 23 = .ok (.iadd, 1) := by decide +kernel
theorem dX0_mend_24 : decode cX0_mend 24 = .ok (.iaload, 1) := by decide +kernel
theorem dX0_mend_25 : decode cX0_mend 25 = .ok (.iload_n 1, 1) := by decide +kernel
theorem dX0_mend_26 : decode cX0_mend 26 = .ok (.aload_n 0, 1) := by decide +kernel
theorem dX0_mend_27 : decode cX0_mend 27 = .ok (.getfield 13, 3) := by decide +kernel
theorem dX0_mend_30 : decode cX0_mend 30 = .ok (.iload_n 3, 1) := by decide +kernel
theorem dX0_mend_31 : decode cX0_mend 31 = .ok (.iaload, 1) := by decide +kernel
theorem dX0_mend_32 : decode cX0_mend 32 = .ok (.imul, 1) := by decide +kernel
theorem dX0_mend_33 : decode cX0_mend 33 = .ok (.isub, 1) := by decide +kernel
theorem dX0_mend_34 : decode cX0_mend 34 = .ok (.aload_n 0, 1) := by decide +kernel
theorem dX0_mend_35 : decode cX0_mend 35 = .ok (.getfield 19, 3) := by decide +kernel
theorem dX0_mend_38 : decode cX0_mend 38 = .ok (.invokestatic 26, 3) := by decide +kernel
theorem dX0_mend_41 : decode cX0_mend 41 = .ok (.iastore, 1) := by decide +kernel
theorem dX0_mend_42 : decode cX0_mend 42 = .ok (.iinc 3 1, 3) := by decide +kernel
theorem dX0_mend_45 : decode cX0_mend 45 = .ok (.goto (-43), 3) := by decide +kernel
theorem dX0_mend_48 : decode cX0_mend 48 = .ok (.return_, 1) := by decide +kernel
theorem dX0_inverse_0 : decode cX0_inverse 0 = .ok (.iconst 1, 1) := by decide +kernel
theorem dX0_inverse_1 : decode cX0_inverse 1 = .ok (.istore_n 2, 1) := by decide +kernel
theorem dX0_inverse_2 : decode cX0_inverse 2 = .ok (.iload_n 2, 1) := by decide +kernel
theorem dX0_inverse_3 : decode cX0_inverse 3 = .ok (.aload_n 0, 1) := by decide +kernel
theorem dX0_inverse_4 : decode cX0_inverse 4 = .ok (.getfield 19, 3) := by decide +kernel
theorem dX0_inverse_7 : decode cX0_inverse 7 = .ok (.if_icmp .ge 23, 3) := by decide +kernel
theorem dX0_inverse_10 : decode cX0_inverse 10 = .ok (.iload_n 2, 1) := by decide +kernel
theorem dX0_inverse_11 : decode cX0_inverse 11 = .ok (.iload_n 1, 1) := by decide +kernel
theorem dX0_inverse_12 : decode cX0_inverse 12 = .ok (.imul, 1) := by decide +kernel
theorem dX0_inverse_13 : decode cX0_inverse 13 = .ok (.aload_n 0, 1) := by decide +kernel
theorem dX0_inverse_14 : decode cX0_inverse 14 = .ok (.getfield 19, 3) := by decide +kernel
theorem dX0_inverse_17 : decode cX0_inverse 17 = .ok (.irem, 1) := by decide +kernel
theorem dX0_inverse_18 : decode cX0_inverse 18 = .ok (.iconst 1, 1) := by decide +kernel
theorem dX0_inverse_19 : decode cX0_inverse 19 = .ok (.if_icmp .ne 5, 3) := by decide +kernel
theorem dX0_inverse_22 : decode cX0_inverse 22 = .ok (.iload_n 2, 1) := by decide +kernel
theorem dX0_inverse_23 : decode cX0_inverse 23 = .ok (.ireturn, 1) := by decide +kernel
theorem dX0_inverse_24 : decode cX0_inverse 24 = .ok (.iinc 2 1, 3) := by decide +kernel
theorem dX0_inverse_27 : decode cX0_inverse 27 = .ok (.goto (-25), 3) := by decide +kernel
theorem dX0_inverse_30 : decode cX0_inverse 30 = .ok (.iconst 0, 1) := by decide +kernel
theorem dX0_inverse_31 : decode cX0_inverse 31 = .ok (.ireturn, 1) := by decide +kernel
theorem dX1_init_0 : decode cX1_init 0 = .ok (.aload_n 0, 1) := by decide +kernel
theorem dX1_init_1 : decode cX1_init 1 = .ok (.invokespecial 3, 3) := by decide +kernel
theorem dX1_init_4 : decode cX1_init 4 = .ok (.aload_n 0, 1) := by decide +kernel
theorem dX1_init_5 : decode cX1_init 5 = .ok (.iload_n 1, 1) := by decide +kernel
theorem dX1_init_6 : decode cX1_init 6 = .ok (.invokestatic 9, 3) := by decide +kernel
theorem dX1_init_9 : decode cX1_init 9 = .ok (.ifCond .eq 7, 3) := by decide +kernel
theorem dX1_init_12 : decode cX1_init 12 = .ok (.iload_n 1, 1) := by decide +kernel
theorem dX1_init_13 : decode cX1_init 13 = .ok (.goto 4, 3) := by decide +kernel
theorem dX1_init_16 : decode cX1_init 16 = .ok (.iconst 2, 1) := by decide +kernel
theorem dX1_init_17 : decode cX1_init 17 = .ok (.putfield 13, 3) := by decide +kernel
theorem dX1_init_20 : decode cX1_init 20 = .ok (.aload_n 0, 1) := by decide +kernel
theorem dX1_init_21 : decode cX1_init 21 = .ok (.getstatic 19, 3) := by decide +kernel
theorem dX1_init_24 : decode cX1_init 24 = .ok (.aload_n 0, 1) := by decide +kernel
theorem dX1_init_25 : decode cX1_init 25 = .ok (.getfield 13, 3) := by decide +kernel
theorem dX1_init_28 : decode cX1_init 28 = .ok (.iconst 2, 1) := by decide +kernel
theorem dX1_init_29 : decode cX1_init 29 = .ok (.isub, 1) := by decide +kernel
theorem dX1_init_30 : decode cX1_init 30 = .ok (.iaload, 1) := by decide +kernel
theorem dX1_init_31 : decode cX1_init 31 = .ok (.putfield 23, 3) := by decide +kernel
theorem dX1_init_34 : decode cX1_init 34 = .ok (.aload_n 0, 1) := by decide +kernel
theorem dX1_init_35 : decode cX1_init 35 = .ok (.bipush 6, 2) := by decide +kernel
theorem dX1_init_37 : decode cX1_init 37 = .ok (.aload_n 0, 1) := by decide +kernel
theorem dX1_init_38 : decode cX1_init 38 = .ok (.getfield 23, 3) := by decide +kernel
theorem dX1_init_41 : decode cX1_init 41 = .ok (.iadd, 1) := by decide +kernel
theorem dX1_init_42 : decode cX1_init 42 = .ok (.newarray .int, 2) := by decide +kernel
theorem dX1_init_44 : decode cX1_init 44 = .ok (.putfield 26, 3) := by decide +kernel
theorem dX1_init_47 : decode cX1_init 47 = .ok (.return_, 1) := by decide +kernel
theorem dX1_at_0 : decode cX1_at 0 = .ok (.iload_n 1, 1) := by decide +kernel
theorem dX1_at_1 : decode cX1_at 1 = .ok (.ifCond .ge 5, 3) := by decide +kernel
theorem dX1_at_4 : decode cX1_at 4 = .ok (.iconst 0, 1) := by decide +kernel
theorem dX1_at_5 : decode cX1_at 5 = .ok (.ireturn, 1) := by decide +kernel
theorem dX1_at_6 : decode cX1_at 6 = .ok (.iload_n 1, 1) := by decide +kernel
theorem dX1_at_7 : decode cX1_at 7 = .ok (.bipush 6, 2) := by decide +kernel
theorem dX1_at_9 : decode cX1_at 9 = .ok (.if_icmp .ge 12, 3) := by decide +kernel
theorem dX1_at_12 : decode cX1_at 12 = .ok (.aload_n 0, 1) := by decide +kernel
theorem dX1_at_13 : decode cX1_at 13 = .ok (.getfield 26, 3) := by decide +kernel
theorem dX1_at_16 : decode cX1_at 16 = .ok (.iload_n 1, 1) := by decide +kernel
theorem dX1_at_17 : decode cX1_at 17 = .ok (.iaload, 1) := by decide +kernel
theorem dX1_at_18 : decode cX1_at 18 = .ok (.goto 20, 3) := by decide +kernel
theorem dX1_at_21 : decode cX1_at 21 = .ok (.aload_n 0, 1) := by decide +kernel
theorem dX1_at_22 : decode cX1_at 22 = .ok (.getfield 26, 3) := by decide +kernel
theorem dX1_at_25 : decode cX1_at 25 = .ok (.bipush 6, 2) := by decide +kernel
theorem dX1_at_27 : decode cX1_at 27 = .ok (.iload_n 1, 1) := by decide +kernel
theorem dX1_at_28 : decode cX1_at 28 = .ok (.bipush 6, 2) := by decide +kernel
theorem dX1_at_30 : decode cX1_at 30 = .ok (.isub, 1) := by decide +kernel
theorem dX1_at_31 : decode cX1_at 31 = .ok (.aload_n 0, 1) := by decide +kernel
theorem dX1_at_32 : decode cX1_at 32 = .ok (.getfield 23, 3) := by decide +kernel
theorem dX1_at_35 : decode cX1_at 35 = .ok (.irem, 1) := by decide +kernel
theorem dX1_at_36 : decode cX1_at 36 = .ok (.iadd, 1) := by decide +kernel
theorem dX1_at_37 : decode cX1_at 37 = .ok (.iaload, 1) := by decide +kernel
theorem dX1_at_38 : decode cX1_at 38 = .ok (.ireturn, 1) := by decide +kernel
theorem dX1_fillTold_0 : decode cX1_fillTold 0 = .ok (.aload_n 0, 1) := by decide +kernel
theorem dX1_fillTold_1 : decode cX1_fillTold 1 = .ok (.getfield 26, 3) := by decide +kernel
theorem dX1_fillTold_4 : decode cX1_fillTold 4 = .ok (.iconst 0, 1) := by decide +kernel
theorem dX1_fillTold_5 : decode cX1_fillTold 5 = .ok (.iload_n 3, 1) := by decide +kernel
theorem dX1_fillTold_6 : decode cX1_fillTold 6 = .ok (.aload_n 0, 1) := by decide +kernel
theorem dX1_fillTold_7 : decode cX1_fillTold 7 = .ok (.getfield 13, 3) := by decide +kernel
theorem dX1_fillTold_10 : decode cX1_fillTold 10 = .ok (.invokestatic 29, 3) := by decide +kernel
theorem dX1_fillTold_13 : decode cX1_fillTold 13 = .ok (.iastore, 1) := by decide +kernel
theorem dX1_fillTold_14 : decode cX1_fillTold 14 = .ok (.aload_n 0, 1) := by decide +kernel
theorem dX1_fillTold_15 : decode cX1_fillTold 15 = .ok (.getfield 26, 3) := by decide +kernel
theorem dX1_fillTold_18 : decode cX1_fillTold 18 = .ok (.iconst 1, 1) := by decide +kernel
theorem dX1_fillTold_19 : decode cX1_fillTold 19 = .ok (.iload 4, 2) := by decide +kernel
theorem dX1_fillTold_21 : decode cX1_fillTold 21 = .ok (.aload_n 0, 1) := by decide +kernel
theorem dX1_fillTold_22 : decode cX1_fillTold 22 = .ok (.getfield 13, 3) := by decide +kernel
theorem dX1_fillTold_25 : decode cX1_fillTold 25 = .ok (.invokestatic 29, 3) := by decide +kernel
theorem dX1_fillTold_28 : decode cX1_fillTold 28 = .ok (.iastore, 1) := by decide +kernel
theorem dX1_fillTold_29 : decode cX1_fillTold 29 = .ok (.iconst 2, 1) := by decide +kernel
theorem dX1_fillTold_30 : decode cX1_fillTold 30 = .ok (.istore 5, 2) := by decide +kernel
theorem dX1_fillTold_32 : decode cX1_fillTold 32 = .ok (.iload 5, 2) := by decide +kernel
theorem dX1_fillTold_34 : decode cX1_fillTold 34 = .ok (.aload_n 0, 1) := by decide +kernel
theorem dX1_fillTold_35 : decode cX1_fillTold 35 = .ok (.getfield 26, 3) := by decide +kernel
theorem dX1_fillTold_38 : decode cX1_fillTold 38 = .ok (.arraylength, 1) := by decide +kernel
theorem dX1_fillTold_39 : decode cX1_fillTold 39 = .ok (.if_icmp .ge 46, 3) := by decide +kernel
theorem dX1_fillTold_42 : decode cX1_fillTold 42 = .ok (.aload_n 0, 1) := by decide +kernel
theorem dX1_fillTold_43 : decode cX1_fillTold 43 = .ok (.getfield 26, 3) := by decide +kernel
theorem dX1_fillTold_46 : decode cX1_fillTold 46 = .ok (.iload 5, 2) := by decide +kernel
theorem dX1_fillTold_48 : decode cX1_fillTold 48 = .ok (.iload_n 1, 1) := by decide +kernel
theorem dX1_fillTold_49 : decode cX1_fillTold 49 = .ok (.aload_n 0, 1) := by decide +kernel
theorem dX1_fillTold_50 : decode cX1_fillTold 50 = .ok (.getfield 26, 3) := by decide +kernel
theorem dX1_fillTold_53 : decode cX1_fillTold 53 = .ok (.iload 5, 2) := by decide +kernel
theorem dX1_fillTold_55 : decode cX1_fillTold 55 = .ok (.iconst 1, 1) := by decide +kernel
theorem dX1_fillTold_56 : decode cX1_fillTold 56 = .ok (.isub, 1) := by decide +kernel
theorem dX1_fillTold_57 : decode cX1_fillTold 57 = .ok (.iaload, 1) := by decide +kernel
theorem dX1_fillTold_58 : decode cX1_fillTold 58 = .ok (.imul, 1) := by decide +kernel
theorem dX1_fillTold_59 : decode cX1_fillTold 59 = .ok (.iload_n 2, 1) := by decide +kernel
theorem dX1_fillTold_60 : decode cX1_fillTold 60 = .ok (.aload_n 0, 1) := by decide +kernel
theorem dX1_fillTold_61 : decode cX1_fillTold 61 = .ok (.getfield 26, 3) := by decide +kernel
theorem dX1_fillTold_64 : decode cX1_fillTold 64 = .ok (.iload 5, 2) := by decide +kernel
theorem dX1_fillTold_66 : decode cX1_fillTold 66 = .ok (.iconst 2, 1) := by decide +kernel
theorem dX1_fillTold_67 : decode cX1_fillTold 67 = .ok (.isub, 1) := by decide +kernel
theorem dX1_fillTold_68 : decode cX1_fillTold 68 = .ok (.iaload, 1) := by decide +kernel
theorem dX1_fillTold_69 : decode cX1_fillTold 69 = .ok (.imul, 1) := by decide +kernel
theorem dX1_fillTold_70 : decode cX1_fillTold 70 = .ok (.iadd, 1) := by decide +kernel
theorem dX1_fillTold_71 : decode cX1_fillTold 71 = .ok (.aload_n 0, 1) := by decide +kernel
theorem dX1_fillTold_72 : decode cX1_fillTold 72 = .ok (.getfield 13, 3) := by decide +kernel
theorem dX1_fillTold_75 : decode cX1_fillTold 75 = .ok (.invokestatic 29, 3) := by decide +kernel
theorem dX1_fillTold_78 : decode cX1_fillTold 78 = .ok (.iastore, 1) := by decide +kernel
theorem dX1_fillTold_79 : decode cX1_fillTold 79 = .ok (.iinc 5 1, 3) := by decide +kernel
theorem dX1_fillTold_82 : decode cX1_fillTold 82 = .ok (.goto (-50), 3) := by decide +kernel
theorem dX1_fillTold_85 : decode cX1_fillTold 85 = .ok (.return_, 1) := by decide +kernel
theorem dX1_fillSum_0 : decode cX1_fillSum 0 = .ok (.iconst 0, 1) := by decide +kernel
theorem dX1_fillSum_1 : decode cX1_fillSum 1 = .ok (.istore_n 3, 1) := by decide +kernel
theorem dX1_fillSum_2 : decode cX1_fillSum 2 = .ok (.iload_n 3, 1) := by decide +kernel
theorem dX1_fillSum_3 : decode cX1_fillSum 3 = .ok (.aload_n 0, 1) := by decide +kernel
theorem dX1_fillSum_4 : decode cX1_fillSum 4 = .ok (.getfield 26, 3) := by decide +kernel
theorem dX1_fillSum_7 : decode cX1_fillSum 7 = .ok (.arraylength, 1) := by decide +kernel
theorem dX1_fillSum_8 : decode cX1_fillSum 8 = .ok (.if_icmp .ge 31, 3) := by decide +kernel
theorem dX1_fillSum_11 : decode cX1_fillSum 11 = .ok (.aload_n 0, 1) := by decide +kernel
theorem dX1_fillSum_12 : decode cX1_fillSum 12 = .ok (.getfield 26, 3) := by decide +kernel
theorem dX1_fillSum_15 : decode cX1_fillSum 15 = .ok (.iload_n 3, 1) := by decide +kernel
theorem dX1_fillSum_16 : decode cX1_fillSum 16 = .ok (.aload_n 1, 1) := by decide +kernel
theorem dX1_fillSum_17 : decode cX1_fillSum 17 = .ok (.iload_n 3, 1) := by decide +kernel
theorem dX1_fillSum_18 : decode cX1_fillSum 18 = .ok (.invokevirtual 35, 3) := by decide +kernel
theorem dX1_fillSum_21 : decode cX1_fillSum 21 = .ok (.aload_n 2, 1) := by decide +kernel
theorem dX1_fillSum_22 : decode cX1_fillSum 22 = .ok (.iload_n 3, 1) := by decide +kernel
theorem dX1_fillSum_23 : decode cX1_fillSum 23 = .ok (.invokevirtual 35, 3) := by decide +kernel
theorem dX1_fillSum_26 : decode cX1_fillSum 26 = .ok (.iadd, 1) := by decide +kernel
theorem dX1_fillSum_27 : decode cX1_fillSum 27 = .ok (.aload_n 0, 1) := by decide +kernel
theorem dX1_fillSum_28 : decode cX1_fillSum 28 = .ok (.getfield 13, 3) := by decide +kernel
theorem dX1_fillSum_31 : decode cX1_fillSum 31 = .ok (.irem, 1) := by decide +kernel
theorem dX1_fillSum_32 : decode cX1_fillSum 32 = .ok (.iastore, 1) := by decide +kernel
theorem dX1_fillSum_33 : decode cX1_fillSum 33 = .ok (.iinc 3 1, 3) := by decide +kernel
theorem dX1_fillSum_36 : decode cX1_fillSum 36 = .ok (.goto (-34), 3) := by decide +kernel
theorem dX1_fillSum_39 : decode cX1_fillSum 39 = .ok (.return_, 1) := by decide +kernel
theorem dX1_fillProduct_0 : decode cX1_fillProduct 0 = .ok (.iconst 0, 1) := by decide +kernel
theorem dX1_fillProduct_1 : decode cX1_fillProduct 1 = .ok (.istore_n 3, 1) := by decide +kernel
theorem dX1_fillProduct_2 : decode cX1_fillProduct 2 = .ok (.iload_n 3, 1) := by decide +kernel
theorem dX1_fillProduct_3 : decode cX1_fillProduct 3 = .ok (.aload_n 0, 1) := by decide +kernel
theorem dX1_fillProduct_4 : decode cX1_fillProduct 4 = .ok (.getfield 26, 3) := by decide +kernel
theorem dX1_fillProduct_7 : decode cX1_fillProduct 7 = .ok (.arraylength, 1) := by decide +kernel
theorem dX1_fillProduct_8 : decode cX1_fillProduct 8 = .ok (.if_icmp .ge 31, 3) := by decide +kernel
theorem dX1_fillProduct_11 : decode cX1_fillProduct 11 = .ok (.aload_n 0, 1) := by decide +kernel
theorem dX1_fillProduct_12 : decode cX1_fillProduct 12 = .ok (.getfield 26, 3) := by decide +kernel
theorem dX1_fillProduct_15 : decode cX1_fillProduct 15 = .ok (.iload_n 3, 1) := by decide +kernel
theorem dX1_fillProduct_16 : decode cX1_fillProduct 16 = .ok (.aload_n 1, 1) := by decide +kernel
theorem dX1_fillProduct_17 : decode cX1_fillProduct 17 = .ok (.iload_n 3, 1) := by decide +kernel
theorem dX1_fillProduct_18 : decode cX1_fillProduct 18 = .ok (.invokevirtual 35, 3) := by decide +kernel
theorem dX1_fillProduct_21 : decode cX1_fillProduct 21 = .ok (.aload_n 2, 1) := by decide +kernel
theorem dX1_fillProduct_22 : decode cX1_fillProduct 22 = .ok (.iload_n 3, 1) := by decide +kernel
theorem dX1_fillProduct_23 : decode cX1_fillProduct 23 = .ok (.invokevirtual 35, 3) := by decide +kernel
theorem dX1_fillProduct_26 : decode cX1_fillProduct 26 = .ok (.imul, 1) := by decide +kernel
theorem dX1_fillProduct_27 : decode cX1_fillProduct 27 = .ok (.aload_n 0, 1) := by decide +kernel
theorem dX1_fillProduct_28 : decode cX1_fillProduct 28 = .ok (.getfield 13, 3) := by decide +kernel
theorem dX1_fillProduct_31 : decode cX1_fillProduct 31 = .ok (.irem, 1) := by decide +kernel
theorem dX1_fillProduct_32 : decode cX1_fillProduct 32 = .ok (.iastore, 1) := by decide +kernel
theorem dX1_fillProduct_33 : decode cX1_fillProduct 33 = .ok (.iinc 3 1, 3) := by decide +kernel
theorem dX1_fillProduct_36 : decode cX1_fillProduct 36 = .ok (.goto (-34), 3) := by decide +kernel
theorem dX1_fillProduct_39 : decode cX1_fillProduct 39 = .ok (.return_, 1) := by decide +kernel
theorem dX1_fillEach_0 : decode cX1_fillEach 0 = .ok (.iconst 0, 1) := by decide +kernel
theorem dX1_fillEach_1 : decode cX1_fillEach 1 = .ok (.istore 4, 2) := by decide +kernel
theorem dX1_fillEach_3 : decode cX1_fillEach 3 = .ok (.iload 4, 2) := by decide +kernel
theorem dX1_fillEach_5 : decode cX1_fillEach 5 = .ok (.aload_n 0, 1) := by decide +kernel
theorem dX1_fillEach_6 : decode cX1_fillEach 6 = .ok (.getfield 26, 3) := by decide +kernel
theorem dX1_fillEach_9 : decode cX1_fillEach 9 = .ok (.arraylength, 1) := by decide +kernel
theorem dX1_fillEach_10 : decode cX1_fillEach 10 = .ok (.if_icmp .ge 26, 3) := by decide +kernel
theorem dX1_fillEach_13 : decode cX1_fillEach 13 = .ok (.aload_n 0, 1) := by decide +kernel
theorem dX1_fillEach_14 : decode cX1_fillEach 14 = .ok (.getfield 26, 3) := by decide +kernel
theorem dX1_fillEach_17 : decode cX1_fillEach 17 = .ok (.iload 4, 2) := by decide +kernel
theorem dX1_fillEach_19 : decode cX1_fillEach 19 = .ok (.aload_n 1, 1) := by decide +kernel
theorem dX1_fillEach_20 : decode cX1_fillEach 20 = .ok (.iload_n 2, 1) := by decide +kernel
theorem dX1_fillEach_21 : decode cX1_fillEach 21 = .ok (.iload 4, 2) := by decide +kernel
theorem dX1_fillEach_23 : decode cX1_fillEach 23 = .ok (.imul, 1) := by decide +kernel
theorem dX1_fillEach_24 : decode cX1_fillEach 24 = .ok (.iload_n 3, 1) := by decide +kernel
theorem dX1_fillEach_25 : decode cX1_fillEach 25 = .ok (.iadd, 1) := by decide +kernel
theorem dX1_fillEach_26 : decode cX1_fillEach 26 = .ok (.invokevirtual 35, 3) := by decide +kernel
theorem dX1_fillEach_29 : decode cX1_fillEach 29 = .ok (.iastore, 1) := by decide +kernel
theorem dX1_fillEach_30 : decode cX1_fillEach 30 = .ok (.iinc 4 1, 3) := by decide +kernel
theorem dX1_fillEach_33 : decode cX1_fillEach 33 = .ok (.goto (-30), 3) := by decide +kernel
theorem dX1_fillEach_36 : decode cX1_fillEach 36 = .ok (.return_, 1) := by decide +kernel
theorem dX1_fillStep_0 : decode cX1_fillStep 0 = .ok (.iconst 0, 1) := by decide +kernel
theorem dX1_fillStep_1 : decode cX1_fillStep 1 = .ok (.istore_n 2, 1) := by decide +kernel
theorem dX1_fillStep_2 : decode cX1_fillStep 2 = .ok (.iload_n 2, 1) := by decide +kernel
theorem dX1_fillStep_3 : decode cX1_fillStep 3 = .ok (.aload_n 0, 1) := by decide +kernel
theorem dX1_fillStep_4 : decode cX1_fillStep 4 = .ok (.getfield 26, 3) := by decide +kernel
theorem dX1_fillStep_7 : decode cX1_fillStep 7 = .ok (.arraylength, 1) := by decide +kernel
theorem dX1_fillStep_8 : decode cX1_fillStep 8 = .ok (.if_icmp .ge 35, 3) := by decide +kernel
theorem dX1_fillStep_11 : decode cX1_fillStep 11 = .ok (.aload_n 0, 1) := by decide +kernel
theorem dX1_fillStep_12 : decode cX1_fillStep 12 = .ok (.getfield 26, 3) := by decide +kernel
theorem dX1_fillStep_15 : decode cX1_fillStep 15 = .ok (.iload_n 2, 1) := by decide +kernel
theorem dX1_fillStep_16 : decode cX1_fillStep 16 = .ok (.aload_n 1, 1) := by decide +kernel
theorem dX1_fillStep_17 : decode cX1_fillStep 17 = .ok (.iload_n 2, 1) := by decide +kernel
theorem dX1_fillStep_18 : decode cX1_fillStep 18 = .ok (.iconst 1, 1) := by decide +kernel
theorem dX1_fillStep_19 : decode cX1_fillStep 19 = .ok (.iadd, 1) := by decide +kernel
theorem dX1_fillStep_20 : decode cX1_fillStep 20 = .ok (.invokevirtual 35, 3) := by decide +kernel
theorem dX1_fillStep_23 : decode cX1_fillStep 23 = .ok (.aload_n 1, 1) := by decide +kernel
theorem dX1_fillStep_24 : decode cX1_fillStep 24 = .ok (.iload_n 2, 1) := by decide +kernel
theorem dX1_fillStep_25 : decode cX1_fillStep 25 = .ok (.invokevirtual 35, 3) := by decide +kernel
theorem dX1_fillStep_28 : decode cX1_fillStep 28 = .ok (.isub, 1) := by decide +kernel
theorem dX1_fillStep_29 : decode cX1_fillStep 29 = .ok (.aload_n 0, 1) := by decide +kernel
theorem dX1_fillStep_30 : decode cX1_fillStep 30 = .ok (.getfield 13, 3) := by decide +kernel
theorem dX1_fillStep_33 : decode cX1_fillStep 33 = .ok (.invokestatic 29, 3) := by decide +kernel
theorem dX1_fillStep_36 : decode cX1_fillStep 36 = .ok (.iastore, 1) := by decide +kernel
theorem dX1_fillStep_37 : decode cX1_fillStep 37 = .ok (.iinc 2 1, 3) := by decide +kernel
theorem dX1_fillStep_40 : decode cX1_fillStep 40 = .ok (.goto (-38), 3) := by decide +kernel
theorem dX1_fillStep_43 : decode cX1_fillStep 43 = .ok (.return_, 1) := by decide +kernel
theorem dX1_shortestLap_0 : decode cX1_shortestLap 0 = .ok (.iconst 1, 1) := by decide +kernel
theorem dX1_shortestLap_1 : decode cX1_shortestLap 1 = .ok (.istore_n 1, 1) := by decide +kernel
theorem dX1_shortestLap_2 : decode cX1_shortestLap 2 = .ok (.iload_n 1, 1) := by decide +kernel
theorem dX1_shortestLap_3 : decode cX1_shortestLap 3 = .ok (.aload_n 0, 1) := by decide +kernel
theorem dX1_shortestLap_4 : decode cX1_shortestLap 4 = .ok (.getfield 23, 3) := by decide +kernel
theorem dX1_shortestLap_7 : decode cX1_shortestLap 7 = .ok (.if_icmp .ge 28, 3) := by decide +kernel
theorem dX1_shortestLap_10 : decode cX1_shortestLap 10 = .ok (.aload_n 0, 1) := by decide +kernel
theorem dX1_shortestLap_11 : decode cX1_shortestLap 11 = .ok (.getfield 23, 3) := by decide +kernel
theorem dX1_shortestLap_14 : decode cX1_shortestLap 14 = .ok (.iload_n 1, 1) := by decide +kernel
theorem dX1_shortestLap_15 : decode cX1_shortestLap 15 = .ok (.irem, 1) := by decide +kernel
theorem dX1_shortestLap_16 : decode cX1_shortestLap 16 = .ok (.ifCond .ne 13, 3) := by decide +kernel
theorem dX1_shortestLap_19 : decode cX1_shortestLap 19 = .ok (.aload_n 0, 1) := by decide +kernel
theorem dX1_shortestLap_20 : decode cX1_shortestLap 20 = .ok (.iload_n 1, 1) := by decide +kernel
theorem dX1_shortestLap_21 : decode cX1_shortestLap 21 = .ok (.invokevirtual 39, 3) := by decide +kernel
theorem dX1_shortestLap_24 : decode cX1_shortestLap 24 = .ok (.ifCond .eq 5, 3) := by decide +kernel
theorem dX1_shortestLap_27 : decode cX1_shortestLap 27 = .ok (.iload_n 1, 1) := by decide +kernel
theorem dX1_shortestLap_28 : decode cX1_shortestLap 28 = .ok (.ireturn, 1) := by decide +kernel
theorem dX1_shortestLap_29 : decode cX1_shortestLap 29 = .ok (.iinc 1 1, 3) := by decide +kernel
theorem dX1_shortestLap_32 : decode cX1_shortestLap 32 = .ok (.goto (-30), 3) := by decide +kernel
theorem dX1_shortestLap_35 : decode cX1_shortestLap 35 = .ok (.aload_n 0, 1) := by decide +kernel
theorem dX1_shortestLap_36 : decode cX1_shortestLap 36 = .ok (.getfield 23, 3) := by decide +kernel
theorem dX1_shortestLap_39 : decode cX1_shortestLap 39 = .ok (.ireturn, 1) := by decide +kernel
theorem dX1_repeatsAfter_0 : decode cX1_repeatsAfter 0 = .ok (.bipush 6, 2) := by decide +kernel
theorem dX1_repeatsAfter_2 : decode cX1_repeatsAfter 2 = .ok (.istore_n 2, 1) := by decide +kernel
theorem dX1_repeatsAfter_3 : decode cX1_repeatsAfter 3 = .ok (.iload_n 2, 1) := by decide +kernel
theorem dX1_repeatsAfter_4 : decode cX1_repeatsAfter 4 = .ok (.iload_n 1, 1) := by decide +kernel
theorem dX1_repeatsAfter_5 : decode cX1_repeatsAfter 5 = .ok (.iadd, 1) := by decide +kernel
theorem dX1_repeatsAfter_6 : decode cX1_repeatsAfter 6 = .ok (.aload_n 0, 1) := by decide +kernel
theorem dX1_repeatsAfter_7 : decode cX1_repeatsAfter 7 = .ok (.getfield 26, 3) := by decide +kernel
theorem dX1_repeatsAfter_10 : decode cX1_repeatsAfter 10 = .ok (.arraylength, 1) := by decide +kernel
theorem dX1_repeatsAfter_11 : decode cX1_repeatsAfter 11 = .ok (.if_icmp .ge 28, 3) := by decide +kernel
theorem dX1_repeatsAfter_14 : decode cX1_repeatsAfter 14 = .ok (.aload_n 0, 1) := by decide +kernel
theorem dX1_repeatsAfter_15 : decode cX1_repeatsAfter 15 = .ok (.getfield 26, 3) := by decide +kernel
theorem dX1_repeatsAfter_18 : decode cX1_repeatsAfter 18 = .ok (.iload_n 2, 1) := by decide +kernel
theorem dX1_repeatsAfter_19 : decode cX1_repeatsAfter 19 = .ok (.iaload, 1) := by decide +kernel
theorem dX1_repeatsAfter_20 : decode cX1_repeatsAfter 20 = .ok (.aload_n 0, 1) := by decide +kernel
theorem dX1_repeatsAfter_21 : decode cX1_repeatsAfter 21 = .ok (.getfield 26, 3) := by decide +kernel
theorem dX1_repeatsAfter_24 : decode cX1_repeatsAfter 24 = .ok (.iload_n 2, 1) := by decide +kernel
theorem dX1_repeatsAfter_25 : decode cX1_repeatsAfter 25 = .ok (.iload_n 1, 1) := by decide +kernel
theorem dX1_repeatsAfter_26 : decode cX1_repeatsAfter 26 = .ok (.iadd, 1) := by decide +kernel
theorem dX1_repeatsAfter_27 : decode cX1_repeatsAfter 27 = .ok (.iaload, 1) := by decide +kernel
theorem dX1_repeatsAfter_28 : decode cX1_repeatsAfter 28 = .ok (.if_icmp .eq 5, 3) := by decide +kernel
theorem dX1_repeatsAfter_31 : decode cX1_repeatsAfter 31 = .ok (.iconst 0, 1) := by decide +kernel
theorem dX1_repeatsAfter_32 : decode cX1_repeatsAfter 32 = .ok (.ireturn, 1) := by decide +kernel
theorem dX1_repeatsAfter_33 : decode cX1_repeatsAfter 33 = .ok (.iinc 2 1, 3) := by decide +kernel
theorem dX1_repeatsAfter_36 : decode cX1_repeatsAfter 36 = .ok (.goto (-33), 3) := by decide +kernel
theorem dX1_repeatsAfter_39 : decode cX1_repeatsAfter 39 = .ok (.iconst 1, 1) := by decide +kernel
theorem dX1_repeatsAfter_40 : decode cX1_repeatsAfter 40 = .ok (.ireturn, 1) := by decide +kernel
theorem dX1_headFor_0 : decode cX1_headFor 0 = .ok (.bipush 6, 2) := by decide +kernel
theorem dX1_headFor_2 : decode cX1_headFor 2 = .ok (.istore_n 2, 1) := by decide +kernel
theorem dX1_headFor_3 : decode cX1_headFor 3 = .ok (.iload_n 2, 1) := by decide +kernel
theorem dX1_headFor_4 : decode cX1_headFor 4 = .ok (.ifCond .le 28, 3) := by decide +kernel
theorem dX1_headFor_7 : decode cX1_headFor 7 = .ok (.aload_n 0, 1) := by decide +kernel
theorem dX1_headFor_8 : decode cX1_headFor 8 = .ok (.iload_n 2, 1) := by decide +kernel
theorem dX1_headFor_9 : decode cX1_headFor 9 = .ok (.iconst 1, 1) := by decide +kernel
theorem dX1_headFor_10 : decode cX1_headFor 10 = .ok (.isub, 1) := by decide +kernel
theorem dX1_headFor_11 : decode cX1_headFor 11 = .ok (.invokevirtual 35, 3) := by decide +kernel
theorem dX1_headFor_14 : decode cX1_headFor 14 = .ok (.aload_n 0, 1) := by decide +kernel
theorem dX1_headFor_15 : decode cX1_headFor 15 = .ok (.iload_n 2, 1) := by decide +kernel
theorem dX1_headFor_16 : decode cX1_headFor 16 = .ok (.iconst 1, 1) := by decide +kernel
theorem dX1_headFor_17 : decode cX1_headFor 17 = .ok (.isub, 1) := by decide +kernel
theorem dX1_headFor_18 : decode cX1_headFor 18 = .ok (.iload_n 1, 1) := by decide +kernel
theorem dX1_headFor_19 : decode cX1_headFor 19 = .ok (.iadd, 1) := by decide +kernel
theorem dX1_headFor_20 : decode cX1_headFor 20 = .ok (.invokevirtual 35, 3) := by decide +kernel
theorem dX1_headFor_23 : decode cX1_headFor 23 = .ok (.if_icmp .ne 9, 3) := by decide +kernel
theorem dX1_headFor_26 : decode cX1_headFor 26 = .ok (.iinc 2 (-1), 3) := by decide +kernel
theorem dX1_headFor_29 : decode cX1_headFor 29 = .ok (.goto (-26), 3) := by decide +kernel
theorem dX1_headFor_32 : decode cX1_headFor 32 = .ok (.iload_n 2, 1) := by decide +kernel
theorem dX1_headFor_33 : decode cX1_headFor 33 = .ok (.ireturn, 1) := by decide +kernel
theorem dX1_noughtsFrom_0 : decode cX1_noughtsFrom 0 = .ok (.iconst 0, 1) := by decide +kernel
theorem dX1_noughtsFrom_1 : decode cX1_noughtsFrom 1 = .ok (.istore_n 3, 1) := by decide +kernel
theorem dX1_noughtsFrom_2 : decode cX1_noughtsFrom 2 = .ok (.iload_n 1, 1) := by decide +kernel
theorem dX1_noughtsFrom_3 : decode cX1_noughtsFrom 3 = .ok (.istore 4, 2) := by decide +kernel
theorem dX1_noughtsFrom_5 : decode cX1_noughtsFrom 5 = .ok (.iload 4, 2) := by decide +kernel
theorem dX1_noughtsFrom_7 : decode cX1_noughtsFrom 7 = .ok (.iload_n 1, 1) := by decide +kernel
theorem dX1_noughtsFrom_8 : decode cX1_noughtsFrom 8 = .ok (.iload_n 2, 1) := by decide +kernel
theorem dX1_noughtsFrom_9 : decode cX1_noughtsFrom 9 = .ok (.iadd, 1) := by decide +kernel
theorem dX1_noughtsFrom_10 : decode cX1_noughtsFrom 10 = .ok (.if_icmp .ge 21, 3) := by decide +kernel
theorem dX1_noughtsFrom_13 : decode cX1_noughtsFrom 13 = .ok (.aload_n 0, 1) := by decide +kernel
theorem dX1_noughtsFrom_14 : decode cX1_noughtsFrom 14 = .ok (.iload 4, 2) := by decide +kernel
theorem dX1_noughtsFrom_16 : decode cX1_noughtsFrom 16 = .ok (.invokevirtual 35, 3) := by decide +kernel
theorem dX1_noughtsFrom_19 : decode cX1_noughtsFrom 19 = .ok (.ifCond .ne 6, 3) := by decide +kernel
theorem dX1_noughtsFrom_22 : decode cX1_noughtsFrom 22 = .ok (.iinc 3 1, 3) := by decide +kernel
theorem dX1_noughtsFrom_25 : decode cX1_noughtsFrom 25 = .ok (.iinc 4 1, 3) := by decide +kernel
theorem dX1_noughtsFrom_28 : decode cX1_noughtsFrom 28 = .ok (.goto (-23), 3) := by decide +kernel
theorem dX1_noughtsFrom_31 : decode cX1_noughtsFrom 31 = .ok (.iload_n 3, 1) := by decide +kernel
theorem dX1_noughtsFrom_32 : decode cX1_noughtsFrom 32 = .ok (.ireturn, 1) := by decide +kernel
theorem dX1_firstMeeting_0 : decode cX1_firstMeeting 0 = .ok (.iconst 0, 1) := by decide +kernel
theorem dX1_firstMeeting_1 : decode cX1_firstMeeting 1 = .ok (.istore_n 2, 1) := by decide +kernel
theorem dX1_firstMeeting_2 : decode cX1_firstMeeting 2 = .ok (.iload_n 2, 1) := by decide +kernel
theorem dX1_firstMeeting_3 : decode cX1_firstMeeting 3 = .ok (.aload_n 0, 1) := by decide +kernel
theorem dX1_firstMeeting_4 : decode cX1_firstMeeting 4 = .ok (.getfield 26, 3) := by decide +kernel
theorem dX1_firstMeeting_7 : decode cX1_firstMeeting 7 = .ok (.arraylength, 1) := by decide +kernel
theorem dX1_firstMeeting_8 : decode cX1_firstMeeting 8 = .ok (.if_icmp .ge 25, 3) := by decide +kernel
theorem dX1_firstMeeting_11 : decode cX1_firstMeeting 11 = .ok (.aload_n 0, 1) := by decide +kernel
theorem dX1_firstMeeting_12 : decode cX1_firstMeeting 12 = .ok (.getfield 26, 3) := by decide +kernel
theorem dX1_firstMeeting_15 : decode cX1_firstMeeting 15 = .ok (.iload_n 2, 1) := by decide +kernel
theorem dX1_firstMeeting_16 : decode cX1_firstMeeting 16 = .ok (.iaload, 1) := by decide +kernel
theorem dX1_firstMeeting_17 : decode cX1_firstMeeting 17 = .ok (.aload_n 1, 1) := by decide +kernel
theorem dX1_firstMeeting_18 : decode cX1_firstMeeting 18 = .ok (.iload_n 2, 1) := by decide +kernel
theorem dX1_firstMeeting_19 : decode cX1_firstMeeting 19 = .ok (.invokevirtual 35, 3) := by decide +kernel
theorem dX1_firstMeeting_22 : decode cX1_firstMeeting 22 = .ok (.if_icmp .ne 5, 3) := by decide +kernel
theorem dX1_firstMeeting_25 : decode cX1_firstMeeting 25 = .ok (.iload_n 2, 1) := by decide +kernel
theorem dX1_firstMeeting_26 : decode cX1_firstMeeting 26 = .ok (.ireturn, 1) := by decide +kernel
theorem dX1_firstMeeting_27 : decode cX1_firstMeeting 27 = .ok (.iinc 2 1, 3) := by decide +kernel
theorem dX1_firstMeeting_30 : decode cX1_firstMeeting 30 = .ok (.goto (-28), 3) := by decide +kernel
theorem dX1_firstMeeting_33 : decode cX1_firstMeeting 33 = .ok (.ldc 42, 2) := by decide +kernel
theorem dX1_firstMeeting_35 : decode cX1_firstMeeting 35 = .ok (.ireturn, 1) := by decide +kernel
theorem dX2_init_0 : decode cX2_init 0 = .ok (.aload_n 0, 1) := by decide +kernel
theorem dX2_init_1 : decode cX2_init 1 = .ok (.invokespecial 1, 3) := by decide +kernel
theorem dX2_init_4 : decode cX2_init 4 = .ok (.return_, 1) := by decide +kernel
theorem dX2_degree_0 : decode cX2_degree 0 = .ok (.aload_n 0, 1) := by decide +kernel
theorem dX2_degree_1 : decode cX2_degree 1 = .ok (.getfield 7, 3) := by decide +kernel
theorem dX2_degree_4 : decode cX2_degree 4 = .ok (.ireturn, 1) := by decide +kernel
theorem dX2_u_0 : decode cX2_u 0 = .ok (.aload_n 0, 1) := by decide +kernel
theorem dX2_u_1 : decode cX2_u 1 = .ok (.getfield 13, 3) := by decide +kernel
theorem dX2_u_4 : decode cX2_u 4 = .ok (.ireturn, 1) := by decide +kernel
theorem dX2_v_0 : decode cX2_v 0 = .ok (.aload_n 0, 1) := by decide +kernel
theorem dX2_v_1 : decode cX2_v 1 = .ok (.getfield 16, 3) := by decide +kernel
theorem dX2_v_4 : decode cX2_v 4 = .ok (.ireturn, 1) := by decide +kernel
theorem dX2_isFoundFor_0 : decode cX2_isFoundFor 0 = .ok (.aload_n 0, 1) := by decide +kernel
theorem dX2_isFoundFor_1 : decode cX2_isFoundFor 1 = .ok (.iconst 0, 1) := by decide +kernel
theorem dX2_isFoundFor_2 : decode cX2_isFoundFor 2 = .ok (.putfield 7, 3) := by decide +kernel
theorem dX2_isFoundFor_5 : decode cX2_isFoundFor 5 = .ok (.aload_n 0, 1) := by decide +kernel
theorem dX2_isFoundFor_6 : decode cX2_isFoundFor 6 = .ok (.iconst 0, 1) := by decide +kernel
theorem dX2_isFoundFor_7 : decode cX2_isFoundFor 7 = .ok (.putfield 13, 3) := by decide +kernel
theorem dX2_isFoundFor_10 : decode cX2_isFoundFor 10 = .ok (.aload_n 0, 1) := by decide +kernel
theorem dX2_isFoundFor_11 : decode cX2_isFoundFor 11 = .ok (.iconst 0, 1) := by decide +kernel
theorem dX2_isFoundFor_12 : decode cX2_isFoundFor 12 = .ok (.putfield 16, 3) := by decide +kernel
theorem dX2_isFoundFor_15 : decode cX2_isFoundFor 15 = .ok (.aload_n 0, 1) := by decide +kernel
theorem dX2_isFoundFor_16 : decode cX2_isFoundFor 16 = .ok (.aload_n 1, 1) := by decide +kernel
theorem dX2_isFoundFor_17 : decode cX2_isFoundFor 17 = .ok (.invokevirtual 19, 3) := by decide +kernel
theorem dX2_isFoundFor_20 : decode cX2_isFoundFor 20 = .ok (.ifCond .ne 19, 3) := by decide +kernel
theorem dX2_isFoundFor_23 : decode cX2_isFoundFor 23 = .ok (.aload_n 0, 1) := by decide +kernel
theorem dX2_isFoundFor_24 : decode cX2_isFoundFor 24 = .ok (.aload_n 1, 1) := by decide +kernel
theorem dX2_isFoundFor_25 : decode cX2_isFoundFor 25 = .ok (.invokevirtual 23, 3) := by decide +kernel
theorem dX2_isFoundFor_28 : decode cX2_isFoundFor 28 = .ok (.ifCond .ne 11, 3) := by decide +kernel
theorem dX2_isFoundFor_31 : decode cX2_isFoundFor 31 = .ok (.aload_n 0, 1) := by decide +kernel
theorem dX2_isFoundFor_32 : decode cX2_isFoundFor 32 = .ok (.aload_n 1, 1) := by decide +kernel
theorem dX2_isFoundFor_33 : decode cX2_isFoundFor 33 = .ok (.invokevirtual 26, 3) := by decide +kernel
theorem dX2_isFoundFor_36 : decode cX2_isFoundFor 36 = .ok (.ifCond .eq 7, 3) := by decide +kernel
theorem dX2_isFoundFor_39 : decode cX2_isFoundFor 39 = .ok (.iconst 1, 1) := by decide +kernel
theorem dX2_isFoundFor_40 : decode cX2_isFoundFor 40 = .ok (.goto 4, 3) := by decide +kernel
theorem dX2_isFoundFor_43 : decode cX2_isFoundFor 43 = .ok (.iconst 0, 1) := by decide +kernel
theorem dX2_isFoundFor_44 : decode cX2_isFoundFor 44 = .ok (.ireturn, 1) := by decide +kernel
theorem dX2_isFoundByOne_0 : decode cX2_isFoundByOne 0 = .ok (.aload_n 0, 1) := by decide +kernel
theorem dX2_isFoundByOne_1 : decode cX2_isFoundByOne 1 = .ok (.iconst 1, 1) := by decide +kernel
theorem dX2_isFoundByOne_2 : decode cX2_isFoundByOne 2 = .ok (.putfield 7, 3) := by decide +kernel
theorem dX2_isFoundByOne_5 : decode cX2_isFoundByOne 5 = .ok (.bipush (-9), 2) := by decide +kernel
theorem dX2_isFoundByOne_7 : decode cX2_isFoundByOne 7 = .ok (.istore_n 2, 1) := by decide +kernel
theorem dX2_isFoundByOne_8 : decode cX2_isFoundByOne 8 = .ok (.iload_n 2, 1) := by decide +kernel
theorem dX2_isFoundByOne_9 : decode cX2_isFoundByOne 9 = .ok (.bipush 9, 2) := by decide +kernel
theorem dX2_isFoundByOne_11 : decode cX2_isFoundByOne 11 = .ok (.if_icmp .gt 24, 3) := by decide +kernel
theorem dX2_isFoundByOne_14 : decode cX2_isFoundByOne 14 = .ok (.aload_n 0, 1) := by decide +kernel
theorem dX2_isFoundByOne_15 : decode cX2_isFoundByOne 15 = .ok (.iload_n 2, 1) := by decide +kernel
theorem dX2_isFoundByOne_16 : decode cX2_isFoundByOne 16 = .ok (.putfield 13, 3) := by decide +kernel
theorem dX2_isFoundByOne_19 : decode cX2_isFoundByOne 19 = .ok (.aload_n 0, 1) := by decide +kernel
theorem dX2_isFoundByOne_20 : decode cX2_isFoundByOne 20 = .ok (.aload_n 1, 1) := by decide +kernel
theorem dX2_isFoundByOne_21 : decode cX2_isFoundByOne 21 = .ok (.invokevirtual 19, 3) := by decide +kernel
theorem dX2_isFoundByOne_24 : decode cX2_isFoundByOne 24 = .ok (.ifCond .eq 5, 3) := by decide +kernel
theorem dX2_isFoundByOne_27 : decode cX2_isFoundByOne 27 = .ok (.iconst 1, 1) := by decide +kernel
theorem dX2_isFoundByOne_28 : decode cX2_isFoundByOne 28 = .ok (.ireturn, 1) := by decide +kernel
theorem dX2_isFoundByOne_29 : decode cX2_isFoundByOne 29 = .ok (.iinc 2 1, 3) := by decide +kernel
theorem dX2_isFoundByOne_32 : decode cX2_isFoundByOne 32 = .ok (.goto (-24), 3) := by decide +kernel
theorem dX2_isFoundByOne_35 : decode cX2_isFoundByOne 35 = .ok (.iconst 0, 1) := by decide +kernel
theorem dX2_isFoundByOne_36 : decode cX2_isFoundByOne 36 = .ok (.ireturn, 1) := by decide +kernel
theorem dX2_isFoundByTwo_0 : decode cX2_isFoundByTwo 0 = .ok (.aload_n 0, 1) := by decide +kernel
theorem dX2_isFoundByTwo_1 : decode cX2_isFoundByTwo 1 = .ok (.iconst 2, 1) := by decide +kernel
theorem dX2_isFoundByTwo_2 : decode cX2_isFoundByTwo 2 = .ok (.putfield 7, 3) := by decide +kernel
theorem dX2_isFoundByTwo_5 : decode cX2_isFoundByTwo 5 = .ok (.bipush (-9), 2) := by decide +kernel
theorem dX2_isFoundByTwo_7 : decode cX2_isFoundByTwo 7 = .ok (.istore_n 2, 1) := by decide +kernel
theorem dX2_isFoundByTwo_8 : decode cX2_isFoundByTwo 8 = .ok (.iload_n 2, 1) := by decide +kernel
theorem dX2_isFoundByTwo_9 : decode cX2_isFoundByTwo 9 = .ok (.bipush 9, 2) := by decide +kernel
theorem dX2_isFoundByTwo_11 : decode cX2_isFoundByTwo 11 = .ok (.if_icmp .gt 44, 3) := by decide +kernel
theorem dX2_isFoundByTwo_14 : decode cX2_isFoundByTwo 14 = .ok (.bipush (-9), 2) := by decide +kernel
theorem dX2_isFoundByTwo_16 : decode cX2_isFoundByTwo 16 = .ok (.istore_n 3, 1) := by decide +kernel
theorem dX2_isFoundByTwo_17 : decode cX2_isFoundByTwo 17 = .ok (.iload_n 3, 1) := by decide +kernel
theorem dX2_isFoundByTwo_18 : decode cX2_isFoundByTwo 18 = .ok (.bipush 9, 2) := by decide +kernel
theorem dX2_isFoundByTwo_20 : decode cX2_isFoundByTwo 20 = .ok (.if_icmp .gt 29, 3) := by decide +kernel
theorem dX2_isFoundByTwo_23 : decode cX2_isFoundByTwo 23 = .ok (.aload_n 0, 1) := by decide +kernel
theorem dX2_isFoundByTwo_24 : decode cX2_isFoundByTwo 24 = .ok (.iload_n 2, 1) := by decide +kernel
theorem dX2_isFoundByTwo_25 : decode cX2_isFoundByTwo 25 = .ok (.putfield 13, 3) := by decide +kernel
theorem dX2_isFoundByTwo_28 : decode cX2_isFoundByTwo 28 = .ok (.aload_n 0, 1) := by decide +kernel
theorem dX2_isFoundByTwo_29 : decode cX2_isFoundByTwo 29 = .ok (.iload_n 3, 1) := by decide +kernel
theorem dX2_isFoundByTwo_30 : decode cX2_isFoundByTwo 30 = .ok (.putfield 16, 3) := by decide +kernel
theorem dX2_isFoundByTwo_33 : decode cX2_isFoundByTwo 33 = .ok (.aload_n 0, 1) := by decide +kernel
theorem dX2_isFoundByTwo_34 : decode cX2_isFoundByTwo 34 = .ok (.aload_n 1, 1) := by decide +kernel
theorem dX2_isFoundByTwo_35 : decode cX2_isFoundByTwo 35 = .ok (.invokevirtual 19, 3) := by decide +kernel
theorem dX2_isFoundByTwo_38 : decode cX2_isFoundByTwo 38 = .ok (.ifCond .eq 5, 3) := by decide +kernel
theorem dX2_isFoundByTwo_41 : decode cX2_isFoundByTwo 41 = .ok (.iconst 1, 1) := by decide +kernel
theorem dX2_isFoundByTwo_42 : decode cX2_isFoundByTwo 42 = .ok (.ireturn, 1) := by decide +kernel
theorem dX2_isFoundByTwo_43 : decode cX2_isFoundByTwo 43 = .ok (.iinc 3 1, 3) := by decide +kernel
theorem dX2_isFoundByTwo_46 : decode cX2_isFoundByTwo 46 = .ok (.goto (-29), 3) := by decide +kernel
theorem dX2_isFoundByTwo_49 : decode cX2_isFoundByTwo 49 = .ok (.iinc 2 1, 3) := by decide +kernel
theorem dX2_isFoundByTwo_52 : decode cX2_isFoundByTwo 52 = .ok (.goto (-44), 3) := by decide +kernel
theorem dX2_isFoundByTwo_55 : decode cX2_isFoundByTwo 55 = .ok (.iconst 0, 1) := by decide +kernel
theorem dX2_isFoundByTwo_56 : decode cX2_isFoundByTwo 56 = .ok (.ireturn, 1) := by decide +kernel
theorem dX2_fits_0 : decode cX2_fits 0 = .ok (.aload_n 0, 1) := by decide +kernel
theorem dX2_fits_1 : decode cX2_fits 1 = .ok (.getfield 7, 3) := by decide +kernel
theorem dX2_fits_4 : decode cX2_fits 4 = .ok (.istore_n 2, 1) := by decide +kernel
theorem dX2_fits_5 : decode cX2_fits 5 = .ok (.iload_n 2, 1) := by decide +kernel
theorem dX2_fits_6 : decode cX2_fits 6 = .ok (.aload_n 1, 1) := by decide +kernel
theorem dX2_fits_7 : decode cX2_fits 7 = .ok (.invokevirtual 29, 3) := by decide +kernel
theorem dX2_fits_10 : decode cX2_fits 10 = .ok (.if_icmp .ge 44, 3) := by decide +kernel
theorem dX2_fits_13 : decode cX2_fits 13 = .ok (.aload_n 1, 1) := by decide +kernel
theorem dX2_fits_14 : decode cX2_fits 14 = .ok (.iload_n 2, 1) := by decide +kernel
theorem dX2_fits_15 : decode cX2_fits 15 = .ok (.invokevirtual 35, 3) := by decide +kernel
theorem dX2_fits_18 : decode cX2_fits 18 = .ok (.aload_n 0, 1) := by decide +kernel
theorem dX2_fits_19 : decode cX2_fits 19 = .ok (.getfield 13, 3) := by decide +kernel
theorem dX2_fits_22 : decode cX2_fits 22 = .ok (.aload_n 1, 1) := by decide +kernel
theorem dX2_fits_23 : decode cX2_fits 23 = .ok (.iload_n 2, 1) := by decide +kernel
theorem dX2_fits_24 : decode cX2_fits 24 = .ok (.iconst 1, 1) := by decide +kernel
theorem dX2_fits_25 : decode cX2_fits 25 = .ok (.isub, 1) := by decide +kernel
theorem dX2_fits_26 : decode cX2_fits 26 = .ok (.invokevirtual 35, 3) := by decide +kernel
theorem dX2_fits_29 : decode cX2_fits 29 = .ok (.imul, 1) := by decide +kernel
theorem dX2_fits_30 : decode cX2_fits 30 = .ok (.aload_n 0, 1) := by decide +kernel
theorem dX2_fits_31 : decode cX2_fits 31 = .ok (.getfield 16, 3) := by decide +kernel
theorem dX2_fits_34 : decode cX2_fits 34 = .ok (.aload_n 1, 1) := by decide +kernel
theorem dX2_fits_35 : decode cX2_fits 35 = .ok (.iload_n 2, 1) := by decide +kernel
theorem dX2_fits_36 : decode cX2_fits 36 = .ok (.iconst 2, 1) := by decide +kernel
theorem dX2_fits_37 : decode cX2_fits 37 = .ok (.isub, 1) := by decide +kernel
theorem dX2_fits_38 : decode cX2_fits 38 = .ok (.invokevirtual 35, 3) := by decide +kernel
theorem dX2_fits_41 : decode cX2_fits 41 = .ok (.imul, 1) := by decide +kernel
theorem dX2_fits_42 : decode cX2_fits 42 = .ok (.iadd, 1) := by decide +kernel
theorem dX2_fits_43 : decode cX2_fits 43 = .ok (.if_icmp .eq 5, 3) := by decide +kernel
theorem dX2_fits_46 : decode cX2_fits 46 = .ok (.iconst 0, 1) := by decide +kernel
theorem dX2_fits_47 : decode cX2_fits 47 = .ok (.ireturn, 1) := by decide +kernel
theorem dX2_fits_48 : decode cX2_fits 48 = .ok (.iinc 2 1, 3) := by decide +kernel
theorem dX2_fits_51 : decode cX2_fits 51 = .ok (.goto (-46), 3) := by decide +kernel
theorem dX2_fits_54 : decode cX2_fits 54 = .ok (.iconst 1, 1) := by decide +kernel
theorem dX2_fits_55 : decode cX2_fits 55 = .ok (.ireturn, 1) := by decide +kernel
theorem dX3_init_0 : decode cX3_init 0 = .ok (.aload_n 0, 1) := by decide +kernel
theorem dX3_init_1 : decode cX3_init 1 = .ok (.invokespecial 3, 3) := by decide +kernel
theorem dX3_init_4 : decode cX3_init 4 = .ok (.aload_n 0, 1) := by decide +kernel
theorem dX3_init_5 : decode cX3_init 5 = .ok (.bipush 8, 2) := by decide +kernel
theorem dX3_init_7 : decode cX3_init 7 = .ok (.newarray .int, 2) := by decide +kernel
theorem dX3_init_9 : decode cX3_init 9 = .ok (.putfield 9, 3) := by decide +kernel
theorem dX3_init_12 : decode cX3_init 12 = .ok (.aload_n 0, 1) := by decide +kernel
theorem dX3_init_13 : decode cX3_init 13 = .ok (.bipush 32, 2) := by decide +kernel
theorem dX3_init_15 : decode cX3_init 15 = .ok (.newarray .int, 2) := by decide +kernel
theorem dX3_init_17 : decode cX3_init 17 = .ok (.putfield 15, 3) := by decide +kernel
theorem dX3_init_20 : decode cX3_init 20 = .ok (.return_, 1) := by decide +kernel
theorem dX3_size_0 : decode cX3_size 0 = .ok (.aload_n 0, 1) := by decide +kernel
theorem dX3_size_1 : decode cX3_size 1 = .ok (.getfield 18, 3) := by decide +kernel
theorem dX3_size_4 : decode cX3_size 4 = .ok (.ireturn, 1) := by decide +kernel
theorem dX3_holds_0 : decode cX3_holds 0 = .ok (.iload_n 1, 1) := by decide +kernel
theorem dX3_holds_1 : decode cX3_holds 1 = .ok (.ifCond .lt 21, 3) := by decide +kernel
theorem dX3_holds_4 : decode cX3_holds 4 = .ok (.iload_n 1, 1) := by decide +kernel
theorem dX3_holds_5 : decode cX3_holds 5 = .ok (.aload_n 0, 1) := by decide +kernel
theorem dX3_holds_6 : decode cX3_holds 6 = .ok (.getfield 18, 3) := by decide +kernel
theorem dX3_holds_9 : decode cX3_holds 9 = .ok (.if_icmp .ge 13, 3) := by decide +kernel
theorem dX3_holds_12 : decode cX3_holds 12 = .ok (.iload_n 1, 1) := by decide +kernel
theorem dX3_holds_13 : decode cX3_holds 13 = .ok (.bipush 8, 2) := by decide +kernel
theorem dX3_holds_15 : decode cX3_holds 15 = .ok (.if_icmp .ge 7, 3) := by decide +kernel
theorem dX3_holds_18 : decode cX3_holds 18 = .ok (.iconst 1, 1) := by decide +kernel
theorem dX3_holds_19 : decode cX3_holds 19 = .ok (.goto 4, 3) := by decide +kernel
theorem dX3_holds_22 : decode cX3_holds 22 = .ok (.iconst 0, 1) := by decide +kernel
theorem dX3_holds_23 : decode cX3_holds 23 = .ok (.ireturn, 1) := by decide +kernel
theorem dX3_isTold_0 : decode cX3_isTold 0 = .ok (.aload_n 0, 1) := by decide +kernel
theorem dX3_isTold_1 : decode cX3_isTold 1 = .ok (.iload_n 1, 1) := by decide +kernel
theorem dX3_isTold_2 : decode cX3_isTold 2 = .ok (.invokevirtual 22, 3) := by decide +kernel
theorem dX3_isTold_5 : decode cX3_isTold 5 = .ok (.ifCond .eq 16, 3) := by decide +kernel
theorem dX3_isTold_8 : decode cX3_isTold 8 = .ok (.aload_n 0, 1) := by decide +kernel
theorem dX3_isTold_9 : decode cX3_isTold 9 = .ok (.getfield 9, 3) := by decide +kernel
theorem dX3_isTold_12 : decode cX3_isTold 12 = .ok (.iload_n 1, 1) := by decide +kernel
theorem dX3_isTold_13 : decode cX3_isTold 13 = .ok (.iaload, 1) := by decide +kernel
theorem dX3_isTold_14 : decode cX3_isTold 14 = .ok (.ifCond .ne 7, 3) := by decide +kernel
theorem dX3_isTold_17 : decode cX3_isTold 17 = .ok (.iconst 1, 1) := by decide +kernel
theorem dX3_isTold_18 : decode cX3_isTold 18 = .ok (.goto 4, 3) := by decide +kernel
theorem dX3_isTold_21 : decode cX3_isTold 21 = .ok (.iconst 0, 1) := by decide +kernel
theorem dX3_isTold_22 : decode cX3_isTold 22 = .ok (.ireturn, 1) := by decide +kernel
theorem dX3_kindOf_0 : decode cX3_kindOf 0 = .ok (.aload_n 0, 1) := by decide +kernel
theorem dX3_kindOf_1 : decode cX3_kindOf 1 = .ok (.iload_n 1, 1) := by decide +kernel
theorem dX3_kindOf_2 : decode cX3_kindOf 2 = .ok (.invokevirtual 22, 3) := by decide +kernel
theorem dX3_kindOf_5 : decode cX3_kindOf 5 = .ok (.ifCond .eq 12, 3) := by decide +kernel
theorem dX3_kindOf_8 : decode cX3_kindOf 8 = .ok (.aload_n 0, 1) := by decide +kernel
theorem dX3_kindOf_9 : decode cX3_kindOf 9 = .ok (.getfield 9, 3) := by decide +kernel
theorem dX3_kindOf_12 : decode cX3_kindOf 12 = .ok (.iload_n 1, 1) := by decide +kernel
theorem dX3_kindOf_13 : decode cX3_kindOf 13 = .ok (.iaload, 1) := by decide +kernel
theorem dX3_kindOf_14 : decode cX3_kindOf 14 = .ok (.goto 4, 3) := by decide +kernel
theorem dX3_kindOf_17 : decode cX3_kindOf 17 = .ok (.iconst 0, 1) := by decide +kernel
theorem dX3_kindOf_18 : decode cX3_kindOf 18 = .ok (.ireturn, 1) := by decide +kernel
theorem dX3_numberOf_0 : decode cX3_numberOf 0 = .ok (.aload_n 0, 1) := by decide +kernel
theorem dX3_numberOf_1 : decode cX3_numberOf 1 = .ok (.iload_n 1, 1) := by decide +kernel
theorem dX3_numberOf_2 : decode cX3_numberOf 2 = .ok (.invokevirtual 22, 3) := by decide +kernel
theorem dX3_numberOf_5 : decode cX3_numberOf 5 = .ok (.ifCond .eq 23, 3) := by decide +kernel
theorem dX3_numberOf_8 : decode cX3_numberOf 8 = .ok (.iload_n 2, 1) := by decide +kernel
theorem dX3_numberOf_9 : decode cX3_numberOf 9 = .ok (.invokestatic 26, 3) := by decide +kernel
theorem dX3_numberOf_12 : decode cX3_numberOf 12 = .ok (.ifCond .eq 16, 3) := by decide +kernel
theorem dX3_numberOf_15 : decode cX3_numberOf 15 = .ok (.aload_n 0, 1) := by decide +kernel
theorem dX3_numberOf_16 : decode cX3_numberOf 16 = .ok (.getfield 15, 3) := by decide +kernel
theorem dX3_numberOf_19 : decode cX3_numberOf 19 = .ok (.iload_n 1, 1) := by decide +kernel
theorem dX3_numberOf_20 : decode cX3_numberOf 20 = .ok (.iconst 4, 1) := by decide +kernel
theorem dX3_numberOf_21 : decode cX3_numberOf 21 = .ok (.imul, 1) := by decide +kernel
theorem dX3_numberOf_22 : decode cX3_numberOf 22 = .ok (.iload_n 2, 1) := by decide +kernel
theorem dX3_numberOf_23 : decode cX3_numberOf 23 = .ok (.iadd, 1) := by decide +kernel
theorem dX3_numberOf_24 : decode cX3_numberOf 24 = .ok (.iaload, 1) := by decide +kernel
theorem dX3_numberOf_25 : decode cX3_numberOf 25 = .ok (.goto 4, 3) := by decide +kernel
theorem dX3_numberOf_28 : decode cX3_numberOf 28 = .ok (.iconst 0, 1) := by decide +kernel
theorem dX3_numberOf_29 : decode cX3_numberOf 29 = .ok (.ireturn, 1) := by decide +kernel
theorem dX3_setNumber_0 : decode cX3_setNumber 0 = .ok (.aload_n 0, 1) := by decide +kernel
theorem dX3_setNumber_1 : decode cX3_setNumber 1 = .ok (.iload_n 1, 1) := by decide +kernel
theorem dX3_setNumber_2 : decode cX3_setNumber 2 = .ok (.invokevirtual 22, 3) := by decide +kernel
theorem dX3_setNumber_5 : decode cX3_setNumber 5 = .ok (.ifCond .eq 21, 3) := by decide +kernel
theorem dX3_setNumber_8 : decode cX3_setNumber 8 = .ok (.iload_n 2, 1) := by decide +kernel
theorem dX3_setNumber_9 : decode cX3_setNumber 9 = .ok (.invokestatic 26, 3) := by decide +kernel
theorem dX3_setNumber_12 : decode cX3_setNumber 12 = .ok (.ifCond .eq 14, 3) := by decide +kernel
theorem dX3_setNumber_15 : decode cX3_setNumber 15 = .ok (.aload_n 0, 1) := by decide +kernel
theorem dX3_setNumber_16 : decode cX3_setNumber 16 = .ok (.getfield 15, 3) := by decide +kernel
theorem dX3_setNumber_19 : decode cX3_setNumber 19 = .ok (.iload_n 1, 1) := by decide +kernel
theorem dX3_setNumber_20 : decode cX3_setNumber 20 = .ok (.iconst 4, 1) := by decide +kernel
theorem dX3_setNumber_21 : decode cX3_setNumber 21 = .ok (.imul, 1) := by decide +kernel
theorem dX3_setNumber_22 : decode cX3_setNumber 22 = .ok (.iload_n 2, 1) := by decide +kernel
theorem dX3_setNumber_23 : decode cX3_setNumber 23 = .ok (.iadd, 1) := by decide +kernel
theorem dX3_setNumber_24 : decode cX3_setNumber 24 = .ok (.iload_n 3, 1) := by decide +kernel
theorem dX3_setNumber_25 : decode cX3_setNumber 25 = .ok (.iastore, 1) := by decide +kernel
theorem dX3_setNumber_26 : decode cX3_setNumber 26 = .ok (.return_, 1) := by decide +kernel
theorem dX3_append_0 : decode cX3_append 0 = .ok (.aload_n 0, 1) := by decide +kernel
theorem dX3_append_1 : decode cX3_append 1 = .ok (.getfield 18, 3) := by decide +kernel
theorem dX3_append_4 : decode cX3_append 4 = .ok (.bipush 8, 2) := by decide +kernel
theorem dX3_append_6 : decode cX3_append 6 = .ok (.if_icmp .lt 5, 3) := by decide +kernel
theorem dX3_append_9 : decode cX3_append 9 = .ok (.iconst 0, 1) := by decide +kernel
theorem dX3_append_10 : decode cX3_append 10 = .ok (.ireturn, 1) := by decide +kernel
theorem dX3_append_11 : decode cX3_append 11 = .ok (.aload_n 0, 1) := by decide +kernel
theorem dX3_append_12 : decode cX3_append 12 = .ok (.dup, 1) := by decide +kernel
theorem dX3_append_13 : decode cX3_append 13 = .ok (.getfield 18, 3) := by decide +kernel
theorem dX3_append_16 : decode cX3_append 16 = .ok (.iconst 1, 1) := by decide +kernel
theorem dX3_append_17 : decode cX3_append 17 = .ok (.iadd, 1) := by decide +kernel
theorem dX3_append_18 : decode cX3_append 18 = .ok (.putfield 18, 3) := by decide +kernel
theorem dX3_append_21 : decode cX3_append 21 = .ok (.aload_n 0, 1) := by decide +kernel
theorem dX3_append_22 : decode cX3_append 22 = .ok (.aload_n 0, 1) := by decide +kernel
theorem dX3_append_23 : decode cX3_append 23 = .ok (.getfield 18, 3) := by decide +kernel
theorem dX3_append_26 : decode cX3_append 26 = .ok (.iconst 1, 1) := by decide +kernel
theorem dX3_append_27 : decode cX3_append 27 = .ok (.isub, 1) := by decide +kernel
theorem dX3_append_28 : decode cX3_append 28 = .ok (.iload_n 1, 1) := by decide +kernel
theorem dX3_append_29 : decode cX3_append 29 = .ok (.iload_n 2, 1) := by decide +kernel
theorem dX3_append_30 : decode cX3_append 30 = .ok (.iload_n 3, 1) := by decide +kernel
theorem dX3_append_31 : decode cX3_append 31 = .ok (.iload 4, 2) := by decide +kernel
theorem dX3_append_33 : decode cX3_append 33 = .ok (.iload 5, 2) := by decide +kernel
theorem dX3_append_35 : decode cX3_append 35 = .ok (.invokevirtual 29, 3) := by decide +kernel
theorem dX3_append_38 : decode cX3_append 38 = .ok (.iconst 1, 1) := by decide +kernel
theorem dX3_append_39 : decode cX3_append 39 = .ok (.ireturn, 1) := by decide +kernel
theorem dX3_write_0 : decode cX3_write 0 = .ok (.iload_n 1, 1) := by decide +kernel
theorem dX3_write_1 : decode cX3_write 1 = .ok (.ifCond .lt 9, 3) := by decide +kernel
theorem dX3_write_4 : decode cX3_write 4 = .ok (.iload_n 1, 1) := by decide +kernel
theorem dX3_write_5 : decode cX3_write 5 = .ok (.bipush 8, 2) := by decide +kernel
theorem dX3_write_7 : decode cX3_write 7 = .ok (.if_icmp .lt 4, 3) := by decide +kernel
theorem dX3_write_10 : decode cX3_write 10 = .ok (.return_, 1) := by decide +kernel
theorem dX3_write_11 : decode cX3_write 11 = .ok (.iload_n 1, 1) := by decide +kernel
theorem dX3_write_12 : decode cX3_write 12 = .ok (.iconst 4, 1) := by decide +kernel
theorem dX3_write_13 : decode cX3_write 13 = .ok (.imul, 1) := by decide +kernel
theorem dX3_write_14 : decode cX3_write 14 = .ok (.istore 7, 2) := by decide +kernel
theorem dX3_write_16 : decode cX3_write 16 = .ok (.aload_n 0, 1) := by decide +kernel
theorem dX3_write_17 : decode cX3_write 17 = .ok (.getfield 9, 3) := by decide +kernel
theorem dX3_write_20 : decode cX3_write 20 = .ok (.iload_n 1, 1) := by decide +kernel
theorem dX3_write_21 : decode cX3_write 21 = .ok (.iload_n 2, 1) := by decide +kernel
theorem dX3_write_22 : decode cX3_write 22 = .ok (.iastore, 1) := by decide +kernel
theorem dX3_write_23 : decode cX3_write 23 = .ok (.aload_n 0, 1) := by decide +kernel
theorem dX3_write_24 : decode cX3_write 24 = .ok (.getfield 15, 3) := by decide +kernel
theorem dX3_write_27 : decode cX3_write 27 = .ok (.iload 7, 2) := by decide +kernel
theorem dX3_write_29 : decode cX3_write 29 = .ok (.iload_n 3, 1) := by decide +kernel
theorem dX3_write_30 : decode cX3_write 30 = .ok (.iastore, 1) := by decide +kernel
theorem dX3_write_31 : decode cX3_write 31 = .ok (.aload_n 0, 1) := by decide +kernel
theorem dX3_write_32 : decode cX3_write 32 = .ok (.getfield 15, 3) := by decide +kernel
theorem dX3_write_35 : decode cX3_write 35 = .ok (.iload 7, 2) := by decide +kernel
theorem dX3_write_37 : decode cX3_write 37 = .ok (.iconst 1, 1) := by decide +kernel
theorem dX3_write_38 : decode cX3_write 38 = .ok (.iadd, 1) := by decide +kernel
theorem dX3_write_39 : decode cX3_write 39 = .ok (.iload 4, 2) := by decide +kernel
theorem dX3_write_41 : decode cX3_write 41 = .ok (.iastore, 1) := by decide +kernel
theorem dX3_write_42 : decode cX3_write 42 = .ok (.aload_n 0, 1) := by decide +kernel
theorem dX3_write_43 : decode cX3_write 43 = .ok (.getfield 15, 3) := by decide +kernel
theorem dX3_write_46 : decode cX3_write 46 = .ok (.iload 7, 2) := by decide +kernel
theorem dX3_write_48 : decode cX3_write 48 = .ok (.iconst 2, 1) := by decide +kernel
theorem dX3_write_49 : decode cX3_write 49 = .ok (.iadd, 1) := by decide +kernel
theorem dX3_write_50 : decode cX3_write 50 = .ok (.iload 5, 2) := by decide +kernel
theorem dX3_write_52 : decode cX3_write 52 = .ok (.iastore, 1) := by decide +kernel
theorem dX3_write_53 : decode cX3_write 53 = .ok (.aload_n 0, 1) := by decide +kernel
theorem dX3_write_54 : decode cX3_write 54 = .ok (.getfield 15, 3) := by decide +kernel
theorem dX3_write_57 : decode cX3_write 57 = .ok (.iload 7, 2) := by decide +kernel
theorem dX3_write_59 : decode cX3_write 59 = .ok (.iconst 3, 1) := by decide +kernel
theorem dX3_write_60 : decode cX3_write 60 = .ok (.iadd, 1) := by decide +kernel
theorem dX3_write_61 : decode cX3_write 61 = .ok (.iload 6, 2) := by decide +kernel
theorem dX3_write_63 : decode cX3_write 63 = .ok (.iastore, 1) := by decide +kernel
theorem dX3_write_64 : decode cX3_write 64 = .ok (.return_, 1) := by decide +kernel
theorem dX3_removeLast_0 : decode cX3_removeLast 0 = .ok (.aload_n 0, 1) := by decide +kernel
theorem dX3_removeLast_1 : decode cX3_removeLast 1 = .ok (.getfield 18, 3) := by decide +kernel
theorem dX3_removeLast_4 : decode cX3_removeLast 4 = .ok (.ifCond .le 13, 3) := by decide +kernel
theorem dX3_removeLast_7 : decode cX3_removeLast 7 = .ok (.aload_n 0, 1) := by decide +kernel
theorem dX3_removeLast_8 : decode cX3_removeLast 8 = .ok (.dup, 1) := by decide +kernel
theorem dX3_removeLast_9 : decode cX3_removeLast 9 = .ok (.getfield 18, 3) := by decide +kernel
theorem dX3_removeLast_12 : decode cX3_removeLast 12 = .ok (.iconst 1, 1) := by decide +kernel
theorem dX3_removeLast_13 : decode cX3_removeLast 13 = .ok (.isub, 1) := by decide +kernel
theorem dX3_removeLast_14 : decode cX3_removeLast 14 = .ok (.putfield 18, 3) := by decide +kernel
theorem dX3_removeLast_17 : decode cX3_removeLast 17 = .ok (.return_, 1) := by decide +kernel
theorem dX3_clear_0 : decode cX3_clear 0 = .ok (.aload_n 0, 1) := by decide +kernel
theorem dX3_clear_1 : decode cX3_clear 1 = .ok (.iconst 0, 1) := by decide +kernel
theorem dX3_clear_2 : decode cX3_clear 2 = .ok (.putfield 18, 3) := by decide +kernel
theorem dX3_clear_5 : decode cX3_clear 5 = .ok (.return_, 1) := by decide +kernel
theorem dX3_copyFrom_0 : decode cX3_copyFrom 0 = .ok (.aload_n 1, 1) := by decide +kernel
theorem dX3_copyFrom_1 : decode cX3_copyFrom 1 = .ok (.getfield 9, 3) := by decide +kernel
theorem dX3_copyFrom_4 : decode cX3_copyFrom 4 = .ok (.iconst 0, 1) := by decide +kernel
theorem dX3_copyFrom_5 : decode cX3_copyFrom 5 = .ok (.aload_n 0, 1) := by decide +kernel
theorem dX3_copyFrom_6 : decode cX3_copyFrom 6 = .ok (.getfield 9, 3) := by decide +kernel
theorem dX3_copyFrom_9 : decode cX3_copyFrom 9 = .ok (.iconst 0, 1) := by decide +kernel
theorem dX3_copyFrom_10 : decode cX3_copyFrom 10 = .ok (.bipush 8, 2) := by decide +kernel
theorem dX3_copyFrom_12 : decode cX3_copyFrom 12 = .ok (.invokestatic 33, 3) := by decide +kernel
theorem dX3_copyFrom_15 : decode cX3_copyFrom 15 = .ok (.aload_n 1, 1) := by decide +kernel
theorem dX3_copyFrom_16 : decode cX3_copyFrom 16 = .ok (.getfield 15, 3) := by decide +kernel
theorem dX3_copyFrom_19 : decode cX3_copyFrom 19 = .ok (.iconst 0, 1) := by decide +kernel
theorem dX3_copyFrom_20 : decode cX3_copyFrom 20 = .ok (.aload_n 0, 1) := by decide +kernel
theorem dX3_copyFrom_21 : decode cX3_copyFrom 21 = .ok (.getfield 15, 3) := by decide +kernel
theorem dX3_copyFrom_24 : decode cX3_copyFrom 24 = .ok (.iconst 0, 1) := by decide +kernel
theorem dX3_copyFrom_25 : decode cX3_copyFrom 25 = .ok (.bipush 32, 2) := by decide +kernel
theorem dX3_copyFrom_27 : decode cX3_copyFrom 27 = .ok (.invokestatic 33, 3) := by decide +kernel
theorem dX3_copyFrom_30 : decode cX3_copyFrom 30 = .ok (.aload_n 0, 1) := by decide +kernel
theorem dX3_copyFrom_31 : decode cX3_copyFrom 31 = .ok (.aload_n 1, 1) := by decide +kernel
theorem dX3_copyFrom_32 : decode cX3_copyFrom 32 = .ok (.getfield 18, 3) := by decide +kernel
theorem dX3_copyFrom_35 : decode cX3_copyFrom 35 = .ok (.putfield 18, 3) := by decide +kernel
theorem dX3_copyFrom_38 : decode cX3_copyFrom 38 = .ok (.return_, 1) := by decide +kernel
theorem dX3_isPlace_0 : decode cX3_isPlace 0 = .ok (.iload_n 0, 1) := by decide +kernel
theorem dX3_isPlace_1 : decode cX3_isPlace 1 = .ok (.ifCond .lt 12, 3) := by decide +kernel
theorem dX3_isPlace_4 : decode cX3_isPlace 4 = .ok (.iload_n 0, 1) := by decide +kernel
theorem dX3_isPlace_5 : decode cX3_isPlace 5 = .ok (.iconst 4, 1) := by decide +kernel
theorem dX3_isPlace_6 : decode cX3_isPlace 6 = .ok (.if_icmp .ge 7, 3) := by decide +kernel
theorem dX3_isPlace_9 : decode cX3_isPlace 9 = .ok (.iconst 1, 1) := by decide +kernel
theorem dX3_isPlace_10 : decode cX3_isPlace 10 = .ok (.goto 4, 3) := by decide +kernel
theorem dX3_isPlace_13 : decode cX3_isPlace 13 = .ok (.iconst 0, 1) := by decide +kernel
theorem dX3_isPlace_14 : decode cX3_isPlace 14 = .ok (.ireturn, 1) := by decide +kernel
theorem dX4_init_0 : decode cX4_init 0 = .ok (.aload_n 0, 1) := by decide +kernel
theorem dX4_init_1 : decode cX4_init 1 = .ok (.invokespecial 1, 3) := by decide +kernel
theorem dX4_init_4 : decode cX4_init 4 = .ok (.aload_n 0, 1) := by decide +kernel
theorem dX4_init_5 : decode cX4_init 5 = .ok (.iload_n 1, 1) := by decide +kernel
theorem dX4_init_6 : decode cX4_init 6 = .ok (.iconst 0, 1) := by decide +kernel
theorem dX4_init_7 : decode cX4_init 7 = .ok (.invokestatic 7, 3) := by decide +kernel
theorem dX4_init_10 : decode cX4_init 10 = .ok (.newarray .int, 2) := by decide +kernel
theorem dX4_init_12 : decode cX4_init 12 = .ok (.putfield 13, 3) := by decide +kernel
theorem dX4_init_15 : decode cX4_init 15 = .ok (.return_, 1) := by decide +kernel
theorem dX4_size_0 : decode cX4_size 0 = .ok (.aload_n 0, 1) := by decide +kernel
theorem dX4_size_1 : decode cX4_size 1 = .ok (.getfield 19, 3) := by decide +kernel
theorem dX4_size_4 : decode cX4_size 4 = .ok (.ireturn, 1) := by decide +kernel
theorem dX4_at_0 : decode cX4_at 0 = .ok (.iload_n 1, 1) := by decide +kernel
theorem dX4_at_1 : decode cX4_at 1 = .ok (.ifCond .lt 29, 3) := by decide +kernel
theorem dX4_at_4 : decode cX4_at 4 = .ok (.iload_n 1, 1) := by decide +kernel
theorem dX4_at_5 : decode cX4_at 5 = .ok (.aload_n 0, 1) := by decide +kernel
theorem dX4_at_6 : decode cX4_at 6 = .ok (.getfield 19, 3) := by decide +kernel
theorem dX4_at_9 : decode cX4_at 9 = .ok (.if_icmp .ge 21, 3) := by decide +kernel
theorem dX4_at_12 : decode cX4_at 12 = .ok (.iload_n 1, 1) := by decide +kernel
theorem dX4_at_13 : decode cX4_at 13 = .ok (.aload_n 0, 1) := by decide +kernel
theorem dX4_at_14 : decode cX4_at 14 = .ok (.getfield 13, 3) := by decide +kernel
theorem dX4_at_17 : decode cX4_at 17 = .ok (.arraylength, 1) := by decide +kernel
theorem dX4_at_18 : decode cX4_at 18 = .ok (.if_icmp .ge 12, 3) := by decide +kernel
theorem dX4_at_21 : decode cX4_at 21 = .ok (.aload_n 0, 1) := by decide +kernel
theorem dX4_at_22 : decode cX4_at 22 = .ok (.getfield 13, 3) := by decide +kernel
theorem dX4_at_25 : decode cX4_at 25 = .ok (.iload_n 1, 1) := by decide +kernel
theorem dX4_at_26 : decode cX4_at 26 = .ok (.iaload, 1) := by decide +kernel
theorem dX4_at_27 : decode cX4_at 27 = .ok (.goto 4, 3) := by decide +kernel
theorem dX4_at_30 : decode cX4_at 30 = .ok (.iconst 0, 1) := by decide +kernel
theorem dX4_at_31 : decode cX4_at 31 = .ok (.ireturn, 1) := by decide +kernel
theorem dX4_append_0 : decode cX4_append 0 = .ok (.aload_n 0, 1) := by decide +kernel
theorem dX4_append_1 : decode cX4_append 1 = .ok (.getfield 19, 3) := by decide +kernel
theorem dX4_append_4 : decode cX4_append 4 = .ok (.ifCond .lt 15, 3) := by decide +kernel
theorem dX4_append_7 : decode cX4_append 7 = .ok (.aload_n 0, 1) := by decide +kernel
theorem dX4_append_8 : decode cX4_append 8 = .ok (.getfield 19, 3) := by decide +kernel
theorem dX4_append_11 : decode cX4_append 11 = .ok (.aload_n 0, 1) := by decide +kernel
theorem dX4_append_12 : decode cX4_append 12 = .ok (.getfield 13, 3) := by decide +kernel
theorem dX4_append_15 : decode cX4_append 15 = .ok (.arraylength, 1) := by decide +kernel
theorem dX4_append_16 : decode cX4_append 16 = .ok (.if_icmp .lt 5, 3) := by decide +kernel
theorem dX4_append_19 : decode cX4_append 19 = .ok (.iconst 0, 1) := by decide +kernel
theorem dX4_append_20 : decode cX4_append 20 = .ok (.ireturn, 1) := by decide +kernel
theorem dX4_append_21 : decode cX4_append 21 = .ok (.aload_n 0, 1) := by decide +kernel
theorem dX4_append_22 : decode cX4_append 22 = .ok (.getfield 13, 3) := by decide +kernel
theorem dX4_append_25 : decode cX4_append 25 = .ok (.aload_n 0, 1) := by decide +kernel
theorem dX4_append_26 : decode cX4_append 26 = .ok (.getfield 19, 3) := by decide +kernel
theorem dX4_append_29 : decode cX4_append 29 = .ok (.iload_n 1, 1) := by decide +kernel
theorem dX4_append_30 : decode cX4_append 30 = .ok (.iastore, 1) := by decide +kernel
theorem dX4_append_31 : decode cX4_append 31 = .ok (.aload_n 0, 1) := by decide +kernel
theorem dX4_append_32 : decode cX4_append 32 = .ok (.dup, 1) := by decide +kernel
theorem dX4_append_33 : decode cX4_append 33 = .ok (.getfield 19, 3) := by decide +kernel
theorem dX4_append_36 : decode cX4_append 36 = .ok (.iconst 1, 1) := by decide +kernel
theorem dX4_append_37 : decode cX4_append 37 = .ok (.iadd, 1) := by decide +kernel
theorem dX4_append_38 : decode cX4_append 38 = .ok (.putfield 19, 3) := by decide +kernel
theorem dX4_append_41 : decode cX4_append 41 = .ok (.iconst 1, 1) := by decide +kernel
theorem dX4_append_42 : decode cX4_append 42 = .ok (.ireturn, 1) := by decide +kernel
theorem dX4_clear_0 : decode cX4_clear 0 = .ok (.aload_n 0, 1) := by decide +kernel
theorem dX4_clear_1 : decode cX4_clear 1 = .ok (.iconst 0, 1) := by decide +kernel
theorem dX4_clear_2 : decode cX4_clear 2 = .ok (.putfield 19, 3) := by decide +kernel
theorem dX4_clear_5 : decode cX4_clear 5 = .ok (.return_, 1) := by decide +kernel
theorem dX4_copyFrom_0 : decode cX4_copyFrom 0 = .ok (.aload_n 0, 1) := by decide +kernel
theorem dX4_copyFrom_1 : decode cX4_copyFrom 1 = .ok (.invokevirtual 23, 3) := by decide +kernel
theorem dX4_copyFrom_4 : decode cX4_copyFrom 4 = .ok (.iconst 0, 1) := by decide +kernel
theorem dX4_copyFrom_5 : decode cX4_copyFrom 5 = .ok (.istore_n 2, 1) := by decide +kernel
theorem dX4_copyFrom_6 : decode cX4_copyFrom 6 = .ok (.iload_n 2, 1) := by decide +kernel
theorem dX4_copyFrom_7 : decode cX4_copyFrom 7 = .ok (.aload_n 1, 1) := by decide +kernel
theorem dX4_copyFrom_8 : decode cX4_copyFrom 8 = .ok (.invokevirtual 26, 3) := by decide +kernel
theorem dX4_copyFrom_11 : decode cX4_copyFrom 11 = .ok (.if_icmp .ge 19, 3) := by decide +kernel
theorem dX4_copyFrom_14 : decode cX4_copyFrom 14 = .ok (.aload_n 0, 1) := by decide +kernel
theorem dX4_copyFrom_15 : decode cX4_copyFrom 15 = .ok (.aload_n 1, 1) := by decide +kernel
theorem dX4_copyFrom_16 : decode cX4_copyFrom 16 = .ok (.iload_n 2, 1) := by decide +kernel
theorem dX4_copyFrom_17 : decode cX4_copyFrom 17 = .ok (.invokevirtual 29, 3) := by decide +kernel
theorem dX4_copyFrom_20 : decode cX4_copyFrom 20 = .ok (.invokevirtual 33, 3) := by decide +kernel
theorem dX4_copyFrom_23 : decode cX4_copyFrom 23 = .ok (.pop, 1) := by decide +kernel
theorem dX4_copyFrom_24 : decode cX4_copyFrom 24 = .ok (.iinc 2 1, 3) := by decide +kernel
theorem dX4_copyFrom_27 : decode cX4_copyFrom 27 = .ok (.goto (-21), 3) := by decide +kernel
theorem dX4_copyFrom_30 : decode cX4_copyFrom 30 = .ok (.return_, 1) := by decide +kernel
theorem dX5_init_0 : decode cX5_init 0 = .ok (.aload_n 0, 1) := by decide +kernel
theorem dX5_init_1 : decode cX5_init 1 = .ok (.invokespecial 3, 3) := by decide +kernel
theorem dX5_init_4 : decode cX5_init 4 = .ok (.aload_n 0, 1) := by decide +kernel
theorem dX5_init_5 : decode cX5_init 5 = .ok (.new 9, 3) := by decide +kernel
theorem dX5_init_8 : decode cX5_init 8 = .ok (.dup, 1) := by decide +kernel
theorem dX5_init_9 : decode cX5_init 9 = .ok (.invokespecial 11, 3) := by decide +kernel
theorem dX5_init_12 : decode cX5_init 12 = .ok (.putfield 12, 3) := by decide +kernel
theorem dX5_init_15 : decode cX5_init 15 = .ok (.return_, 1) := by decide +kernel
theorem dX5_draft_0 : decode cX5_draft 0 = .ok (.aload_n 0, 1) := by decide +kernel
theorem dX5_draft_1 : decode cX5_draft 1 = .ok (.getfield 12, 3) := by decide +kernel
theorem dX5_draft_4 : decode cX5_draft 4 = .ok (.areturn, 1) := by decide +kernel
theorem dX5_isWhole_0 : decode cX5_isWhole 0 = .ok (.aload_n 0, 1) := by decide +kernel
theorem dX5_isWhole_1 : decode cX5_isWhole 1 = .ok (.aload_n 1, 1) := by decide +kernel
theorem dX5_isWhole_2 : decode cX5_isWhole 2 = .ok (.invokevirtual 18, 3) := by decide +kernel
theorem dX5_isWhole_5 : decode cX5_isWhole 5 = .ok (.aload_n 1, 1) := by decide +kernel
theorem dX5_isWhole_6 : decode cX5_isWhole 6 = .ok (.invokevirtual 22, 3) := by decide +kernel
theorem dX5_isWhole_9 : decode cX5_isWhole 9 = .ok (.if_icmp .ne 14, 3) := by decide +kernel
theorem dX5_isWhole_12 : decode cX5_isWhole 12 = .ok (.aload_n 0, 1) := by decide +kernel
theorem dX5_isWhole_13 : decode cX5_isWhole 13 = .ok (.invokevirtual 28, 3) := by decide +kernel
theorem dX5_isWhole_16 : decode cX5_isWhole 16 = .ok (.ifCond .eq 7, 3) := by decide +kernel
theorem dX5_isWhole_19 : decode cX5_isWhole 19 = .ok (.iconst 1, 1) := by decide +kernel
theorem dX5_isWhole_20 : decode cX5_isWhole 20 = .ok (.goto 4, 3) := by decide +kernel
theorem dX5_isWhole_23 : decode cX5_isWhole 23 = .ok (.iconst 0, 1) := by decide +kernel
theorem dX5_isWhole_24 : decode cX5_isWhole 24 = .ok (.ireturn, 1) := by decide +kernel
theorem dX5_faultOf_0 : decode cX5_faultOf 0 = .ok (.aload_n 0, 1) := by decide +kernel
theorem dX5_faultOf_1 : decode cX5_faultOf 1 = .ok (.getfield 12, 3) := by decide +kernel
theorem dX5_faultOf_4 : decode cX5_faultOf 4 = .ok (.invokevirtual 32, 3) := by decide +kernel
theorem dX5_faultOf_7 : decode cX5_faultOf 7 = .ok (.aload_n 0, 1) := by decide +kernel
theorem dX5_faultOf_8 : decode cX5_faultOf 8 = .ok (.iconst 0, 1) := by decide +kernel
theorem dX5_faultOf_9 : decode cX5_faultOf 9 = .ok (.putfield 35, 3) := by decide +kernel
theorem dX5_faultOf_12 : decode cX5_faultOf 12 = .ok (.iconst 0, 1) := by decide +kernel
theorem dX5_faultOf_13 : decode cX5_faultOf 13 = .ok (.istore_n 2, 1) := by decide +kernel
theorem dX5_faultOf_14 : decode cX5_faultOf 14 = .ok (.iload_n 2, 1) := by decide +kernel
theorem dX5_faultOf_15 : decode cX5_faultOf 15 = .ok (.aload_n 1, 1) := by decide +kernel
theorem dX5_faultOf_16 : decode cX5_faultOf 16 = .ok (.invokevirtual 22, 3) := by decide +kernel
theorem dX5_faultOf_19 : decode cX5_faultOf 19 = .ok (.if_icmp .ge 23, 3) := by decide +kernel
theorem dX5_faultOf_22 : decode cX5_faultOf 22 = .ok (.aload_n 0, 1) := by decide +kernel
theorem dX5_faultOf_23 : decode cX5_faultOf 23 = .ok (.aload_n 1, 1) := by decide +kernel
theorem dX5_faultOf_24 : decode cX5_faultOf 24 = .ok (.iload_n 2, 1) := by decide +kernel
theorem dX5_faultOf_25 : decode cX5_faultOf 25 = .ok (.invokevirtual 39, 3) := by decide +kernel
theorem dX5_faultOf_28 : decode cX5_faultOf 28 = .ok (.invokevirtual 43, 3) := by decide +kernel
theorem dX5_faultOf_31 : decode cX5_faultOf 31 = .ok (.ifCond .ne 5, 3) := by decide +kernel
theorem dX5_faultOf_34 : decode cX5_faultOf 34 = .ok (.iload_n 2, 1) := by decide +kernel
theorem dX5_faultOf_35 : decode cX5_faultOf 35 = .ok (.ireturn, 1) := by decide +kernel
theorem dX5_faultOf_36 : decode cX5_faultOf 36 = .ok (.iinc 2 1, 3) := by decide +kernel
theorem dX5_faultOf_39 : decode cX5_faultOf 39 = .ok (.goto (-25), 3) := by decide +kernel
theorem dX5_faultOf_42 : decode cX5_faultOf 42 = .ok (.aload_n 1, 1) := by decide +kernel
theorem dX5_faultOf_43 : decode cX5_faultOf 43 = .ok (.invokevirtual 22, 3) := by decide +kernel
theorem dX5_faultOf_46 : decode cX5_faultOf 46 = .ok (.ireturn, 1) := by decide +kernel
theorem dX5_takes_0 : decode cX5_takes 0 = .ok (.aload_n 0, 1) := by decide +kernel
theorem dX5_takes_1 : decode cX5_takes 1 = .ok (.getfield 35, 3) := by decide +kernel
theorem dX5_takes_4 : decode cX5_takes 4 = .ok (.ifCond .ne 9, 3) := by decide +kernel
theorem dX5_takes_7 : decode cX5_takes 7 = .ok (.aload_n 0, 1) := by decide +kernel
theorem dX5_takes_8 : decode cX5_takes 8 = .ok (.iload_n 1, 1) := by decide +kernel
theorem dX5_takes_9 : decode cX5_takes 9 = .ok (.invokevirtual 47, 3) := by decide +kernel
theorem dX5_takes_12 : decode cX5_takes 12 = .ok (.ireturn, 1) := by decide +kernel
theorem dX5_takes_13 : decode cX5_takes 13 = .ok (.aload_n 0, 1) := by decide +kernel
theorem dX5_takes_14 : decode cX5_takes 14 = .ok (.invokevirtual 28, 3) := by decide +kernel
theorem dX5_takes_17 : decode cX5_takes 17 = .ok (.ifCond .eq 11, 3) := by decide +kernel
theorem dX5_takes_20 : decode cX5_takes 20 = .ok (.aload_n 0, 1) := by decide +kernel
theorem dX5_takes_21 : decode cX5_takes 21 = .ok (.iload_n 1, 1) := by decide +kernel
theorem dX5_takes_22 : decode cX5_takes 22 = .ok (.invokevirtual 50, 3) := by decide +kernel
theorem dX5_takes_25 : decode cX5_takes 25 = .ok (.goto 8, 3) := by decide +kernel
theorem dX5_takes_28 : decode cX5_takes 28 = .ok (.aload_n 0, 1) := by decide +kernel
theorem dX5_takes_29 : decode cX5_takes 29 = .ok (.iload_n 1, 1) := by decide +kernel
theorem dX5_takes_30 : decode cX5_takes 30 = .ok (.invokevirtual 53, 3) := by decide +kernel
theorem dX5_takes_33 : decode cX5_takes 33 = .ok (.ireturn, 1) := by decide +kernel
theorem dX5_isRowWhole_0 : decode cX5_isRowWhole 0 = .ok (.aload_n 0, 1) := by decide +kernel
theorem dX5_isRowWhole_1 : decode cX5_isRowWhole 1 = .ok (.getfield 35, 3) := by decide +kernel
theorem dX5_isRowWhole_4 : decode cX5_isRowWhole 4 = .ok (.iconst 1, 1) := by decide +kernel
theorem dX5_isRowWhole_5 : decode cX5_isRowWhole 5 = .ok (.aload_n 0, 1) := by decide +kernel
theorem dX5_isRowWhole_6 : decode cX5_isRowWhole 6 = .ok (.getfield 56, 3) := by decide +kernel
theorem dX5_isRowWhole_9 : decode cX5_isRowWhole 9 = .ok (.invokestatic 59, 3) := by decide +kernel
theorem dX5_isRowWhole_12 : decode cX5_isRowWhole 12 = .ok (.iadd, 1) := by decide +kernel
theorem dX5_isRowWhole_13 : decode cX5_isRowWhole 13 = .ok (.if_icmp .ne 7, 3) := by decide +kernel
theorem dX5_isRowWhole_16 : decode cX5_isRowWhole 16 = .ok (.iconst 1, 1) := by decide +kernel
theorem dX5_isRowWhole_17 : decode cX5_isRowWhole 17 = .ok (.goto 4, 3) := by decide +kernel
theorem dX5_isRowWhole_20 : decode cX5_isRowWhole 20 = .ok (.iconst 0, 1) := by decide +kernel
theorem dX5_isRowWhole_21 : decode cX5_isRowWhole 21 = .ok (.ireturn, 1) := by decide +kernel
theorem dX5_takesMark_0 : decode cX5_takesMark 0 = .ok (.aload_n 0, 1) := by decide +kernel
theorem dX5_takesMark_1 : decode cX5_takesMark 1 = .ok (.iload_n 1, 1) := by decide +kernel
theorem dX5_takesMark_2 : decode cX5_takesMark 2 = .ok (.invokestatic 62, 3) := by decide +kernel
theorem dX5_takesMark_5 : decode cX5_takesMark 5 = .ok (.putfield 56, 3) := by decide +kernel
theorem dX5_takesMark_8 : decode cX5_takesMark 8 = .ok (.aload_n 0, 1) := by decide +kernel
theorem dX5_takesMark_9 : decode cX5_takesMark 9 = .ok (.getfield 56, 3) := by decide +kernel
theorem dX5_takesMark_12 : decode cX5_takesMark 12 = .ok (.iconst (-1), 1) := by decide +kernel
theorem dX5_takesMark_13 : decode cX5_takesMark 13 = .ok (.if_icmp .eq 20, 3) := by decide +kernel
theorem dX5_takesMark_16 : decode cX5_takesMark 16 = .ok (.aload_n 0, 1) := by decide +kernel
theorem dX5_takesMark_17 : decode cX5_takesMark 17 = .ok (.getfield 56, 3) := by decide +kernel
theorem dX5_takesMark_20 : decode cX5_takesMark 20 = .ok (.ifCond .eq 15, 3) := by decide +kernel
theorem dX5_takesMark_23 : decode cX5_takesMark 23 = .ok (.aload_n 0, 1) := by decide +kernel
theorem dX5_takesMark_24 : decode cX5_takesMark 24 = .ok (.getfield 12, 3) := by decide +kernel
theorem dX5_takesMark_27 : decode cX5_takesMark 27 = .ok (.invokevirtual 65, 3) := by decide +kernel
theorem dX5_takesMark_30 : decode cX5_takesMark 30 = .ok (.ifCond .ne 5, 3) := by decide +kernel
theorem dX5_takesMark_33 : decode cX5_takesMark 33 = .ok (.iconst 0, 1) := by decide +kernel
theorem dX5_takesMark_34 : decode cX5_takesMark 34 = .ok (.ireturn, 1) := by decide +kernel
theorem dX5_takesMark_35 : decode cX5_takesMark 35 = .ok (.aload_n 0, 1) := by decide +kernel
theorem dX5_takesMark_36 : decode cX5_takesMark 36 = .ok (.iconst 1, 1) := by decide +kernel
theorem dX5_takesMark_37 : decode cX5_takesMark 37 = .ok (.putfield 35, 3) := by decide +kernel
theorem dX5_takesMark_40 : decode cX5_takesMark 40 = .ok (.aload_n 0, 1) := by decide +kernel
theorem dX5_takesMark_41 : decode cX5_takesMark 41 = .ok (.getfield 12, 3) := by decide +kernel
theorem dX5_takesMark_44 : decode cX5_takesMark 44 = .ok (.aload_n 0, 1) := by decide +kernel
theorem dX5_takesMark_45 : decode cX5_takesMark 45 = .ok (.getfield 56, 3) := by decide +kernel
theorem dX5_takesMark_48 : decode cX5_takesMark 48 = .ok (.iconst 0, 1) := by decide +kernel
theorem dX5_takesMark_49 : decode cX5_takesMark 49 = .ok (.iconst 0, 1) := by decide +kernel
theorem dX5_takesMark_50 : decode cX5_takesMark 50 = .ok (.iconst 0, 1) := by decide +kernel
theorem dX5_takesMark_51 : decode cX5_takesMark 51 = .ok (.iconst 0, 1) := by decide +kernel
theorem dX5_takesMark_52 : decode cX5_takesMark 52 = .ok (.invokevirtual 66, 3) := by decide +kernel
theorem dX5_takesMark_55 : decode cX5_takesMark 55 = .ok (.ireturn, 1) := by decide +kernel
theorem dX5_takesDivider_0 : decode cX5_takesDivider 0 = .ok (.aload_n 0, 1) := by decide +kernel
theorem dX5_takesDivider_1 : decode cX5_takesDivider 1 = .ok (.iconst 0, 1) := by decide +kernel
theorem dX5_takesDivider_2 : decode cX5_takesDivider 2 = .ok (.putfield 35, 3) := by decide +kernel
theorem dX5_takesDivider_5 : decode cX5_takesDivider 5 = .ok (.iload_n 1, 1) := by decide +kernel
theorem dX5_takesDivider_6 : decode cX5_takesDivider 6 = .ok (.bipush 59, 2) := by decide +kernel
theorem dX5_takesDivider_8 : decode cX5_takesDivider 8 = .ok (.if_icmp .ne 19, 3) := by decide +kernel
theorem dX5_takesDivider_11 : decode cX5_takesDivider 11 = .ok (.aload_n 0, 1) := by decide +kernel
theorem dX5_takesDivider_12 : decode cX5_takesDivider 12 = .ok (.getfield 12, 3) := by decide +kernel
theorem dX5_takesDivider_15 : decode cX5_takesDivider 15 = .ok (.invokevirtual 65, 3) := by decide +kernel
theorem dX5_takesDivider_18 : decode cX5_takesDivider 18 = .ok (.bipush 8, 2) := by decide +kernel
theorem dX5_takesDivider_20 : decode cX5_takesDivider 20 = .ok (.if_icmp .ge 7, 3) := by decide +kernel
theorem dX5_takesDivider_23 : decode cX5_takesDivider 23 = .ok (.iconst 1, 1) := by decide +kernel
theorem dX5_takesDivider_24 : decode cX5_takesDivider 24 = .ok (.goto 4, 3) := by decide +kernel
theorem dX5_takesDivider_27 : decode cX5_takesDivider 27 = .ok (.iconst 0, 1) := by decide +kernel
theorem dX5_takesDivider_28 : decode cX5_takesDivider 28 = .ok (.ireturn, 1) := by decide +kernel
theorem dX5_takesNumber_0 : decode cX5_takesNumber 0 = .ok (.iload_n 1, 1) := by decide +kernel
theorem dX5_takesNumber_1 : decode cX5_takesNumber 1 = .ok (.invokestatic 70, 3) := by decide +kernel
theorem dX5_takesNumber_4 : decode cX5_takesNumber 4 = .ok (.istore_n 2, 1) := by decide +kernel
theorem dX5_takesNumber_5 : decode cX5_takesNumber 5 = .ok (.iload_n 2, 1) := by decide +kernel
theorem dX5_takesNumber_6 : decode cX5_takesNumber 6 = .ok (.aload_n 0, 1) := by decide +kernel
theorem dX5_takesNumber_7 : decode cX5_takesNumber 7 = .ok (.invokevirtual 73, 3) := by decide +kernel
theorem dX5_takesNumber_10 : decode cX5_takesNumber 10 = .ok (.aload_n 0, 1) := by decide +kernel
theorem dX5_takesNumber_11 : decode cX5_takesNumber 11 = .ok (.invokevirtual 76, 3) := by decide +kernel
theorem dX5_takesNumber_14 : decode cX5_takesNumber 14 = .ok (.invokestatic 79, 3) := by decide +kernel
theorem dX5_takesNumber_17 : decode cX5_takesNumber 17 = .ok (.ifCond .ne 5, 3) := by decide +kernel
theorem dX5_takesNumber_20 : decode cX5_takesNumber 20 = .ok (.iconst 0, 1) := by decide +kernel
theorem dX5_takesNumber_21 : decode cX5_takesNumber 21 = .ok (.ireturn, 1) := by decide +kernel
theorem dX5_takesNumber_22 : decode cX5_takesNumber 22 = .ok (.aload_n 0, 1) := by decide +kernel
theorem dX5_takesNumber_23 : decode cX5_takesNumber 23 = .ok (.getfield 12, 3) := by decide +kernel
theorem dX5_takesNumber_26 : decode cX5_takesNumber 26 = .ok (.aload_n 0, 1) := by decide +kernel
theorem dX5_takesNumber_27 : decode cX5_takesNumber 27 = .ok (.getfield 12, 3) := by decide +kernel
theorem dX5_takesNumber_30 : decode cX5_takesNumber 30 = .ok (.invokevirtual 65, 3) := by decide +kernel
theorem dX5_takesNumber_33 : decode cX5_takesNumber 33 = .ok (.iconst 1, 1) := by decide +kernel
theorem dX5_takesNumber_34 : decode cX5_takesNumber 34 = .ok (.isub, 1) := by decide +kernel
theorem dX5_takesNumber_35 : decode cX5_takesNumber 35 = .ok (.aload_n 0, 1) := by decide +kernel
theorem dX5_takesNumber_36 : decode cX5_takesNumber 36 = .ok (.getfield 35, 3) := by decide +kernel
theorem dX5_takesNumber_39 : decode cX5_takesNumber 39 = .ok (.iconst 1, 1) := by decide +kernel
theorem dX5_takesNumber_40 : decode cX5_takesNumber 40 = .ok (.isub, 1) := by decide +kernel
theorem dX5_takesNumber_41 : decode cX5_takesNumber 41 = .ok (.iload_n 2, 1) := by decide +kernel
theorem dX5_takesNumber_42 : decode cX5_takesNumber 42 = .ok (.invokevirtual 83, 3) := by decide +kernel
theorem dX5_takesNumber_45 : decode cX5_takesNumber 45 = .ok (.aload_n 0, 1) := by decide +kernel
theorem dX5_takesNumber_46 : decode cX5_takesNumber 46 = .ok (.dup, 1) := by decide +kernel
theorem dX5_takesNumber_47 : decode cX5_takesNumber 47 = .ok (.getfield 35, 3) := by decide +kernel
theorem dX5_takesNumber_50 : decode cX5_takesNumber 50 = .ok (.iconst 1, 1) := by decide +kernel
theorem dX5_takesNumber_51 : decode cX5_takesNumber 51 = .ok (.iadd, 1) := by decide +kernel
theorem dX5_takesNumber_52 : decode cX5_takesNumber 52 = .ok (.putfield 35, 3) := by decide +kernel
theorem dX5_takesNumber_55 : decode cX5_takesNumber 55 = .ok (.iconst 1, 1) := by decide +kernel
theorem dX5_takesNumber_56 : decode cX5_takesNumber 56 = .ok (.ireturn, 1) := by decide +kernel
theorem dX5_leastNumber_0 : decode cX5_leastNumber 0 = .ok (.aload_n 0, 1) := by decide +kernel
theorem dX5_leastNumber_1 : decode cX5_leastNumber 1 = .ok (.getfield 56, 3) := by decide +kernel
theorem dX5_leastNumber_4 : decode cX5_leastNumber 4 = .ok (.ifCond .ne 6, 3) := by decide +kernel
theorem dX5_leastNumber_7 : decode cX5_leastNumber 7 = .ok (.bipush (-9), 2) := by decide +kernel
theorem dX5_leastNumber_9 : decode cX5_leastNumber 9 = .ok (.ireturn, 1) := by decide +kernel
theorem dX5_leastNumber_10 : decode cX5_leastNumber 10 = .ok (.aload_n 0, 1) := by decide +kernel
theorem dX5_leastNumber_11 : decode cX5_leastNumber 11 = .ok (.getfield 56, 3) := by decide +kernel
theorem dX5_leastNumber_14 : decode cX5_leastNumber 14 = .ok (.iconst 3, 1) := by decide +kernel
theorem dX5_leastNumber_15 : decode cX5_leastNumber 15 = .ok (.if_icmp .ne 17, 3) := by decide +kernel
theorem dX5_leastNumber_18 : decode cX5_leastNumber 18 = .ok (.aload_n 0, 1) := by decide +kernel
theorem dX5_leastNumber_19 : decode cX5_leastNumber 19 = .ok (.getfield 35, 3) := by decide +kernel
theorem dX5_leastNumber_22 : decode cX5_leastNumber 22 = .ok (.iconst 1, 1) := by decide +kernel
theorem dX5_leastNumber_23 : decode cX5_leastNumber 23 = .ok (.isub, 1) := by decide +kernel
theorem dX5_leastNumber_24 : decode cX5_leastNumber 24 = .ok (.iconst 1, 1) := by decide +kernel
theorem dX5_leastNumber_25 : decode cX5_leastNumber 25 = .ok (.if_icmp .ne 7, 3) := by decide +kernel
theorem dX5_leastNumber_28 : decode cX5_leastNumber 28 = .ok (.iconst 1, 1) := by decide +kernel
theorem dX5_leastNumber_29 : decode cX5_leastNumber 29 = .ok (.goto 4, 3) := by decide +kernel
theorem dX5_leastNumber_32 : decode cX5_leastNumber 32 = .ok (.iconst 0, 1) := by decide +kernel
theorem dX5_leastNumber_33 : decode cX5_leastNumber 33 = .ok (.ireturn, 1) := by decide +kernel
theorem dX5_mostNumber_0 : decode cX5_mostNumber 0 = .ok (.aload_n 0, 1) := by decide +kernel
theorem dX5_mostNumber_1 : decode cX5_mostNumber 1 = .ok (.getfield 56, 3) := by decide +kernel
theorem dX5_mostNumber_4 : decode cX5_mostNumber 4 = .ok (.ifCond .eq 21, 3) := by decide +kernel
theorem dX5_mostNumber_7 : decode cX5_mostNumber 7 = .ok (.aload_n 0, 1) := by decide +kernel
theorem dX5_mostNumber_8 : decode cX5_mostNumber 8 = .ok (.getfield 56, 3) := by decide +kernel
theorem dX5_mostNumber_11 : decode cX5_mostNumber 11 = .ok (.iconst 3, 1) := by decide +kernel
theorem dX5_mostNumber_12 : decode cX5_mostNumber 12 = .ok (.if_icmp .ne 16, 3) := by decide +kernel
theorem dX5_mostNumber_15 : decode cX5_mostNumber 15 = .ok (.aload_n 0, 1) := by decide +kernel
theorem dX5_mostNumber_16 : decode cX5_mostNumber 16 = .ok (.getfield 35, 3) := by decide +kernel
theorem dX5_mostNumber_19 : decode cX5_mostNumber 19 = .ok (.iconst 1, 1) := by decide +kernel
theorem dX5_mostNumber_20 : decode cX5_mostNumber 20 = .ok (.isub, 1) := by decide +kernel
theorem dX5_mostNumber_21 : decode cX5_mostNumber 21 = .ok (.iconst 2, 1) := by decide +kernel
theorem dX5_mostNumber_22 : decode cX5_mostNumber 22 = .ok (.if_icmp .ne 6, 3) := by decide +kernel
theorem dX5_mostNumber_25 : decode cX5_mostNumber 25 = .ok (.bipush 9, 2) := by decide +kernel
theorem dX5_mostNumber_27 : decode cX5_mostNumber 27 = .ok (.ireturn, 1) := by decide +kernel
theorem dX5_mostNumber_28 : decode cX5_mostNumber 28 = .ok (.aload_n 0, 1) := by decide +kernel
theorem dX5_mostNumber_29 : decode cX5_mostNumber 29 = .ok (.getfield 56, 3) := by decide +kernel
theorem dX5_mostNumber_32 : decode cX5_mostNumber 32 = .ok (.iconst 3, 1) := by decide +kernel
theorem dX5_mostNumber_33 : decode cX5_mostNumber 33 = .ok (.if_icmp .ne 17, 3) := by decide +kernel
theorem dX5_mostNumber_36 : decode cX5_mostNumber 36 = .ok (.aload_n 0, 1) := by decide +kernel
theorem dX5_mostNumber_37 : decode cX5_mostNumber 37 = .ok (.getfield 35, 3) := by decide +kernel
theorem dX5_mostNumber_40 : decode cX5_mostNumber 40 = .ok (.iconst 1, 1) := by decide +kernel
theorem dX5_mostNumber_41 : decode cX5_mostNumber 41 = .ok (.isub, 1) := by decide +kernel
theorem dX5_mostNumber_42 : decode cX5_mostNumber 42 = .ok (.iconst 1, 1) := by decide +kernel
theorem dX5_mostNumber_43 : decode cX5_mostNumber 43 = .ok (.if_icmp .ne 7, 3) := by decide +kernel
theorem dX5_mostNumber_46 : decode cX5_mostNumber 46 = .ok (.iconst 5, 1) := by decide +kernel
theorem dX5_mostNumber_47 : decode cX5_mostNumber 47 = .ok (.goto 12, 3) := by decide +kernel
theorem dX5_mostNumber_50 : decode cX5_mostNumber 50 = .ok (.aload_n 0, 1) := by decide +kernel
theorem dX5_mostNumber_51 : decode cX5_mostNumber 51 = .ok (.getfield 12, 3) := by decide +kernel
theorem dX5_mostNumber_54 : decode cX5_mostNumber 54 = .ok (.invokevirtual 65, 3) := by decide +kernel
theorem dX5_mostNumber_57 : decode cX5_mostNumber 57 = .ok (.iconst 2, 1) := by decide +kernel
theorem dX5_mostNumber_58 : decode cX5_mostNumber 58 = .ok (.isub, 1) := by decide +kernel
theorem dX5_mostNumber_59 : decode cX5_mostNumber 59 = .ok (.ireturn, 1) := by decide +kernel
theorem dX5_kindMarkedBy_0 : decode cX5_kindMarkedBy 0 = .ok (.iload_n 0, 1) := by decide +kernel
theorem dX5_kindMarkedBy_1 : decode cX5_kindMarkedBy 1 = .ok (.lookupswitch 61 #[(42, 55), (43, 53), (100, 59), (101, 57), (116, 51)], 51) := by decide +kernel
theorem dX5_kindMarkedBy_52 : decode cX5_kindMarkedBy 52 = .ok (.iconst 0, 1) := by decide +kernel
theorem dX5_kindMarkedBy_53 : decode cX5_kindMarkedBy 53 = .ok (.ireturn, 1) := by decide +kernel
theorem dX5_kindMarkedBy_54 : decode cX5_kindMarkedBy 54 = .ok (.iconst 1, 1) := by decide +kernel
theorem dX5_kindMarkedBy_55 : decode cX5_kindMarkedBy 55 = .ok (.ireturn, 1) := by decide +kernel
theorem dX5_kindMarkedBy_56 : decode cX5_kindMarkedBy 56 = .ok (.iconst 2, 1) := by decide +kernel
theorem dX5_kindMarkedBy_57 : decode cX5_kindMarkedBy 57 = .ok (.ireturn, 1) := by decide +kernel
theorem dX5_kindMarkedBy_58 : decode cX5_kindMarkedBy 58 = .ok (.iconst 3, 1) := by decide +kernel
theorem dX5_kindMarkedBy_59 : decode cX5_kindMarkedBy 59 = .ok (.ireturn, 1) := by decide +kernel
theorem dX5_kindMarkedBy_60 : decode cX5_kindMarkedBy 60 = .ok (.iconst 4, 1) := by decide +kernel
theorem dX5_kindMarkedBy_61 : decode cX5_kindMarkedBy 61 = .ok (.ireturn, 1) := by decide +kernel
theorem dX5_kindMarkedBy_62 : decode cX5_kindMarkedBy 62 = .ok (.iconst (-1), 1) := by decide +kernel
theorem dX5_kindMarkedBy_63 : decode cX5_kindMarkedBy 63 = .ok (.ireturn, 1) := by decide +kernel
theorem dX5_valueOf_0 : decode cX5_valueOf 0 = .ok (.iload_n 0, 1) := by decide +kernel
theorem dX5_valueOf_1 : decode cX5_valueOf 1 = .ok (.bipush 48, 2) := by decide +kernel
theorem dX5_valueOf_3 : decode cX5_valueOf 3 = .ok (.if_icmp .lt 14, 3) := by decide +kernel
theorem dX5_valueOf_6 : decode cX5_valueOf 6 = .ok (.iload_n 0, 1) := by decide +kernel
theorem dX5_valueOf_7 : decode cX5_valueOf 7 = .ok (.bipush 57, 2) := by decide +kernel
theorem dX5_valueOf_9 : decode cX5_valueOf 9 = .ok (.if_icmp .gt 8, 3) := by decide +kernel
theorem dX5_valueOf_12 : decode cX5_valueOf 12 = .ok (.iload_n 0, 1) := by decide +kernel
theorem dX5_valueOf_13 : decode cX5_valueOf 13 = .ok (.bipush 48, 2) := by decide +kernel
theorem dX5_valueOf_15 : decode cX5_valueOf 15 = .ok (.isub, 1) := by decide +kernel
theorem dX5_valueOf_16 : decode cX5_valueOf 16 = .ok (.ireturn, 1) := by decide +kernel
theorem dX5_valueOf_17 : decode cX5_valueOf 17 = .ok (.iload_n 0, 1) := by decide +kernel
theorem dX5_valueOf_18 : decode cX5_valueOf 18 = .ok (.bipush 97, 2) := by decide +kernel
theorem dX5_valueOf_20 : decode cX5_valueOf 20 = .ok (.if_icmp .lt 16, 3) := by decide +kernel
theorem dX5_valueOf_23 : decode cX5_valueOf 23 = .ok (.iload_n 0, 1) := by decide +kernel
theorem dX5_valueOf_24 : decode cX5_valueOf 24 = .ok (.bipush 105, 2) := by decide +kernel
theorem dX5_valueOf_26 : decode cX5_valueOf 26 = .ok (.if_icmp .gt 10, 3) := by decide +kernel
theorem dX5_valueOf_29 : decode cX5_valueOf 29 = .ok (.bipush 96, 2) := by decide +kernel
theorem dX5_valueOf_31 : decode cX5_valueOf 31 = .ok (.iload_n 0, 1) := by decide +kernel
theorem dX5_valueOf_32 : decode cX5_valueOf 32 = .ok (.isub, 1) := by decide +kernel
theorem dX5_valueOf_33 : decode cX5_valueOf 33 = .ok (.goto 5, 3) := by decide +kernel
theorem dX5_valueOf_36 : decode cX5_valueOf 36 = .ok (.ldc 87, 2) := by decide +kernel
theorem dX5_valueOf_38 : decode cX5_valueOf 38 = .ok (.ireturn, 1) := by decide +kernel
theorem dX6_init_0 : decode cX6_init 0 = .ok (.aload_n 0, 1) := by decide +kernel
theorem dX6_init_1 : decode cX6_init 1 = .ok (.invokespecial 3, 3) := by decide +kernel
theorem dX6_init_4 : decode cX6_init 4 = .ok (.aload_n 0, 1) := by decide +kernel
theorem dX6_init_5 : decode cX6_init 5 = .ok (.bipush 72, 2) := by decide +kernel
theorem dX6_init_7 : decode cX6_init 7 = .ok (.anewarray 9, 3) := by decide +kernel
theorem dX6_init_10 : decode cX6_init 10 = .ok (.putfield 11, 3) := by decide +kernel
theorem dX6_init_13 : decode cX6_init 13 = .ok (.aload_n 0, 1) := by decide +kernel
theorem dX6_init_14 : decode cX6_init 14 = .ok (.bipush 9, 2) := by decide +kernel
theorem dX6_init_16 : decode cX6_init 16 = .ok (.newarray .int, 2) := by decide +kernel
theorem dX6_init_18 : decode cX6_init 18 = .ok (.putfield 17, 3) := by decide +kernel
theorem dX6_init_21 : decode cX6_init 21 = .ok (.iconst 0, 1) := by decide +kernel
theorem dX6_init_22 : decode cX6_init 22 = .ok (.istore_n 1, 1) := by decide +kernel
theorem dX6_init_23 : decode cX6_init 23 = .ok (.iload_n 1, 1) := by decide +kernel
theorem dX6_init_24 : decode cX6_init 24 = .ok (.bipush 9, 2) := by decide +kernel
theorem dX6_init_26 : decode cX6_init 26 = .ok (.if_icmp .ge 44, 3) := by decide +kernel
theorem dX6_init_29 : decode cX6_init 29 = .ok (.iconst 0, 1) := by decide +kernel
theorem dX6_init_30 : decode cX6_init 30 = .ok (.istore_n 2, 1) := by decide +kernel
theorem dX6_init_31 : decode cX6_init 31 = .ok (.iload_n 2, 1) := by decide +kernel
theorem dX6_init_32 : decode cX6_init 32 = .ok (.bipush 8, 2) := by decide +kernel
theorem dX6_init_34 : decode cX6_init 34 = .ok (.if_icmp .ge 30, 3) := by decide +kernel
theorem dX6_init_37 : decode cX6_init 37 = .ok (.aload_n 0, 1) := by decide +kernel
theorem dX6_init_38 : decode cX6_init 38 = .ok (.getfield 11, 3) := by decide +kernel
theorem dX6_init_41 : decode cX6_init 41 = .ok (.iload_n 1, 1) := by decide +kernel
theorem dX6_init_42 : decode cX6_init 42 = .ok (.bipush 8, 2) := by decide +kernel
theorem dX6_init_44 : decode cX6_init 44 = .ok (.imul, 1) := by decide +kernel
theorem dX6_init_45 : decode cX6_init 45 = .ok (.iload_n 2, 1) := by decide +kernel
theorem dX6_init_46 : decode cX6_init 46 = .ok (.iadd, 1) := by decide +kernel
theorem dX6_init_47 : decode cX6_init 47 = .ok (.new 9, 3) := by decide +kernel
theorem dX6_init_50 : decode cX6_init 50 = .ok (.dup, 1) := by decide +kernel
theorem dX6_init_51 : decode cX6_init 51 = .ok (.iconst 2, 1) := by decide +kernel
theorem dX6_init_52 : decode cX6_init 52 = .ok (.iload_n 1, 1) := by decide +kernel
theorem dX6_init_53 : decode cX6_init 53 = .ok (.iadd, 1) := by decide +kernel
theorem dX6_init_54 : decode cX6_init 54 = .ok (.invokespecial 21, 3) := by decide +kernel
theorem dX6_init_57 : decode cX6_init 57 = .ok (.aastore, 1) := by decide +kernel
theorem dX6_init_58 : decode cX6_init 58 = .ok (.iinc 2 1, 3) := by decide +kernel
theorem dX6_init_61 : decode cX6_init 61 = .ok (.goto (-30), 3) := by decide +kernel
theorem dX6_init_64 : decode cX6_init 64 = .ok (.iinc 1 1, 3) := by decide +kernel
theorem dX6_init_67 : decode cX6_init 67 = .ok (.goto (-44), 3) := by decide +kernel
theorem dX6_init_70 : decode cX6_init 70 = .ok (.return_, 1) := by decide +kernel
theorem dX6_forgetFrom_0 : decode cX6_forgetFrom 0 = .ok (.iconst 0, 1) := by decide +kernel
theorem dX6_forgetFrom_1 : decode cX6_forgetFrom 1 = .ok (.istore_n 2, 1) := by decide +kernel
theorem dX6_forgetFrom_2 : decode cX6_forgetFrom 2 = .ok (.iload_n 2, 1) := by decide +kernel
theorem dX6_forgetFrom_3 : decode cX6_forgetFrom 3 = .ok (.bipush 9, 2) := by decide +kernel
theorem dX6_forgetFrom_5 : decode cX6_forgetFrom 5 = .ok (.if_icmp .ge 25, 3) := by decide +kernel
theorem dX6_forgetFrom_8 : decode cX6_forgetFrom 8 = .ok (.aload_n 0, 1) := by decide +kernel
theorem dX6_forgetFrom_9 : decode cX6_forgetFrom 9 = .ok (.getfield 17, 3) := by decide +kernel
theorem dX6_forgetFrom_12 : decode cX6_forgetFrom 12 = .ok (.iload_n 2, 1) := by decide +kernel
theorem dX6_forgetFrom_13 : decode cX6_forgetFrom 13 = .ok (.aload_n 0, 1) := by decide +kernel
theorem dX6_forgetFrom_14 : decode cX6_forgetFrom 14 = .ok (.getfield 17, 3) := by decide +kernel
theorem dX6_forgetFrom_17 : decode cX6_forgetFrom 17 = .ok (.iload_n 2, 1) := by decide +kernel
theorem dX6_forgetFrom_18 : decode cX6_forgetFrom 18 = .ok (.iaload, 1) := by decide +kernel
theorem dX6_forgetFrom_19 : decode cX6_forgetFrom 19 = .ok (.iload_n 1, 1) := by decide +kernel
theorem dX6_forgetFrom_20 : decode cX6_forgetFrom 20 = .ok (.invokestatic 24, 3) := by decide +kernel
theorem dX6_forgetFrom_23 : decode cX6_forgetFrom 23 = .ok (.iastore, 1) := by decide +kernel
theorem dX6_forgetFrom_24 : decode cX6_forgetFrom 24 = .ok (.iinc 2 1, 3) := by decide +kernel
theorem dX6_forgetFrom_27 : decode cX6_forgetFrom 27 = .ok (.goto (-25), 3) := by decide +kernel
theorem dX6_forgetFrom_30 : decode cX6_forgetFrom 30 = .ok (.return_, 1) := by decide +kernel
theorem dX6_cycleOf_0 : decode cX6_cycleOf 0 = .ok (.iload_n 3, 1) := by decide +kernel
theorem dX6_cycleOf_1 : decode cX6_cycleOf 1 = .ok (.iconst 2, 1) := by decide +kernel
theorem dX6_cycleOf_2 : decode cX6_cycleOf 2 = .ok (.if_icmp .lt 15, 3) := by decide +kernel
theorem dX6_cycleOf_5 : decode cX6_cycleOf 5 = .ok (.iload_n 3, 1) := by decide +kernel
theorem dX6_cycleOf_6 : decode cX6_cycleOf 6 = .ok (.bipush 10, 2) := by decide +kernel
theorem dX6_cycleOf_8 : decode cX6_cycleOf 8 = .ok (.if_icmp .gt 9, 3) := by decide +kernel
theorem dX6_cycleOf_11 : decode cX6_cycleOf 11 = .ok (.iload_n 3, 1) := by decide +kernel
theorem dX6_cycleOf_12 : decode cX6_cycleOf 12 = .ok (.iconst 2, 1) := by decide +kernel
theorem dX6_cycleOf_13 : decode cX6_cycleOf 13 = .ok (.isub, 1) := by decide +kernel
theorem dX6_cycleOf_14 : decode cX6_cycleOf 14 = .ok (.goto 4, 3) := by decide +kernel
theorem dX6_cycleOf_17 : decode cX6_cycleOf 17 = .ok (.iconst 0, 1) := by decide +kernel
theorem dX6_cycleOf_18 : decode cX6_cycleOf 18 = .ok (.istore 4, 2) := by decide +kernel
theorem dX6_cycleOf_20 : decode cX6_cycleOf 20 = .ok (.aload_n 0, 1) := by decide +kernel
theorem dX6_cycleOf_21 : decode cX6_cycleOf 21 = .ok (.getfield 17, 3) := by decide +kernel
theorem dX6_cycleOf_24 : decode cX6_cycleOf 24 = .ok (.iload 4, 2) := by decide +kernel
theorem dX6_cycleOf_26 : decode cX6_cycleOf 26 = .ok (.iaload, 1) := by decide +kernel
theorem dX6_cycleOf_27 : decode cX6_cycleOf 27 = .ok (.iload_n 2, 1) := by decide +kernel
theorem dX6_cycleOf_28 : decode cX6_cycleOf 28 = .ok (.if_icmp .gt 43, 3) := by decide +kernel
theorem dX6_cycleOf_31 : decode cX6_cycleOf 31 = .ok (.aload_n 0, 1) := by decide +kernel
theorem dX6_cycleOf_32 : decode cX6_cycleOf 32 = .ok (.getfield 17, 3) := by decide +kernel
theorem dX6_cycleOf_35 : decode cX6_cycleOf 35 = .ok (.iload 4, 2) := by decide +kernel
theorem dX6_cycleOf_37 : decode cX6_cycleOf 37 = .ok (.iaload, 1) := by decide +kernel
theorem dX6_cycleOf_38 : decode cX6_cycleOf 38 = .ok (.bipush 8, 2) := by decide +kernel
theorem dX6_cycleOf_40 : decode cX6_cycleOf 40 = .ok (.if_icmp .ge 31, 3) := by decide +kernel
theorem dX6_cycleOf_43 : decode cX6_cycleOf 43 = .ok (.aload_n 0, 1) := by decide +kernel
theorem dX6_cycleOf_44 : decode cX6_cycleOf 44 = .ok (.aload_n 1, 1) := by decide +kernel
theorem dX6_cycleOf_45 : decode cX6_cycleOf 45 = .ok (.aload_n 0, 1) := by decide +kernel
theorem dX6_cycleOf_46 : decode cX6_cycleOf 46 = .ok (.getfield 17, 3) := by decide +kernel
theorem dX6_cycleOf_49 : decode cX6_cycleOf 49 = .ok (.iload 4, 2) := by decide +kernel
theorem dX6_cycleOf_51 : decode cX6_cycleOf 51 = .ok (.iaload, 1) := by decide +kernel
theorem dX6_cycleOf_52 : decode cX6_cycleOf 52 = .ok (.iload 4, 2) := by decide +kernel
theorem dX6_cycleOf_54 : decode cX6_cycleOf 54 = .ok (.invokevirtual 30, 3) := by decide +kernel
theorem dX6_cycleOf_57 : decode cX6_cycleOf 57 = .ok (.aload_n 0, 1) := by decide +kernel
theorem dX6_cycleOf_58 : decode cX6_cycleOf 58 = .ok (.getfield 17, 3) := by decide +kernel
theorem dX6_cycleOf_61 : decode cX6_cycleOf 61 = .ok (.iload 4, 2) := by decide +kernel
theorem dX6_cycleOf_63 : decode cX6_cycleOf 63 = .ok (.dup2, 1) := by decide +kernel
theorem dX6_cycleOf_64 : decode cX6_cycleOf 64 = .ok (.iaload, 1) := by decide +kernel
theorem dX6_cycleOf_65 : decode cX6_cycleOf 65 = .ok (.iconst 1, 1) := by decide +kernel
theorem dX6_cycleOf_66 : decode cX6_cycleOf 66 = .ok (.iadd, 1) := by decide +kernel
theorem dX6_cycleOf_67 : decode cX6_cycleOf 67 = .ok (.iastore, 1) := by decide +kernel
theorem dX6_cycleOf_68 : decode cX6_cycleOf 68 = .ok (.goto (-48), 3) := by decide +kernel
theorem dX6_cycleOf_71 : decode cX6_cycleOf 71 = .ok (.aload_n 0, 1) := by decide +kernel
theorem dX6_cycleOf_72 : decode cX6_cycleOf 72 = .ok (.iload_n 2, 1) := by decide +kernel
theorem dX6_cycleOf_73 : decode cX6_cycleOf 73 = .ok (.iload 4, 2) := by decide +kernel
theorem dX6_cycleOf_75 : decode cX6_cycleOf 75 = .ok (.invokevirtual 34, 3) := by decide +kernel
theorem dX6_cycleOf_78 : decode cX6_cycleOf 78 = .ok (.areturn, 1) := by decide +kernel
theorem dX6_filled_0 : decode cX6_filled 0 = .ok (.iload_n 1, 1) := by decide +kernel
theorem dX6_filled_1 : decode cX6_filled 1 = .ok (.ifCond .lt 23, 3) := by decide +kernel
theorem dX6_filled_4 : decode cX6_filled 4 = .ok (.iload_n 1, 1) := by decide +kernel
theorem dX6_filled_5 : decode cX6_filled 5 = .ok (.bipush 8, 2) := by decide +kernel
theorem dX6_filled_7 : decode cX6_filled 7 = .ok (.if_icmp .ge 17, 3) := by decide +kernel
theorem dX6_filled_10 : decode cX6_filled 10 = .ok (.iload_n 2, 1) := by decide +kernel
theorem dX6_filled_11 : decode cX6_filled 11 = .ok (.ifCond .lt 13, 3) := by decide +kernel
theorem dX6_filled_14 : decode cX6_filled 14 = .ok (.iload_n 2, 1) := by decide +kernel
theorem dX6_filled_15 : decode cX6_filled 15 = .ok (.bipush 9, 2) := by decide +kernel
theorem dX6_filled_17 : decode cX6_filled 17 = .ok (.if_icmp .ge 7, 3) := by decide +kernel
theorem dX6_filled_20 : decode cX6_filled 20 = .ok (.iconst 1, 1) := by decide +kernel
theorem dX6_filled_21 : decode cX6_filled 21 = .ok (.goto 4, 3) := by decide +kernel
theorem dX6_filled_24 : decode cX6_filled 24 = .ok (.iconst 0, 1) := by decide +kernel
theorem dX6_filled_25 : decode cX6_filled 25 = .ok (.istore_n 3, 1) := by decide +kernel
theorem dX6_filled_26 : decode cX6_filled 26 = .ok (.aload_n 0, 1) := by decide +kernel
theorem dX6_filled_27 : decode cX6_filled 27 = .ok (.getfield 11, 3) := by decide +kernel
theorem dX6_filled_30 : decode cX6_filled 30 = .ok (.iload_n 3, 1) := by decide +kernel
theorem dX6_filled_31 : decode cX6_filled 31 = .ok (.ifCond .eq 12, 3) := by decide +kernel
theorem dX6_filled_34 : decode cX6_filled 34 = .ok (.iload_n 2, 1) := by decide +kernel
theorem dX6_filled_35 : decode cX6_filled 35 = .ok (.bipush 8, 2) := by decide +kernel
theorem dX6_filled_37 : decode cX6_filled 37 = .ok (.imul, 1) := by decide +kernel
theorem dX6_filled_38 : decode cX6_filled 38 = .ok (.iload_n 1, 1) := by decide +kernel
theorem dX6_filled_39 : decode cX6_filled 39 = .ok (.iadd, 1) := by decide +kernel
theorem dX6_filled_40 : decode cX6_filled 40 = .ok (.goto 4, 3) := by decide +kernel
theorem dX6_filled_43 : decode cX6_filled 43 = .ok (.iconst 0, 1) := by decide +kernel
theorem dX6_filled_44 : decode cX6_filled 44 = .ok (.aaload, 1) := by decide +kernel
theorem dX6_filled_45 : decode cX6_filled 45 = .ok (.areturn, 1) := by decide +kernel
theorem dX6_fill_0 : decode cX6_fill 0 = .ok (.aload_n 0, 1) := by decide +kernel
theorem dX6_fill_1 : decode cX6_fill 1 = .ok (.iload_n 2, 1) := by decide +kernel
theorem dX6_fill_2 : decode cX6_fill 2 = .ok (.iload_n 3, 1) := by decide +kernel
theorem dX6_fill_3 : decode cX6_fill 3 = .ok (.invokevirtual 34, 3) := by decide +kernel
theorem dX6_fill_6 : decode cX6_fill 6 = .ok (.astore 4, 2) := by decide +kernel
theorem dX6_fill_8 : decode cX6_fill 8 = .ok (.aload_n 1, 1) := by decide +kernel
theorem dX6_fill_9 : decode cX6_fill 9 = .ok (.iload_n 2, 1) := by decide +kernel
theorem dX6_fill_10 : decode cX6_fill 10 = .ok (.iconst 0, 1) := by decide +kernel
theorem dX6_fill_11 : decode cX6_fill 11 = .ok (.invokevirtual 38, 3) := by decide +kernel
theorem dX6_fill_14 : decode cX6_fill 14 = .ok (.istore 5, 2) := by decide +kernel
theorem dX6_fill_16 : decode cX6_fill 16 = .ok (.aload_n 1, 1) := by decide +kernel
theorem dX6_fill_17 : decode cX6_fill 17 = .ok (.iload_n 2, 1) := by decide +kernel
theorem dX6_fill_18 : decode cX6_fill 18 = .ok (.iconst 1, 1) := by decide +kernel
theorem dX6_fill_19 : decode cX6_fill 19 = .ok (.invokevirtual 38, 3) := by decide +kernel
theorem dX6_fill_22 : decode cX6_fill 22 = .ok (.istore 6, 2) := by decide +kernel
theorem dX6_fill_24 : decode cX6_fill 24 = .ok (.aload_n 1, 1) := by decide +kernel
theorem dX6_fill_25 : decode cX6_fill 25 = .ok (.iload_n 2, 1) := by decide +kernel
theorem dX6_fill_26 : decode cX6_fill 26 = .ok (.iconst 2, 1) := by decide +kernel
theorem dX6_fill_27 : decode cX6_fill 27 = .ok (.invokevirtual 38, 3) := by decide +kernel
theorem dX6_fill_30 : decode cX6_fill 30 = .ok (.istore 7, 2) := by decide +kernel
theorem dX6_fill_32 : decode cX6_fill 32 = .ok (.aload_n 1, 1) := by decide +kernel
theorem dX6_fill_33 : decode cX6_fill 33 = .ok (.iload_n 2, 1) := by decide +kernel
theorem dX6_fill_34 : decode cX6_fill 34 = .ok (.invokevirtual 43, 3) := by decide +kernel
theorem dX6_fill_37 : decode cX6_fill 37 = .ok (.tableswitch 114 0 3 #[31, 51, 73, 95], 31) := by decide +kernel
theorem dX6_fill_68 : decode cX6_fill 68 = .ok (.aload 4, 2) := by decide +kernel
theorem dX6_fill_70 : decode cX6_fill 70 = .ok (.iload 5, 2) := by decide +kernel
theorem dX6_fill_72 : decode cX6_fill 72 = .ok (.iload 6, 2) := by decide +kernel
theorem dX6_fill_74 : decode cX6_fill 74 = .ok (.iload 7, 2) := by decide +kernel
theorem dX6_fill_76 : decode cX6_fill 76 = .ok (.aload_n 1, 1) := by decide +kernel
theorem dX6_fill_77 : decode cX6_fill 77 = .ok (.iload_n 2, 1) := by decide +kernel
theorem dX6_fill_78 : decode cX6_fill 78 = .ok (.iconst 3, 1) := by decide +kernel
theorem dX6_fill_79 : decode cX6_fill 79 = .ok (.invokevirtual 38, 3) := by decide +kernel
theorem dX6_fill_82 : decode cX6_fill 82 = .ok (.invokevirtual 47, 3) := by decide +kernel
theorem dX6_fill_85 : decode cX6_fill 85 = .ok (.goto 78, 3) := by decide +kernel
theorem dX6_fill_88 : decode cX6_fill 88 = .ok (.aload 4, 2) := by decide +kernel
theorem dX6_fill_90 : decode cX6_fill 90 = .ok (.aload_n 0, 1) := by decide +kernel
theorem dX6_fill_91 : decode cX6_fill 91 = .ok (.iload 5, 2) := by decide +kernel
theorem dX6_fill_93 : decode cX6_fill 93 = .ok (.iload_n 3, 1) := by decide +kernel
theorem dX6_fill_94 : decode cX6_fill 94 = .ok (.invokevirtual 34, 3) := by decide +kernel
theorem dX6_fill_97 : decode cX6_fill 97 = .ok (.aload_n 0, 1) := by decide +kernel
theorem dX6_fill_98 : decode cX6_fill 98 = .ok (.iload 6, 2) := by decide +kernel
theorem dX6_fill_100 : decode cX6_fill 100 = .ok (.iload_n 3, 1) := by decide +kernel
theorem dX6_fill_101 : decode cX6_fill 101 = .ok (.invokevirtual 34, 3) := by decide +kernel
theorem dX6_fill_104 : decode cX6_fill 104 = .ok (.invokevirtual 51, 3) := by decide +kernel
theorem dX6_fill_107 : decode cX6_fill 107 = .ok (.goto 56, 3) := by decide +kernel
theorem dX6_fill_110 : decode cX6_fill 110 = .ok (.aload 4, 2) := by decide +kernel
theorem dX6_fill_112 : decode cX6_fill 112 = .ok (.aload_n 0, 1) := by decide +kernel
theorem dX6_fill_113 : decode cX6_fill 113 = .ok (.iload 5, 2) := by decide +kernel
theorem dX6_fill_115 : decode cX6_fill 115 = .ok (.iload_n 3, 1) := by decide +kernel
theorem dX6_fill_116 : decode cX6_fill 116 = .ok (.invokevirtual 34, 3) := by decide +kernel
theorem dX6_fill_119 : decode cX6_fill 119 = .ok (.aload_n 0, 1) := by decide +kernel
theorem dX6_fill_120 : decode cX6_fill 120 = .ok (.iload 6, 2) := by decide +kernel
theorem dX6_fill_122 : decode cX6_fill 122 = .ok (.iload_n 3, 1) := by decide +kernel
theorem dX6_fill_123 : decode cX6_fill 123 = .ok (.invokevirtual 34, 3) := by decide +kernel
theorem dX6_fill_126 : decode cX6_fill 126 = .ok (.invokevirtual 55, 3) := by decide +kernel
theorem dX6_fill_129 : decode cX6_fill 129 = .ok (.goto 34, 3) := by decide +kernel
theorem dX6_fill_132 : decode cX6_fill 132 = .ok (.aload 4, 2) := by decide +kernel
theorem dX6_fill_134 : decode cX6_fill 134 = .ok (.aload_n 0, 1) := by decide +kernel
theorem dX6_fill_135 : decode cX6_fill 135 = .ok (.iload 5, 2) := by decide +kernel
theorem dX6_fill_137 : decode cX6_fill 137 = .ok (.iload_n 3, 1) := by decide +kernel
theorem dX6_fill_138 : decode cX6_fill 138 = .ok (.invokevirtual 34, 3) := by decide +kernel
theorem dX6_fill_141 : decode cX6_fill 141 = .ok (.iload 6, 2) := by decide +kernel
theorem dX6_fill_143 : decode cX6_fill 143 = .ok (.iload 7, 2) := by decide +kernel
theorem dX6_fill_145 : decode cX6_fill 145 = .ok (.invokevirtual 58, 3) := by decide +kernel
theorem dX6_fill_148 : decode cX6_fill 148 = .ok (.goto 15, 3) := by decide +kernel
theorem dX6_fill_151 : decode cX6_fill 151 = .ok (.aload 4, 2) := by decide +kernel
theorem dX6_fill_153 : decode cX6_fill 153 = .ok (.aload_n 0, 1) := by decide +kernel
theorem dX6_fill_154 : decode cX6_fill 154 = .ok (.iload 5, 2) := by decide +kernel
theorem dX6_fill_156 : decode cX6_fill 156 = .ok (.iload_n 3, 1) := by decide +kernel
theorem dX6_fill_157 : decode cX6_fill 157 = .ok (.invokevirtual 34, 3) := by decide +kernel
theorem dX6_fill_160 : decode cX6_fill 160 = .ok (.invokevirtual 62, 3) := by decide +kernel
theorem dX6_fill_163 : decode cX6_fill 163 = .ok (.return_, 1) := by decide +kernel
theorem dX7_differentReal_0 : decode cX7_differentReal 0 = .ok (.iconst 1, 1) := by decide +kernel
theorem dX7_differentReal_1 : decode cX7_differentReal 1 = .ok (.iload_n 0, 1) := by decide +kernel
theorem dX7_differentReal_2 : decode cX7_differentReal 2 = .ok (.iload_n 1, 1) := by decide +kernel
theorem dX7_differentReal_3 : decode cX7_differentReal 3 = .ok (.invokestatic 9, 3) := by decide +kernel
theorem dX7_differentReal_6 : decode cX7_differentReal 6 = .ok (.invokestatic 15, 3) := by decide +kernel
theorem dX7_differentReal_9 : decode cX7_differentReal 9 = .ok (.iadd, 1) := by decide +kernel
theorem dX7_differentReal_10 : decode cX7_differentReal 10 = .ok (.ireturn, 1) := by decide +kernel
theorem dX7_greater_0 : decode cX7_greater 0 = .ok (.iload_n 0, 1) := by decide +kernel
theorem dX7_greater_1 : decode cX7_greater 1 = .ok (.iload_n 1, 1) := by decide +kernel
theorem dX7_greater_2 : decode cX7_greater 2 = .ok (.invokestatic 9, 3) := by decide +kernel
theorem dX7_greater_5 : decode cX7_greater 5 = .ok (.invokestatic 19, 3) := by decide +kernel
theorem dX7_greater_8 : decode cX7_greater 8 = .ok (.istore_n 2, 1) := by decide +kernel
theorem dX7_greater_9 : decode cX7_greater 9 = .ok (.iload_n 2, 1) := by decide +kernel
theorem dX7_greater_10 : decode cX7_greater 10 = .ok (.ldc 22, 2) := by decide +kernel
theorem dX7_greater_12 : decode cX7_greater 12 = .ok (.if_icmp .ne 8, 3) := by decide +kernel
theorem dX7_greater_15 : decode cX7_greater 15 = .ok (.ldc 22, 2) := by decide +kernel
theorem dX7_greater_17 : decode cX7_greater 17 = .ok (.goto 8, 3) := by decide +kernel
theorem dX7_greater_20 : decode cX7_greater 20 = .ok (.iload_n 0, 1) := by decide +kernel
theorem dX7_greater_21 : decode cX7_greater 21 = .ok (.iload_n 2, 1) := by decide +kernel
theorem dX7_greater_22 : decode cX7_greater 22 = .ok (.iadd, 1) := by decide +kernel
theorem dX7_greater_23 : decode cX7_greater 23 = .ok (.iconst 2, 1) := by decide +kernel
theorem dX7_greater_24 : decode cX7_greater 24 = .ok (.idiv, 1) := by decide +kernel
theorem dX7_greater_25 : decode cX7_greater 25 = .ok (.ireturn, 1) := by decide +kernel
theorem dX7_lesser_0 : decode cX7_lesser 0 = .ok (.iload_n 0, 1) := by decide +kernel
theorem dX7_lesser_1 : decode cX7_lesser 1 = .ok (.iload_n 1, 1) := by decide +kernel
theorem dX7_lesser_2 : decode cX7_lesser 2 = .ok (.invokestatic 9, 3) := by decide +kernel
theorem dX7_lesser_5 : decode cX7_lesser 5 = .ok (.invokestatic 19, 3) := by decide +kernel
theorem dX7_lesser_8 : decode cX7_lesser 8 = .ok (.istore_n 2, 1) := by decide +kernel
theorem dX7_lesser_9 : decode cX7_lesser 9 = .ok (.iload_n 2, 1) := by decide +kernel
theorem dX7_lesser_10 : decode cX7_lesser 10 = .ok (.ldc 22, 2) := by decide +kernel
theorem dX7_lesser_12 : decode cX7_lesser 12 = .ok (.if_icmp .ne 8, 3) := by decide +kernel
theorem dX7_lesser_15 : decode cX7_lesser 15 = .ok (.ldc 22, 2) := by decide +kernel
theorem dX7_lesser_17 : decode cX7_lesser 17 = .ok (.goto 8, 3) := by decide +kernel
theorem dX7_lesser_20 : decode cX7_lesser 20 = .ok (.iload_n 0, 1) := by decide +kernel
theorem dX7_lesser_21 : decode cX7_lesser 21 = .ok (.iload_n 2, 1) := by decide +kernel
theorem dX7_lesser_22 : decode cX7_lesser 22 = .ok (.isub, 1) := by decide +kernel
theorem dX7_lesser_23 : decode cX7_lesser 23 = .ok (.iconst 2, 1) := by decide +kernel
theorem dX7_lesser_24 : decode cX7_lesser 24 = .ok (.idiv, 1) := by decide +kernel
theorem dX7_lesser_25 : decode cX7_lesser 25 = .ok (.ireturn, 1) := by decide +kernel
theorem dX7_order_0 : decode cX7_order 0 = .ok (.iload_n 1, 1) := by decide +kernel
theorem dX7_order_1 : decode cX7_order 1 = .ok (.ifCond .ne 5, 3) := by decide +kernel
theorem dX7_order_4 : decode cX7_order 4 = .ok (.iconst 0, 1) := by decide +kernel
theorem dX7_order_5 : decode cX7_order 5 = .ok (.ireturn, 1) := by decide +kernel
theorem dX7_order_6 : decode cX7_order 6 = .ok (.iload_n 0, 1) := by decide +kernel
theorem dX7_order_7 : decode cX7_order 7 = .ok (.ifCond .ne 5, 3) := by decide +kernel
theorem dX7_order_10 : decode cX7_order 10 = .ok (.iconst 2, 1) := by decide +kernel
theorem dX7_order_11 : decode cX7_order 11 = .ok (.ireturn, 1) := by decide +kernel
theorem dX7_order_12 : decode cX7_order 12 = .ok (.iload_n 0, 1) := by decide +kernel
theorem dX7_order_13 : decode cX7_order 13 = .ok (.iload_n 0, 1) := by decide +kernel
theorem dX7_order_14 : decode cX7_order 14 = .ok (.imul, 1) := by decide +kernel
theorem dX7_order_15 : decode cX7_order 15 = .ok (.iload_n 1, 1) := by decide +kernel
theorem dX7_order_16 : decode cX7_order 16 = .ok (.ineg, 1) := by decide +kernel
theorem dX7_order_17 : decode cX7_order 17 = .ok (.if_icmp .ne 5, 3) := by decide +kernel
theorem dX7_order_20 : decode cX7_order 20 = .ok (.iconst 3, 1) := by decide +kernel
theorem dX7_order_21 : decode cX7_order 21 = .ok (.ireturn, 1) := by decide +kernel
theorem dX7_order_22 : decode cX7_order 22 = .ok (.iload_n 0, 1) := by decide +kernel
theorem dX7_order_23 : decode cX7_order 23 = .ok (.iload_n 0, 1) := by decide +kernel
theorem dX7_order_24 : decode cX7_order 24 = .ok (.imul, 1) := by decide +kernel
theorem dX7_order_25 : decode cX7_order 25 = .ok (.bipush (-2), 2) := by decide +kernel
theorem dX7_order_27 : decode cX7_order 27 = .ok (.iload_n 1, 1) := by decide +kernel
theorem dX7_order_28 : decode cX7_order 28 = .ok (.imul, 1) := by decide +kernel
theorem dX7_order_29 : decode cX7_order 29 = .ok (.if_icmp .ne 5, 3) := by decide +kernel
theorem dX7_order_32 : decode cX7_order 32 = .ok (.iconst 4, 1) := by decide +kernel
theorem dX7_order_33 : decode cX7_order 33 = .ok (.ireturn, 1) := by decide +kernel
theorem dX7_order_34 : decode cX7_order 34 = .ok (.iload_n 0, 1) := by decide +kernel
theorem dX7_order_35 : decode cX7_order 35 = .ok (.iload_n 0, 1) := by decide +kernel
theorem dX7_order_36 : decode cX7_order 36 = .ok (.imul, 1) := by decide +kernel
theorem dX7_order_37 : decode cX7_order 37 = .ok (.bipush (-3), 2) := by decide +kernel
theorem dX7_order_39 : decode cX7_order 39 = .ok (.iload_n 1, 1) := by decide +kernel
theorem dX7_order_40 : decode cX7_order 40 = .ok (.imul, 1) := by decide +kernel
theorem dX7_order_41 : decode cX7_order 41 = .ok (.if_icmp .ne 8, 3) := by decide +kernel
theorem dX7_order_44 : decode cX7_order 44 = .ok (.bipush 6, 2) := by decide +kernel
theorem dX7_order_46 : decode cX7_order 46 = .ok (.goto 4, 3) := by decide +kernel
theorem dX7_order_49 : decode cX7_order 49 = .ok (.iconst 0, 1) := by decide +kernel
theorem dX7_order_50 : decode cX7_order 50 = .ok (.ireturn, 1) := by decide +kernel
theorem dX7_farthestSign_0 : decode cX7_farthestSign 0 = .ok (.iload_n 0, 1) := by decide +kernel
theorem dX7_farthestSign_1 : decode cX7_farthestSign 1 = .ok (.iload_n 1, 1) := by decide +kernel
theorem dX7_farthestSign_2 : decode cX7_farthestSign 2 = .ok (.invokestatic 9, 3) := by decide +kernel
theorem dX7_farthestSign_5 : decode cX7_farthestSign 5 = .ok (.ifCond .le 10, 3) := by decide +kernel
theorem dX7_farthestSign_8 : decode cX7_farthestSign 8 = .ok (.iload_n 0, 1) := by decide +kernel
theorem dX7_farthestSign_9 : decode cX7_farthestSign 9 = .ok (.invokestatic 15, 3) := by decide +kernel
theorem dX7_farthestSign_12 : decode cX7_farthestSign 12 = .ok (.goto 4, 3) := by decide +kernel
theorem dX7_farthestSign_15 : decode cX7_farthestSign 15 = .ok (.iconst 0, 1) := by decide +kernel
theorem dX7_farthestSign_16 : decode cX7_farthestSign 16 = .ok (.ireturn, 1) := by decide +kernel
theorem dX7_signOf_0 : decode cX7_signOf 0 = .ok (.iload_n 0, 1) := by decide +kernel
theorem dX7_signOf_1 : decode cX7_signOf 1 = .ok (.ifCond .ne 5, 3) := by decide +kernel
theorem dX7_signOf_4 : decode cX7_signOf 4 = .ok (.iconst 0, 1) := by decide +kernel
theorem dX7_signOf_5 : decode cX7_signOf 5 = .ok (.ireturn, 1) := by decide +kernel
theorem dX7_signOf_6 : decode cX7_signOf 6 = .ok (.iload_n 0, 1) := by decide +kernel
theorem dX7_signOf_7 : decode cX7_signOf 7 = .ok (.ifCond .le 7, 3) := by decide +kernel
theorem dX7_signOf_10 : decode cX7_signOf 10 = .ok (.iconst 1, 1) := by decide +kernel
theorem dX7_signOf_11 : decode cX7_signOf 11 = .ok (.goto 4, 3) := by decide +kernel
theorem dX7_signOf_14 : decode cX7_signOf 14 = .ok (.iconst (-1), 1) := by decide +kernel
theorem dX7_signOf_15 : decode cX7_signOf 15 = .ok (.ireturn, 1) := by decide +kernel
theorem dX7_discriminant_0 : decode cX7_discriminant 0 = .ok (.iload_n 0, 1) := by decide +kernel
theorem dX7_discriminant_1 : decode cX7_discriminant 1 = .ok (.iload_n 0, 1) := by decide +kernel
theorem dX7_discriminant_2 : decode cX7_discriminant 2 = .ok (.imul, 1) := by decide +kernel
theorem dX7_discriminant_3 : decode cX7_discriminant 3 = .ok (.iconst 4, 1) := by decide +kernel
theorem dX7_discriminant_4 : decode cX7_discriminant 4 = .ok (.iload_n 1, 1) := by decide +kernel
theorem dX7_discriminant_5 : decode cX7_discriminant 5 = .ok (.imul, 1) := by decide +kernel
theorem dX7_discriminant_6 : decode cX7_discriminant 6 = .ok (.iadd, 1) := by decide +kernel
theorem dX7_discriminant_7 : decode cX7_discriminant 7 = .ok (.ireturn, 1) := by decide +kernel
theorem dX7_wholeRootOf_0 : decode cX7_wholeRootOf 0 = .ok (.iconst 0, 1) := by decide +kernel
theorem dX7_wholeRootOf_1 : decode cX7_wholeRootOf 1 = .ok (.istore_n 1, 1) := by decide +kernel
theorem dX7_wholeRootOf_2 : decode cX7_wholeRootOf 2 = .ok (.iload_n 1, 1) := by decide +kernel
theorem dX7_wholeRootOf_3 : decode cX7_wholeRootOf 3 = .ok (.bipush 11, 2) := by decide +kernel
theorem dX7_wholeRootOf_5 : decode cX7_wholeRootOf 5 = .ok (.if_icmp .ge 18, 3) := by decide +kernel
theorem dX7_wholeRootOf_8 : decode cX7_wholeRootOf 8 = .ok (.iload_n 1, 1) := by decide +kernel
theorem dX7_wholeRootOf_9 : decode cX7_wholeRootOf 9 = .ok (.iload_n 1, 1) := by decide +kernel
theorem dX7_wholeRootOf_10 : decode cX7_wholeRootOf 10 = .ok (.imul, 1) := by decide +kernel
theorem dX7_wholeRootOf_11 : decode cX7_wholeRootOf 11 = .ok (.iload_n 0, 1) := by decide +kernel
theorem dX7_wholeRootOf_12 : decode cX7_wholeRootOf 12 = .ok (.if_icmp .ne 5, 3) := by decide +kernel
theorem dX7_wholeRootOf_15 : decode cX7_wholeRootOf 15 = .ok (.iload_n 1, 1) := by decide +kernel
theorem dX7_wholeRootOf_16 : decode cX7_wholeRootOf 16 = .ok (.ireturn, 1) := by decide +kernel
theorem dX7_wholeRootOf_17 : decode cX7_wholeRootOf 17 = .ok (.iinc 1 1, 3) := by decide +kernel
theorem dX7_wholeRootOf_20 : decode cX7_wholeRootOf 20 = .ok (.goto (-18), 3) := by decide +kernel
theorem dX7_wholeRootOf_23 : decode cX7_wholeRootOf 23 = .ok (.ldc 22, 2) := by decide +kernel
theorem dX7_wholeRootOf_25 : decode cX7_wholeRootOf 25 = .ok (.ireturn, 1) := by decide +kernel
theorem dX8_degreeOf_0 : decode cX8_degreeOf 0 = .ok (.aload_n 0, 1) := by decide +kernel
theorem dX8_degreeOf_1 : decode cX8_degreeOf 1 = .ok (.iload_n 1, 1) := by decide +kernel
theorem dX8_degreeOf_2 : decode cX8_degreeOf 2 = .ok (.invokevirtual 9, 3) := by decide +kernel
theorem dX8_degreeOf_5 : decode cX8_degreeOf 5 = .ok (.istore_n 2, 1) := by decide +kernel
theorem dX8_degreeOf_6 : decode cX8_degreeOf 6 = .ok (.iload_n 2, 1) := by decide +kernel
theorem dX8_degreeOf_7 : decode cX8_degreeOf 7 = .ok (.ifCond .ne 5, 3) := by decide +kernel
theorem dX8_degreeOf_10 : decode cX8_degreeOf 10 = .ok (.iconst 2, 1) := by decide +kernel
theorem dX8_degreeOf_11 : decode cX8_degreeOf 11 = .ok (.ireturn, 1) := by decide +kernel
theorem dX8_degreeOf_12 : decode cX8_degreeOf 12 = .ok (.aload_n 0, 1) := by decide +kernel
theorem dX8_degreeOf_13 : decode cX8_degreeOf 13 = .ok (.aload_n 0, 1) := by decide +kernel
theorem dX8_degreeOf_14 : decode cX8_degreeOf 14 = .ok (.iload_n 1, 1) := by decide +kernel
theorem dX8_degreeOf_15 : decode cX8_degreeOf 15 = .ok (.iconst 0, 1) := by decide +kernel
theorem dX8_degreeOf_16 : decode cX8_degreeOf 16 = .ok (.invokevirtual 15, 3) := by decide +kernel
theorem dX8_degreeOf_19 : decode cX8_degreeOf 19 = .ok (.invokevirtual 19, 3) := by decide +kernel
theorem dX8_degreeOf_22 : decode cX8_degreeOf 22 = .ok (.ifCond .ne 5, 3) := by decide +kernel
theorem dX8_degreeOf_25 : decode cX8_degreeOf 25 = .ok (.iconst 0, 1) := by decide +kernel
theorem dX8_degreeOf_26 : decode cX8_degreeOf 26 = .ok (.ireturn, 1) := by decide +kernel
theorem dX8_degreeOf_27 : decode cX8_degreeOf 27 = .ok (.iload_n 2, 1) := by decide +kernel
theorem dX8_degreeOf_28 : decode cX8_degreeOf 28 = .ok (.iconst 3, 1) := by decide +kernel
theorem dX8_degreeOf_29 : decode cX8_degreeOf 29 = .ok (.if_icmp .eq 8, 3) := by decide +kernel
theorem dX8_degreeOf_32 : decode cX8_degreeOf 32 = .ok (.iload_n 2, 1) := by decide +kernel
theorem dX8_degreeOf_33 : decode cX8_degreeOf 33 = .ok (.iconst 4, 1) := by decide +kernel
theorem dX8_degreeOf_34 : decode cX8_degreeOf 34 = .ok (.if_icmp .ne 5, 3) := by decide +kernel
theorem dX8_degreeOf_37 : decode cX8_degreeOf 37 = .ok (.iconst 2, 1) := by decide +kernel
theorem dX8_degreeOf_38 : decode cX8_degreeOf 38 = .ok (.ireturn, 1) := by decide +kernel
theorem dX8_degreeOf_39 : decode cX8_degreeOf 39 = .ok (.aload_n 0, 1) := by decide +kernel
theorem dX8_degreeOf_40 : decode cX8_degreeOf 40 = .ok (.aload_n 0, 1) := by decide +kernel
theorem dX8_degreeOf_41 : decode cX8_degreeOf 41 = .ok (.iload_n 1, 1) := by decide +kernel
theorem dX8_degreeOf_42 : decode cX8_degreeOf 42 = .ok (.iconst 1, 1) := by decide +kernel
theorem dX8_degreeOf_43 : decode cX8_degreeOf 43 = .ok (.invokevirtual 15, 3) := by decide +kernel
theorem dX8_degreeOf_46 : decode cX8_degreeOf 46 = .ok (.invokevirtual 19, 3) := by decide +kernel
theorem dX8_degreeOf_49 : decode cX8_degreeOf 49 = .ok (.ifCond .eq 7, 3) := by decide +kernel
theorem dX8_degreeOf_52 : decode cX8_degreeOf 52 = .ok (.iconst 4, 1) := by decide +kernel
theorem dX8_degreeOf_53 : decode cX8_degreeOf 53 = .ok (.goto 4, 3) := by decide +kernel
theorem dX8_degreeOf_56 : decode cX8_degreeOf 56 = .ok (.iconst 0, 1) := by decide +kernel
theorem dX8_degreeOf_57 : decode cX8_degreeOf 57 = .ok (.ireturn, 1) := by decide +kernel
theorem dX8_factorOf_0 : decode cX8_factorOf 0 = .ok (.aload_n 0, 1) := by decide +kernel
theorem dX8_factorOf_1 : decode cX8_factorOf 1 = .ok (.iload_n 1, 1) := by decide +kernel
theorem dX8_factorOf_2 : decode cX8_factorOf 2 = .ok (.invokevirtual 9, 3) := by decide +kernel
theorem dX8_factorOf_5 : decode cX8_factorOf 5 = .ok (.istore_n 3, 1) := by decide +kernel
theorem dX8_factorOf_6 : decode cX8_factorOf 6 = .ok (.iload_n 3, 1) := by decide +kernel
theorem dX8_factorOf_7 : decode cX8_factorOf 7 = .ok (.ifCond .ne 7, 3) := by decide +kernel
theorem dX8_factorOf_10 : decode cX8_factorOf 10 = .ok (.iload_n 1, 1) := by decide +kernel
theorem dX8_factorOf_11 : decode cX8_factorOf 11 = .ok (.goto 9, 3) := by decide +kernel
theorem dX8_factorOf_14 : decode cX8_factorOf 14 = .ok (.aload_n 0, 1) := by decide +kernel
theorem dX8_factorOf_15 : decode cX8_factorOf 15 = .ok (.iload_n 1, 1) := by decide +kernel
theorem dX8_factorOf_16 : decode cX8_factorOf 16 = .ok (.iconst 0, 1) := by decide +kernel
theorem dX8_factorOf_17 : decode cX8_factorOf 17 = .ok (.invokevirtual 15, 3) := by decide +kernel
theorem dX8_factorOf_20 : decode cX8_factorOf 20 = .ok (.istore 4, 2) := by decide +kernel
theorem dX8_factorOf_22 : decode cX8_factorOf 22 = .ok (.aload_n 0, 1) := by decide +kernel
theorem dX8_factorOf_23 : decode cX8_factorOf 23 = .ok (.iload 4, 2) := by decide +kernel
theorem dX8_factorOf_25 : decode cX8_factorOf 25 = .ok (.iconst 0, 1) := by decide +kernel
theorem dX8_factorOf_26 : decode cX8_factorOf 26 = .ok (.invokevirtual 15, 3) := by decide +kernel
theorem dX8_factorOf_29 : decode cX8_factorOf 29 = .ok (.istore 5, 2) := by decide +kernel
theorem dX8_factorOf_31 : decode cX8_factorOf 31 = .ok (.aload_n 0, 1) := by decide +kernel
theorem dX8_factorOf_32 : decode cX8_factorOf 32 = .ok (.iload 4, 2) := by decide +kernel
theorem dX8_factorOf_34 : decode cX8_factorOf 34 = .ok (.iconst 1, 1) := by decide +kernel
theorem dX8_factorOf_35 : decode cX8_factorOf 35 = .ok (.invokevirtual 15, 3) := by decide +kernel
theorem dX8_factorOf_38 : decode cX8_factorOf 38 = .ok (.istore 6, 2) := by decide +kernel
theorem dX8_factorOf_40 : decode cX8_factorOf 40 = .ok (.iload_n 3, 1) := by decide +kernel
theorem dX8_factorOf_41 : decode cX8_factorOf 41 = .ok (.ifCond .eq 8, 3) := by decide +kernel
theorem dX8_factorOf_44 : decode cX8_factorOf 44 = .ok (.iload_n 3, 1) := by decide +kernel
theorem dX8_factorOf_45 : decode cX8_factorOf 45 = .ok (.iconst 4, 1) := by decide +kernel
theorem dX8_factorOf_46 : decode cX8_factorOf 46 = .ok (.if_icmp .ne 12, 3) := by decide +kernel
theorem dX8_factorOf_49 : decode cX8_factorOf 49 = .ok (.iload_n 2, 1) := by decide +kernel
theorem dX8_factorOf_50 : decode cX8_factorOf 50 = .ok (.iload 5, 2) := by decide +kernel
theorem dX8_factorOf_52 : decode cX8_factorOf 52 = .ok (.iload 6, 2) := by decide +kernel
theorem dX8_factorOf_54 : decode cX8_factorOf 54 = .ok (.invokestatic 23, 3) := by decide +kernel
theorem dX8_factorOf_57 : decode cX8_factorOf 57 = .ok (.ireturn, 1) := by decide +kernel
theorem dX8_factorOf_58 : decode cX8_factorOf 58 = .ok (.iload_n 3, 1) := by decide +kernel
theorem dX8_factorOf_59 : decode cX8_factorOf 59 = .ok (.iconst 3, 1) := by decide +kernel
theorem dX8_factorOf_60 : decode cX8_factorOf 60 = .ok (.if_icmp .ne 18, 3) := by decide +kernel
theorem dX8_factorOf_63 : decode cX8_factorOf 63 = .ok (.iload_n 2, 1) := by decide +kernel
theorem dX8_factorOf_64 : decode cX8_factorOf 64 = .ok (.aload_n 0, 1) := by decide +kernel
theorem dX8_factorOf_65 : decode cX8_factorOf 65 = .ok (.iload_n 1, 1) := by decide +kernel
theorem dX8_factorOf_66 : decode cX8_factorOf 66 = .ok (.iconst 1, 1) := by decide +kernel
theorem dX8_factorOf_67 : decode cX8_factorOf 67 = .ok (.invokevirtual 15, 3) := by decide +kernel
theorem dX8_factorOf_70 : decode cX8_factorOf 70 = .ok (.iload 5, 2) := by decide +kernel
theorem dX8_factorOf_72 : decode cX8_factorOf 72 = .ok (.iload 6, 2) := by decide +kernel
theorem dX8_factorOf_74 : decode cX8_factorOf 74 = .ok (.invokestatic 29, 3) := by decide +kernel
theorem dX8_factorOf_77 : decode cX8_factorOf 77 = .ok (.ireturn, 1) := by decide +kernel
theorem dX8_factorOf_78 : decode cX8_factorOf 78 = .ok (.aload_n 0, 1) := by decide +kernel
theorem dX8_factorOf_79 : decode cX8_factorOf 79 = .ok (.iload_n 1, 1) := by decide +kernel
theorem dX8_factorOf_80 : decode cX8_factorOf 80 = .ok (.iconst 1, 1) := by decide +kernel
theorem dX8_factorOf_81 : decode cX8_factorOf 81 = .ok (.invokevirtual 15, 3) := by decide +kernel
theorem dX8_factorOf_84 : decode cX8_factorOf 84 = .ok (.istore 7, 2) := by decide +kernel
theorem dX8_factorOf_86 : decode cX8_factorOf 86 = .ok (.aload_n 0, 1) := by decide +kernel
theorem dX8_factorOf_87 : decode cX8_factorOf 87 = .ok (.iload 7, 2) := by decide +kernel
theorem dX8_factorOf_89 : decode cX8_factorOf 89 = .ok (.iconst 0, 1) := by decide +kernel
theorem dX8_factorOf_90 : decode cX8_factorOf 90 = .ok (.invokevirtual 15, 3) := by decide +kernel
theorem dX8_factorOf_93 : decode cX8_factorOf 93 = .ok (.istore 8, 2) := by decide +kernel
theorem dX8_factorOf_95 : decode cX8_factorOf 95 = .ok (.aload_n 0, 1) := by decide +kernel
theorem dX8_factorOf_96 : decode cX8_factorOf 96 = .ok (.iload 7, 2) := by decide +kernel
theorem dX8_factorOf_98 : decode cX8_factorOf 98 = .ok (.iconst 1, 1) := by decide +kernel
theorem dX8_factorOf_99 : decode cX8_factorOf 99 = .ok (.invokevirtual 15, 3) := by decide +kernel
theorem dX8_factorOf_102 : decode cX8_factorOf 102 = .ok (.istore 9, 2) := by decide +kernel
theorem dX8_factorOf_104 : decode cX8_factorOf 104 = .ok (.iload_n 3, 1) := by decide +kernel
theorem dX8_factorOf_105 : decode cX8_factorOf 105 = .ok (.iconst 1, 1) := by decide +kernel
theorem dX8_factorOf_106 : decode cX8_factorOf 106 = .ok (.if_icmp .ne 18, 3) := by decide +kernel
theorem dX8_factorOf_109 : decode cX8_factorOf 109 = .ok (.iload_n 2, 1) := by decide +kernel
theorem dX8_factorOf_110 : decode cX8_factorOf 110 = .ok (.iload 5, 2) := by decide +kernel
theorem dX8_factorOf_112 : decode cX8_factorOf 112 = .ok (.iload 6, 2) := by decide +kernel
theorem dX8_factorOf_114 : decode cX8_factorOf 114 = .ok (.iload 8, 2) := by decide +kernel
theorem dX8_factorOf_116 : decode cX8_factorOf 116 = .ok (.iload 9, 2) := by decide +kernel
theorem dX8_factorOf_118 : decode cX8_factorOf 118 = .ok (.invokestatic 33, 3) := by decide +kernel
theorem dX8_factorOf_121 : decode cX8_factorOf 121 = .ok (.goto 15, 3) := by decide +kernel
theorem dX8_factorOf_124 : decode cX8_factorOf 124 = .ok (.iload_n 2, 1) := by decide +kernel
theorem dX8_factorOf_125 : decode cX8_factorOf 125 = .ok (.iload 5, 2) := by decide +kernel
theorem dX8_factorOf_127 : decode cX8_factorOf 127 = .ok (.iload 6, 2) := by decide +kernel
theorem dX8_factorOf_129 : decode cX8_factorOf 129 = .ok (.iload 8, 2) := by decide +kernel
theorem dX8_factorOf_131 : decode cX8_factorOf 131 = .ok (.iload 9, 2) := by decide +kernel
theorem dX8_factorOf_133 : decode cX8_factorOf 133 = .ok (.invokestatic 37, 3) := by decide +kernel
theorem dX8_factorOf_136 : decode cX8_factorOf 136 = .ok (.ireturn, 1) := by decide +kernel
theorem dX8_ofTwo_0 : decode cX8_ofTwo 0 = .ok (.iload_n 0, 1) := by decide +kernel
theorem dX8_ofTwo_1 : decode cX8_ofTwo 1 = .ok (.iconst 1, 1) := by decide +kernel
theorem dX8_ofTwo_2 : decode cX8_ofTwo 2 = .ok (.if_icmp .ne 5, 3) := by decide +kernel
theorem dX8_ofTwo_5 : decode cX8_ofTwo 5 = .ok (.iload_n 1, 1) := by decide +kernel
theorem dX8_ofTwo_6 : decode cX8_ofTwo 6 = .ok (.ireturn, 1) := by decide +kernel
theorem dX8_ofTwo_7 : decode cX8_ofTwo 7 = .ok (.iload_n 0, 1) := by decide +kernel
theorem dX8_ofTwo_8 : decode cX8_ofTwo 8 = .ok (.iconst 2, 1) := by decide +kernel
theorem dX8_ofTwo_9 : decode cX8_ofTwo 9 = .ok (.if_icmp .ne 7, 3) := by decide +kernel
theorem dX8_ofTwo_12 : decode cX8_ofTwo 12 = .ok (.iload_n 2, 1) := by decide +kernel
theorem dX8_ofTwo_13 : decode cX8_ofTwo 13 = .ok (.goto 4, 3) := by decide +kernel
theorem dX8_ofTwo_16 : decode cX8_ofTwo 16 = .ok (.iconst 0, 1) := by decide +kernel
theorem dX8_ofTwo_17 : decode cX8_ofTwo 17 = .ok (.ireturn, 1) := by decide +kernel
theorem dX8_ofPowers_0 : decode cX8_ofPowers 0 = .ok (.iconst 2, 1) := by decide +kernel
theorem dX8_ofPowers_1 : decode cX8_ofPowers 1 = .ok (.istore 4, 2) := by decide +kernel
theorem dX8_ofPowers_3 : decode cX8_ofPowers 3 = .ok (.iload_n 2, 1) := by decide +kernel
theorem dX8_ofPowers_4 : decode cX8_ofPowers 4 = .ok (.istore 5, 2) := by decide +kernel
theorem dX8_ofPowers_6 : decode cX8_ofPowers 6 = .ok (.iload_n 3, 1) := by decide +kernel
theorem dX8_ofPowers_7 : decode cX8_ofPowers 7 = .ok (.ineg, 1) := by decide +kernel
theorem dX8_ofPowers_8 : decode cX8_ofPowers 8 = .ok (.istore 6, 2) := by decide +kernel
theorem dX8_ofPowers_10 : decode cX8_ofPowers 10 = .ok (.iconst 1, 1) := by decide +kernel
theorem dX8_ofPowers_11 : decode cX8_ofPowers 11 = .ok (.istore 7, 2) := by decide +kernel
theorem dX8_ofPowers_13 : decode cX8_ofPowers 13 = .ok (.iload 7, 2) := by decide +kernel
theorem dX8_ofPowers_15 : decode cX8_ofPowers 15 = .ok (.iload_n 1, 1) := by decide +kernel
theorem dX8_ofPowers_16 : decode cX8_ofPowers 16 = .ok (.if_icmp .ge 35, 3) := by decide +kernel
theorem dX8_ofPowers_19 : decode cX8_ofPowers 19 = .ok (.iload_n 2, 1) := by decide +kernel
theorem dX8_ofPowers_20 : decode cX8_ofPowers 20 = .ok (.iload 5, 2) := by decide +kernel
theorem dX8_ofPowers_22 : decode cX8_ofPowers 22 = .ok (.imul, 1) := by decide +kernel
theorem dX8_ofPowers_23 : decode cX8_ofPowers 23 = .ok (.iload_n 3, 1) := by decide +kernel
theorem dX8_ofPowers_24 : decode cX8_ofPowers 24 = .ok (.iload 4, 2) := by decide +kernel
theorem dX8_ofPowers_26 : decode cX8_ofPowers 26 = .ok (.imul, 1) := by decide +kernel
theorem dX8_ofPowers_27 : decode cX8_ofPowers 27 = .ok (.iadd, 1) := by decide +kernel
theorem dX8_ofPowers_28 : decode cX8_ofPowers 28 = .ok (.istore 8, 2) := by decide +kernel
theorem dX8_ofPowers_30 : decode cX8_ofPowers 30 = .ok (.iload 5, 2) := by decide +kernel
theorem dX8_ofPowers_32 : decode cX8_ofPowers 32 = .ok (.istore 4, 2) := by decide +kernel
theorem dX8_ofPowers_34 : decode cX8_ofPowers 34 = .ok (.iload 8, 2) := by decide +kernel
theorem dX8_ofPowers_36 : decode cX8_ofPowers 36 = .ok (.istore 5, 2) := by decide +kernel
theorem dX8_ofPowers_38 : decode cX8_ofPowers 38 = .ok (.iload 6, 2) := by decide +kernel
theorem dX8_ofPowers_40 : decode cX8_ofPowers 40 = .ok (.iload_n 3, 1) := by decide +kernel
theorem dX8_ofPowers_41 : decode cX8_ofPowers 41 = .ok (.ineg, 1) := by decide +kernel
theorem dX8_ofPowers_42 : decode cX8_ofPowers 42 = .ok (.imul, 1) := by decide +kernel
theorem dX8_ofPowers_43 : decode cX8_ofPowers 43 = .ok (.istore 6, 2) := by decide +kernel
theorem dX8_ofPowers_45 : decode cX8_ofPowers 45 = .ok (.iinc 7 1, 3) := by decide +kernel
theorem dX8_ofPowers_48 : decode cX8_ofPowers 48 = .ok (.goto (-35), 3) := by decide +kernel
theorem dX8_ofPowers_51 : decode cX8_ofPowers 51 = .ok (.iload_n 0, 1) := by decide +kernel
theorem dX8_ofPowers_52 : decode cX8_ofPowers 52 = .ok (.iload 5, 2) := by decide +kernel
theorem dX8_ofPowers_54 : decode cX8_ofPowers 54 = .ok (.iload 6, 2) := by decide +kernel
theorem dX8_ofPowers_56 : decode cX8_ofPowers 56 = .ok (.ineg, 1) := by decide +kernel
theorem dX8_ofPowers_57 : decode cX8_ofPowers 57 = .ok (.invokestatic 23, 3) := by decide +kernel
theorem dX8_ofPowers_60 : decode cX8_ofPowers 60 = .ok (.ireturn, 1) := by decide +kernel
theorem dX8_ofSum_0 : decode cX8_ofSum 0 = .ok (.iload_n 0, 1) := by decide +kernel
theorem dX8_ofSum_1 : decode cX8_ofSum 1 = .ok (.tableswitch 60 1 4 #[31, 35, 44, 54], 31) := by decide +kernel
theorem dX8_ofSum_32 : decode cX8_ofSum 32 = .ok (.iload_n 1, 1) := by decide +kernel
theorem dX8_ofSum_33 : decode cX8_ofSum 33 = .ok (.iload_n 3, 1) := by decide +kernel
theorem dX8_ofSum_34 : decode cX8_ofSum 34 = .ok (.iadd, 1) := by decide +kernel
theorem dX8_ofSum_35 : decode cX8_ofSum 35 = .ok (.ireturn, 1) := by decide +kernel
theorem dX8_ofSum_36 : decode cX8_ofSum 36 = .ok (.iload_n 2, 1) := by decide +kernel
theorem dX8_ofSum_37 : decode cX8_ofSum 37 = .ok (.iload 4, 2) := by decide +kernel
theorem dX8_ofSum_39 : decode cX8_ofSum 39 = .ok (.iadd, 1) := by decide +kernel
theorem dX8_ofSum_40 : decode cX8_ofSum 40 = .ok (.iload_n 1, 1) := by decide +kernel
theorem dX8_ofSum_41 : decode cX8_ofSum 41 = .ok (.iload_n 3, 1) := by decide +kernel
theorem dX8_ofSum_42 : decode cX8_ofSum 42 = .ok (.imul, 1) := by decide +kernel
theorem dX8_ofSum_43 : decode cX8_ofSum 43 = .ok (.isub, 1) := by decide +kernel
theorem dX8_ofSum_44 : decode cX8_ofSum 44 = .ok (.ireturn, 1) := by decide +kernel
theorem dX8_ofSum_45 : decode cX8_ofSum 45 = .ok (.iload_n 1, 1) := by decide +kernel
theorem dX8_ofSum_46 : decode cX8_ofSum 46 = .ok (.iload 4, 2) := by decide +kernel
theorem dX8_ofSum_48 : decode cX8_ofSum 48 = .ok (.imul, 1) := by decide +kernel
theorem dX8_ofSum_49 : decode cX8_ofSum 49 = .ok (.iload_n 3, 1) := by decide +kernel
theorem dX8_ofSum_50 : decode cX8_ofSum 50 = .ok (.iload_n 2, 1) := by decide +kernel
theorem dX8_ofSum_51 : decode cX8_ofSum 51 = .ok (.imul, 1) := by decide +kernel
theorem dX8_ofSum_52 : decode cX8_ofSum 52 = .ok (.iadd, 1) := by decide +kernel
theorem dX8_ofSum_53 : decode cX8_ofSum 53 = .ok (.ineg, 1) := by decide +kernel
theorem dX8_ofSum_54 : decode cX8_ofSum 54 = .ok (.ireturn, 1) := by decide +kernel
theorem dX8_ofSum_55 : decode cX8_ofSum 55 = .ok (.iload_n 2, 1) := by decide +kernel
theorem dX8_ofSum_56 : decode cX8_ofSum 56 = .ok (.iload 4, 2) := by decide +kernel
theorem dX8_ofSum_58 : decode cX8_ofSum 58 = .ok (.imul, 1) := by decide +kernel
theorem dX8_ofSum_59 : decode cX8_ofSum 59 = .ok (.ineg, 1) := by decide +kernel
theorem dX8_ofSum_60 : decode cX8_ofSum 60 = .ok (.ireturn, 1) := by decide +kernel
theorem dX8_ofSum_61 : decode cX8_ofSum 61 = .ok (.iconst 0, 1) := by decide +kernel
theorem dX8_ofSum_62 : decode cX8_ofSum 62 = .ok (.ireturn, 1) := by decide +kernel
theorem dX8_ofProduct_0 : decode cX8_ofProduct 0 = .ok (.iload_n 0, 1) := by decide +kernel
theorem dX8_ofProduct_1 : decode cX8_ofProduct 1 = .ok (.tableswitch 75 1 4 #[31, 35, 55, 64], 31) := by decide +kernel
theorem dX8_ofProduct_32 : decode cX8_ofProduct 32 = .ok (.iload_n 1, 1) := by decide +kernel
theorem dX8_ofProduct_33 : decode cX8_ofProduct 33 = .ok (.iload_n 3, 1) := by decide +kernel
theorem dX8_ofProduct_34 : decode cX8_ofProduct 34 = .ok (.imul, 1) := by decide +kernel
theorem dX8_ofProduct_35 : decode cX8_ofProduct 35 = .ok (.ireturn, 1) := by decide +kernel
theorem dX8_ofProduct_36 : decode cX8_ofProduct 36 = .ok (.iload_n 1, 1) := by decide +kernel
theorem dX8_ofProduct_37 : decode cX8_ofProduct 37 = .ok (.iload_n 1, 1) := by decide +kernel
theorem dX8_ofProduct_38 : decode cX8_ofProduct 38 = .ok (.imul, 1) := by decide +kernel
theorem dX8_ofProduct_39 : decode cX8_ofProduct 39 = .ok (.iload 4, 2) := by decide +kernel
theorem dX8_ofProduct_41 : decode cX8_ofProduct 41 = .ok (.imul, 1) := by decide +kernel
theorem dX8_ofProduct_42 : decode cX8_ofProduct 42 = .ok (.iload_n 3, 1) := by decide +kernel
theorem dX8_ofProduct_43 : decode cX8_ofProduct 43 = .ok (.iload_n 3, 1) := by decide +kernel
theorem dX8_ofProduct_44 : decode cX8_ofProduct 44 = .ok (.imul, 1) := by decide +kernel
theorem dX8_ofProduct_45 : decode cX8_ofProduct 45 = .ok (.iload_n 2, 1) := by decide +kernel
theorem dX8_ofProduct_46 : decode cX8_ofProduct 46 = .ok (.imul, 1) := by decide +kernel
theorem dX8_ofProduct_47 : decode cX8_ofProduct 47 = .ok (.iadd, 1) := by decide +kernel
theorem dX8_ofProduct_48 : decode cX8_ofProduct 48 = .ok (.iconst 2, 1) := by decide +kernel
theorem dX8_ofProduct_49 : decode cX8_ofProduct 49 = .ok (.iload_n 2, 1) := by decide +kernel
theorem dX8_ofProduct_50 : decode cX8_ofProduct 50 = .ok (.imul, 1) := by decide +kernel
theorem dX8_ofProduct_51 : decode cX8_ofProduct 51 = .ok (.iload 4, 2) := by decide +kernel
theorem dX8_ofProduct_53 : decode cX8_ofProduct 53 = .ok (.imul, 1) := by decide +kernel
theorem dX8_ofProduct_54 : decode cX8_ofProduct 54 = .ok (.iadd, 1) := by decide +kernel
theorem dX8_ofProduct_55 : decode cX8_ofProduct 55 = .ok (.ireturn, 1) := by decide +kernel
theorem dX8_ofProduct_56 : decode cX8_ofProduct 56 = .ok (.iload_n 1, 1) := by decide +kernel
theorem dX8_ofProduct_57 : decode cX8_ofProduct 57 = .ok (.iload_n 3, 1) := by decide +kernel
theorem dX8_ofProduct_58 : decode cX8_ofProduct 58 = .ok (.imul, 1) := by decide +kernel
theorem dX8_ofProduct_59 : decode cX8_ofProduct 59 = .ok (.iload_n 2, 1) := by decide +kernel
theorem dX8_ofProduct_60 : decode cX8_ofProduct 60 = .ok (.imul, 1) := by decide +kernel
theorem dX8_ofProduct_61 : decode cX8_ofProduct 61 = .ok (.iload 4, 2) := by decide +kernel
theorem dX8_ofProduct_63 : decode cX8_ofProduct 63 = .ok (.imul, 1) := by decide +kernel
theorem dX8_ofProduct_64 : decode cX8_ofProduct 64 = .ok (.ireturn, 1) := by decide +kernel
theorem dX8_ofProduct_65 : decode cX8_ofProduct 65 = .ok (.iload_n 2, 1) := by decide +kernel
theorem dX8_ofProduct_66 : decode cX8_ofProduct 66 = .ok (.iload_n 2, 1) := by decide +kernel
theorem dX8_ofProduct_67 : decode cX8_ofProduct 67 = .ok (.imul, 1) := by decide +kernel
theorem dX8_ofProduct_68 : decode cX8_ofProduct 68 = .ok (.iload 4, 2) := by decide +kernel
theorem dX8_ofProduct_70 : decode cX8_ofProduct 70 = .ok (.imul, 1) := by decide +kernel
theorem dX8_ofProduct_71 : decode cX8_ofProduct 71 = .ok (.iload 4, 2) := by decide +kernel
theorem dX8_ofProduct_73 : decode cX8_ofProduct 73 = .ok (.imul, 1) := by decide +kernel
theorem dX8_ofProduct_74 : decode cX8_ofProduct 74 = .ok (.ineg, 1) := by decide +kernel
theorem dX8_ofProduct_75 : decode cX8_ofProduct 75 = .ok (.ireturn, 1) := by decide +kernel
theorem dX8_ofProduct_76 : decode cX8_ofProduct 76 = .ok (.iconst 0, 1) := by decide +kernel
theorem dX8_ofProduct_77 : decode cX8_ofProduct 77 = .ok (.ireturn, 1) := by decide +kernel
theorem dX9_init_0 : decode cX9_init 0 = .ok (.aload_n 0, 1) := by decide +kernel
theorem dX9_init_1 : decode cX9_init 1 = .ok (.invokespecial 3, 3) := by decide +kernel
theorem dX9_init_4 : decode cX9_init 4 = .ok (.aload_n 0, 1) := by decide +kernel
theorem dX9_init_5 : decode cX9_init 5 = .ok (.sipush 1608, 3) := by decide +kernel
theorem dX9_init_8 : decode cX9_init 8 = .ok (.newarray .int, 2) := by decide +kernel
theorem dX9_init_10 : decode cX9_init 10 = .ok (.putfield 11, 3) := by decide +kernel
theorem dX9_init_13 : decode cX9_init 13 = .ok (.return_, 1) := by decide +kernel
theorem dX9_forgetFrom_0 : decode cX9_forgetFrom 0 = .ok (.aload_n 0, 1) := by decide +kernel
theorem dX9_forgetFrom_1 : decode cX9_forgetFrom 1 = .ok (.aload_n 0, 1) := by decide +kernel
theorem dX9_forgetFrom_2 : decode cX9_forgetFrom 2 = .ok (.getfield 15, 3) := by decide +kernel
theorem dX9_forgetFrom_5 : decode cX9_forgetFrom 5 = .ok (.iload_n 1, 1) := by decide +kernel
theorem dX9_forgetFrom_6 : decode cX9_forgetFrom 6 = .ok (.invokestatic 19, 3) := by decide +kernel
theorem dX9_forgetFrom_9 : decode cX9_forgetFrom 9 = .ok (.putfield 15, 3) := by decide +kernel
theorem dX9_forgetFrom_12 : decode cX9_forgetFrom 12 = .ok (.return_, 1) := by decide +kernel
theorem dX9_at_0 : decode cX9_at 0 = .ok (.aload_n 0, 1) := by decide +kernel
theorem dX9_at_1 : decode cX9_at 1 = .ok (.getfield 15, 3) := by decide +kernel
theorem dX9_at_4 : decode cX9_at 4 = .ok (.iload_n 2, 1) := by decide +kernel
theorem dX9_at_5 : decode cX9_at 5 = .ok (.if_icmp .gt 34, 3) := by decide +kernel
theorem dX9_at_8 : decode cX9_at 8 = .ok (.aload_n 0, 1) := by decide +kernel
theorem dX9_at_9 : decode cX9_at 9 = .ok (.getfield 15, 3) := by decide +kernel
theorem dX9_at_12 : decode cX9_at 12 = .ok (.bipush 8, 2) := by decide +kernel
theorem dX9_at_14 : decode cX9_at 14 = .ok (.if_icmp .ge 25, 3) := by decide +kernel
theorem dX9_at_17 : decode cX9_at 17 = .ok (.aload_n 0, 1) := by decide +kernel
theorem dX9_at_18 : decode cX9_at 18 = .ok (.aload_n 1, 1) := by decide +kernel
theorem dX9_at_19 : decode cX9_at 19 = .ok (.aload_n 0, 1) := by decide +kernel
theorem dX9_at_20 : decode cX9_at 20 = .ok (.getfield 15, 3) := by decide +kernel
theorem dX9_at_23 : decode cX9_at 23 = .ok (.invokevirtual 25, 3) := by decide +kernel
theorem dX9_at_26 : decode cX9_at 26 = .ok (.aload_n 0, 1) := by decide +kernel
theorem dX9_at_27 : decode cX9_at 27 = .ok (.dup, 1) := by decide +kernel
theorem dX9_at_28 : decode cX9_at 28 = .ok (.getfield 15, 3) := by decide +kernel
theorem dX9_at_31 : decode cX9_at 31 = .ok (.iconst 1, 1) := by decide +kernel
theorem dX9_at_32 : decode cX9_at 32 = .ok (.iadd, 1) := by decide +kernel
theorem dX9_at_33 : decode cX9_at 33 = .ok (.putfield 15, 3) := by decide +kernel
theorem dX9_at_36 : decode cX9_at 36 = .ok (.goto (-36), 3) := by decide +kernel
theorem dX9_at_39 : decode cX9_at 39 = .ok (.aload_n 0, 1) := by decide +kernel
theorem dX9_at_40 : decode cX9_at 40 = .ok (.iload_n 2, 1) := by decide +kernel
theorem dX9_at_41 : decode cX9_at 41 = .ok (.iload_n 3, 1) := by decide +kernel
theorem dX9_at_42 : decode cX9_at 42 = .ok (.invokevirtual 29, 3) := by decide +kernel
theorem dX9_at_45 : decode cX9_at 45 = .ok (.ireturn, 1) := by decide +kernel
theorem dX9_valueAt_0 : decode cX9_valueAt 0 = .ok (.iload_n 1, 1) := by decide +kernel
theorem dX9_valueAt_1 : decode cX9_valueAt 1 = .ok (.ifCond .lt 24, 3) := by decide +kernel
theorem dX9_valueAt_4 : decode cX9_valueAt 4 = .ok (.iload_n 1, 1) := by decide +kernel
theorem dX9_valueAt_5 : decode cX9_valueAt 5 = .ok (.bipush 8, 2) := by decide +kernel
theorem dX9_valueAt_7 : decode cX9_valueAt 7 = .ok (.if_icmp .ge 18, 3) := by decide +kernel
theorem dX9_valueAt_10 : decode cX9_valueAt 10 = .ok (.iload_n 2, 1) := by decide +kernel
theorem dX9_valueAt_11 : decode cX9_valueAt 11 = .ok (.ifCond .lt 14, 3) := by decide +kernel
theorem dX9_valueAt_14 : decode cX9_valueAt 14 = .ok (.iload_n 2, 1) := by decide +kernel
theorem dX9_valueAt_15 : decode cX9_valueAt 15 = .ok (.sipush 200, 3) := by decide +kernel
theorem dX9_valueAt_18 : decode cX9_valueAt 18 = .ok (.if_icmp .gt 7, 3) := by decide +kernel
theorem dX9_valueAt_21 : decode cX9_valueAt 21 = .ok (.iconst 1, 1) := by decide +kernel
theorem dX9_valueAt_22 : decode cX9_valueAt 22 = .ok (.goto 4, 3) := by decide +kernel
theorem dX9_valueAt_25 : decode cX9_valueAt 25 = .ok (.iconst 0, 1) := by decide +kernel
theorem dX9_valueAt_26 : decode cX9_valueAt 26 = .ok (.istore_n 3, 1) := by decide +kernel
theorem dX9_valueAt_27 : decode cX9_valueAt 27 = .ok (.iload_n 3, 1) := by decide +kernel
theorem dX9_valueAt_28 : decode cX9_valueAt 28 = .ok (.ifCond .eq 18, 3) := by decide +kernel
theorem dX9_valueAt_31 : decode cX9_valueAt 31 = .ok (.aload_n 0, 1) := by decide +kernel
theorem dX9_valueAt_32 : decode cX9_valueAt 32 = .ok (.getfield 11, 3) := by decide +kernel
theorem dX9_valueAt_35 : decode cX9_valueAt 35 = .ok (.iload_n 1, 1) := by decide +kernel
theorem dX9_valueAt_36 : decode cX9_valueAt 36 = .ok (.sipush 201, 3) := by decide +kernel
theorem dX9_valueAt_39 : decode cX9_valueAt 39 = .ok (.imul, 1) := by decide +kernel
theorem dX9_valueAt_40 : decode cX9_valueAt 40 = .ok (.iload_n 2, 1) := by decide +kernel
theorem dX9_valueAt_41 : decode cX9_valueAt 41 = .ok (.iadd, 1) := by decide +kernel
theorem dX9_valueAt_42 : decode cX9_valueAt 42 = .ok (.iaload, 1) := by decide +kernel
theorem dX9_valueAt_43 : decode cX9_valueAt 43 = .ok (.goto 5, 3) := by decide +kernel
theorem dX9_valueAt_46 : decode cX9_valueAt 46 = .ok (.ldc 32, 2) := by decide +kernel
theorem dX9_valueAt_48 : decode cX9_valueAt 48 = .ok (.ireturn, 1) := by decide +kernel
theorem dX9_fill_0 : decode cX9_fill 0 = .ok (.aload_n 1, 1) := by decide +kernel
theorem dX9_fill_1 : decode cX9_fill 1 = .ok (.iload_n 2, 1) := by decide +kernel
theorem dX9_fill_2 : decode cX9_fill 2 = .ok (.iconst 0, 1) := by decide +kernel
theorem dX9_fill_3 : decode cX9_fill 3 = .ok (.invokevirtual 33, 3) := by decide +kernel
theorem dX9_fill_6 : decode cX9_fill 6 = .ok (.istore_n 3, 1) := by decide +kernel
theorem dX9_fill_7 : decode cX9_fill 7 = .ok (.aload_n 1, 1) := by decide +kernel
theorem dX9_fill_8 : decode cX9_fill 8 = .ok (.iload_n 2, 1) := by decide +kernel
theorem dX9_fill_9 : decode cX9_fill 9 = .ok (.iconst 1, 1) := by decide +kernel
theorem dX9_fill_10 : decode cX9_fill 10 = .ok (.invokevirtual 33, 3) := by decide +kernel
theorem dX9_fill_13 : decode cX9_fill 13 = .ok (.istore 4, 2) := by decide +kernel
theorem dX9_fill_15 : decode cX9_fill 15 = .ok (.aload_n 1, 1) := by decide +kernel
theorem dX9_fill_16 : decode cX9_fill 16 = .ok (.iload_n 2, 1) := by decide +kernel
theorem dX9_fill_17 : decode cX9_fill 17 = .ok (.iconst 2, 1) := by decide +kernel
theorem dX9_fill_18 : decode cX9_fill 18 = .ok (.invokevirtual 33, 3) := by decide +kernel
theorem dX9_fill_21 : decode cX9_fill 21 = .ok (.istore 5, 2) := by decide +kernel
theorem dX9_fill_23 : decode cX9_fill 23 = .ok (.aload_n 1, 1) := by decide +kernel
theorem dX9_fill_24 : decode cX9_fill 24 = .ok (.iload_n 2, 1) := by decide +kernel
theorem dX9_fill_25 : decode cX9_fill 25 = .ok (.invokevirtual 38, 3) := by decide +kernel
theorem dX9_fill_28 : decode cX9_fill 28 = .ok (.istore 6, 2) := by decide +kernel
theorem dX9_fill_30 : decode cX9_fill 30 = .ok (.iload_n 2, 1) := by decide +kernel
theorem dX9_fill_31 : decode cX9_fill 31 = .ok (.sipush 201, 3) := by decide +kernel
theorem dX9_fill_34 : decode cX9_fill 34 = .ok (.imul, 1) := by decide +kernel
theorem dX9_fill_35 : decode cX9_fill 35 = .ok (.istore 7, 2) := by decide +kernel
theorem dX9_fill_37 : decode cX9_fill 37 = .ok (.iload 7, 2) := by decide +kernel
theorem dX9_fill_39 : decode cX9_fill 39 = .ok (.ifCond .lt 17, 3) := by decide +kernel
theorem dX9_fill_42 : decode cX9_fill 42 = .ok (.iload 7, 2) := by decide +kernel
theorem dX9_fill_44 : decode cX9_fill 44 = .ok (.sipush 200, 3) := by decide +kernel
theorem dX9_fill_47 : decode cX9_fill 47 = .ok (.iadd, 1) := by decide +kernel
theorem dX9_fill_48 : decode cX9_fill 48 = .ok (.aload_n 0, 1) := by decide +kernel
theorem dX9_fill_49 : decode cX9_fill 49 = .ok (.getfield 11, 3) := by decide +kernel
theorem dX9_fill_52 : decode cX9_fill 52 = .ok (.arraylength, 1) := by decide +kernel
theorem dX9_fill_53 : decode cX9_fill 53 = .ok (.if_icmp .lt 4, 3) := by decide +kernel
theorem dX9_fill_56 : decode cX9_fill 56 = .ok (.return_, 1) := by decide +kernel
theorem dX9_fill_57 : decode cX9_fill 57 = .ok (.iload 6, 2) := by decide +kernel
theorem dX9_fill_59 : decode cX9_fill 59 = .ok (.ifCond .ne 21, 3) := by decide +kernel
theorem dX9_fill_62 : decode cX9_fill 62 = .ok (.aload_n 0, 1) := by decide +kernel
theorem dX9_fill_63 : decode cX9_fill 63 = .ok (.iload 7, 2) := by decide +kernel
theorem dX9_fill_65 : decode cX9_fill 65 = .ok (.iload_n 3, 1) := by decide +kernel
theorem dX9_fill_66 : decode cX9_fill 66 = .ok (.iload 4, 2) := by decide +kernel
theorem dX9_fill_68 : decode cX9_fill 68 = .ok (.iload 5, 2) := by decide +kernel
theorem dX9_fill_70 : decode cX9_fill 70 = .ok (.aload_n 1, 1) := by decide +kernel
theorem dX9_fill_71 : decode cX9_fill 71 = .ok (.iload_n 2, 1) := by decide +kernel
theorem dX9_fill_72 : decode cX9_fill 72 = .ok (.iconst 3, 1) := by decide +kernel
theorem dX9_fill_73 : decode cX9_fill 73 = .ok (.invokevirtual 33, 3) := by decide +kernel
theorem dX9_fill_76 : decode cX9_fill 76 = .ok (.invokevirtual 42, 3) := by decide +kernel
theorem dX9_fill_79 : decode cX9_fill 79 = .ok (.return_, 1) := by decide +kernel
theorem dX9_fill_80 : decode cX9_fill 80 = .ok (.iconst 0, 1) := by decide +kernel
theorem dX9_fill_81 : decode cX9_fill 81 = .ok (.istore 8, 2) := by decide +kernel
theorem dX9_fill_83 : decode cX9_fill 83 = .ok (.iload 8, 2) := by decide +kernel
theorem dX9_fill_85 : decode cX9_fill 85 = .ok (.sipush 200, 3) := by decide +kernel
theorem dX9_fill_88 : decode cX9_fill 88 = .ok (.if_icmp .gt 32, 3) := by decide +kernel
theorem dX9_fill_91 : decode cX9_fill 91 = .ok (.aload_n 0, 1) := by decide +kernel
theorem dX9_fill_92 : decode cX9_fill 92 = .ok (.getfield 11, 3) := by decide +kernel
theorem dX9_fill_95 : decode cX9_fill 95 = .ok (.iload 7, 2) := by decide +kernel
theorem dX9_fill_97 : decode cX9_fill 97 = .ok (.iload 8, 2) := by decide +kernel
theorem dX9_fill_99 : decode cX9_fill 99 = .ok (.iadd, 1) := by decide +kernel
theorem dX9_fill_100 : decode cX9_fill 100 = .ok (.aload_n 0, 1) := by decide +kernel
theorem dX9_fill_101 : decode cX9_fill 101 = .ok (.iload 6, 2) := by decide +kernel
theorem dX9_fill_103 : decode cX9_fill 103 = .ok (.iload_n 3, 1) := by decide +kernel
theorem dX9_fill_104 : decode cX9_fill 104 = .ok (.iload 4, 2) := by decide +kernel
theorem dX9_fill_106 : decode cX9_fill 106 = .ok (.iload 5, 2) := by decide +kernel
theorem dX9_fill_108 : decode cX9_fill 108 = .ok (.iload 8, 2) := by decide +kernel
theorem dX9_fill_110 : decode cX9_fill 110 = .ok (.invokevirtual 46, 3) := by decide +kernel
theorem dX9_fill_113 : decode cX9_fill 113 = .ok (.iastore, 1) := by decide +kernel
theorem dX9_fill_114 : decode cX9_fill 114 = .ok (.iinc 8 1, 3) := by decide +kernel
theorem dX9_fill_117 : decode cX9_fill 117 = .ok (.goto (-34), 3) := by decide +kernel
theorem dX9_fill_120 : decode cX9_fill 120 = .ok (.return_, 1) := by decide +kernel
theorem dX9_fillTold_0 : decode cX9_fillTold 0 = .ok (.aload_n 0, 1) := by decide +kernel
theorem dX9_fillTold_1 : decode cX9_fillTold 1 = .ok (.getfield 11, 3) := by decide +kernel
theorem dX9_fillTold_4 : decode cX9_fillTold 4 = .ok (.iload_n 1, 1) := by decide +kernel
theorem dX9_fillTold_5 : decode cX9_fillTold 5 = .ok (.iload 4, 2) := by decide +kernel
theorem dX9_fillTold_7 : decode cX9_fillTold 7 = .ok (.iastore, 1) := by decide +kernel
theorem dX9_fillTold_8 : decode cX9_fillTold 8 = .ok (.aload_n 0, 1) := by decide +kernel
theorem dX9_fillTold_9 : decode cX9_fillTold 9 = .ok (.getfield 11, 3) := by decide +kernel
theorem dX9_fillTold_12 : decode cX9_fillTold 12 = .ok (.iload_n 1, 1) := by decide +kernel
theorem dX9_fillTold_13 : decode cX9_fillTold 13 = .ok (.iconst 1, 1) := by decide +kernel
theorem dX9_fillTold_14 : decode cX9_fillTold 14 = .ok (.iadd, 1) := by decide +kernel
theorem dX9_fillTold_15 : decode cX9_fillTold 15 = .ok (.iload 5, 2) := by decide +kernel
theorem dX9_fillTold_17 : decode cX9_fillTold 17 = .ok (.iastore, 1) := by decide +kernel
theorem dX9_fillTold_18 : decode cX9_fillTold 18 = .ok (.iload_n 1, 1) := by decide +kernel
theorem dX9_fillTold_19 : decode cX9_fillTold 19 = .ok (.iconst 2, 1) := by decide +kernel
theorem dX9_fillTold_20 : decode cX9_fillTold 20 = .ok (.iadd, 1) := by decide +kernel
theorem dX9_fillTold_21 : decode cX9_fillTold 21 = .ok (.istore 6, 2) := by decide +kernel
theorem dX9_fillTold_23 : decode cX9_fillTold 23 = .ok (.iload 6, 2) := by decide +kernel
theorem dX9_fillTold_25 : decode cX9_fillTold 25 = .ok (.iload_n 1, 1) := by decide +kernel
theorem dX9_fillTold_26 : decode cX9_fillTold 26 = .ok (.sipush 200, 3) := by decide +kernel
theorem dX9_fillTold_29 : decode cX9_fillTold 29 = .ok (.iadd, 1) := by decide +kernel
theorem dX9_fillTold_30 : decode cX9_fillTold 30 = .ok (.if_icmp .gt 58, 3) := by decide +kernel
theorem dX9_fillTold_33 : decode cX9_fillTold 33 = .ok (.aload_n 0, 1) := by decide +kernel
theorem dX9_fillTold_34 : decode cX9_fillTold 34 = .ok (.getfield 11, 3) := by decide +kernel
theorem dX9_fillTold_37 : decode cX9_fillTold 37 = .ok (.iload 6, 2) := by decide +kernel
theorem dX9_fillTold_39 : decode cX9_fillTold 39 = .ok (.iconst 1, 1) := by decide +kernel
theorem dX9_fillTold_40 : decode cX9_fillTold 40 = .ok (.isub, 1) := by decide +kernel
theorem dX9_fillTold_41 : decode cX9_fillTold 41 = .ok (.iaload, 1) := by decide +kernel
theorem dX9_fillTold_42 : decode cX9_fillTold 42 = .ok (.istore 7, 2) := by decide +kernel
theorem dX9_fillTold_44 : decode cX9_fillTold 44 = .ok (.aload_n 0, 1) := by decide +kernel
theorem dX9_fillTold_45 : decode cX9_fillTold 45 = .ok (.getfield 11, 3) := by decide +kernel
theorem dX9_fillTold_48 : decode cX9_fillTold 48 = .ok (.iload 6, 2) := by decide +kernel
theorem dX9_fillTold_50 : decode cX9_fillTold 50 = .ok (.iconst 2, 1) := by decide +kernel
theorem dX9_fillTold_51 : decode cX9_fillTold 51 = .ok (.isub, 1) := by decide +kernel
theorem dX9_fillTold_52 : decode cX9_fillTold 52 = .ok (.iaload, 1) := by decide +kernel
theorem dX9_fillTold_53 : decode cX9_fillTold 53 = .ok (.istore 8, 2) := by decide +kernel
theorem dX9_fillTold_55 : decode cX9_fillTold 55 = .ok (.aload_n 0, 1) := by decide +kernel
theorem dX9_fillTold_56 : decode cX9_fillTold 56 = .ok (.getfield 11, 3) := by decide +kernel
theorem dX9_fillTold_59 : decode cX9_fillTold 59 = .ok (.iload 6, 2) := by decide +kernel
theorem dX9_fillTold_61 : decode cX9_fillTold 61 = .ok (.iload 8, 2) := by decide +kernel
theorem dX9_fillTold_63 : decode cX9_fillTold 63 = .ok (.iload 7, 2) := by decide +kernel
theorem dX9_fillTold_65 : decode cX9_fillTold 65 = .ok (.iload_n 2, 1) := by decide +kernel
theorem dX9_fillTold_66 : decode cX9_fillTold 66 = .ok (.i2l, 1) := by decide +kernel
theorem dX9_fillTold_67 : decode cX9_fillTold 67 = .ok (.iload 7, 2) := by decide +kernel
theorem dX9_fillTold_69 : decode cX9_fillTold 69 = .ok (.i2l, 1) := by decide +kernel
theorem dX9_fillTold_70 : decode cX9_fillTold 70 = .ok (.lmul, 1) := by decide +kernel
theorem dX9_fillTold_71 : decode cX9_fillTold 71 = .ok (.iload_n 3, 1) := by decide +kernel
theorem dX9_fillTold_72 : decode cX9_fillTold 72 = .ok (.i2l, 1) := by decide +kernel
theorem dX9_fillTold_73 : decode cX9_fillTold 73 = .ok (.iload 8, 2) := by decide +kernel
theorem dX9_fillTold_75 : decode cX9_fillTold 75 = .ok (.i2l, 1) := by decide +kernel
theorem dX9_fillTold_76 : decode cX9_fillTold 76 = .ok (.lmul, 1) := by decide +kernel
theorem dX9_fillTold_77 : decode cX9_fillTold 77 = .ok (.ladd, 1) := by decide +kernel
theorem dX9_fillTold_78 : decode cX9_fillTold 78 = .ok (.invokestatic 50, 3) := by decide +kernel
theorem dX9_fillTold_81 : decode cX9_fillTold 81 = .ok (.iastore, 1) := by decide +kernel
theorem dX9_fillTold_82 : decode cX9_fillTold 82 = .ok (.iinc 6 1, 3) := by decide +kernel
theorem dX9_fillTold_85 : decode cX9_fillTold 85 = .ok (.goto (-62), 3) := by decide +kernel
theorem dX9_fillTold_88 : decode cX9_fillTold 88 = .ok (.return_, 1) := by decide +kernel
theorem dX9_madeAt_0 : decode cX9_madeAt 0 = .ok (.iload_n 1, 1) := by decide +kernel
theorem dX9_madeAt_1 : decode cX9_madeAt 1 = .ok (.iconst 3, 1) := by decide +kernel
theorem dX9_madeAt_2 : decode cX9_madeAt 2 = .ok (.if_icmp .ne 16, 3) := by decide +kernel
theorem dX9_madeAt_5 : decode cX9_madeAt 5 = .ok (.aload_n 0, 1) := by decide +kernel
theorem dX9_madeAt_6 : decode cX9_madeAt 6 = .ok (.iload_n 2, 1) := by decide +kernel
theorem dX9_madeAt_7 : decode cX9_madeAt 7 = .ok (.iload_n 3, 1) := by decide +kernel
theorem dX9_madeAt_8 : decode cX9_madeAt 8 = .ok (.iload 5, 2) := by decide +kernel
theorem dX9_madeAt_10 : decode cX9_madeAt 10 = .ok (.imul, 1) := by decide +kernel
theorem dX9_madeAt_11 : decode cX9_madeAt 11 = .ok (.iload 4, 2) := by decide +kernel
theorem dX9_madeAt_13 : decode cX9_madeAt 13 = .ok (.iadd, 1) := by decide +kernel
theorem dX9_madeAt_14 : decode cX9_madeAt 14 = .ok (.invokevirtual 29, 3) := by decide +kernel
theorem dX9_madeAt_17 : decode cX9_madeAt 17 = .ok (.ireturn, 1) := by decide +kernel
theorem dX9_madeAt_18 : decode cX9_madeAt 18 = .ok (.aload_n 0, 1) := by decide +kernel
theorem dX9_madeAt_19 : decode cX9_madeAt 19 = .ok (.iload_n 2, 1) := by decide +kernel
theorem dX9_madeAt_20 : decode cX9_madeAt 20 = .ok (.iload 5, 2) := by decide +kernel
theorem dX9_madeAt_22 : decode cX9_madeAt 22 = .ok (.invokevirtual 29, 3) := by decide +kernel
theorem dX9_madeAt_25 : decode cX9_madeAt 25 = .ok (.istore 6, 2) := by decide +kernel
theorem dX9_madeAt_27 : decode cX9_madeAt 27 = .ok (.iload_n 1, 1) := by decide +kernel
theorem dX9_madeAt_28 : decode cX9_madeAt 28 = .ok (.iconst 4, 1) := by decide +kernel
theorem dX9_madeAt_29 : decode cX9_madeAt 29 = .ok (.if_icmp .ne 29, 3) := by decide +kernel
theorem dX9_madeAt_32 : decode cX9_madeAt 32 = .ok (.aload_n 0, 1) := by decide +kernel
theorem dX9_madeAt_33 : decode cX9_madeAt 33 = .ok (.iload_n 2, 1) := by decide +kernel
theorem dX9_madeAt_34 : decode cX9_madeAt 34 = .ok (.iload 5, 2) := by decide +kernel
theorem dX9_madeAt_36 : decode cX9_madeAt 36 = .ok (.iconst 1, 1) := by decide +kernel
theorem dX9_madeAt_37 : decode cX9_madeAt 37 = .ok (.iadd, 1) := by decide +kernel
theorem dX9_madeAt_38 : decode cX9_madeAt 38 = .ok (.invokevirtual 29, 3) := by decide +kernel
theorem dX9_madeAt_41 : decode cX9_madeAt 41 = .ok (.istore 7, 2) := by decide +kernel
theorem dX9_madeAt_43 : decode cX9_madeAt 43 = .ok (.iload 6, 2) := by decide +kernel
theorem dX9_madeAt_45 : decode cX9_madeAt 45 = .ok (.iload 7, 2) := by decide +kernel
theorem dX9_madeAt_47 : decode cX9_madeAt 47 = .ok (.iload 7, 2) := by decide +kernel
theorem dX9_madeAt_49 : decode cX9_madeAt 49 = .ok (.i2l, 1) := by decide +kernel
theorem dX9_madeAt_50 : decode cX9_madeAt 50 = .ok (.iload 6, 2) := by decide +kernel
theorem dX9_madeAt_52 : decode cX9_madeAt 52 = .ok (.i2l, 1) := by decide +kernel
theorem dX9_madeAt_53 : decode cX9_madeAt 53 = .ok (.lsub, 1) := by decide +kernel
theorem dX9_madeAt_54 : decode cX9_madeAt 54 = .ok (.invokestatic 50, 3) := by decide +kernel
theorem dX9_madeAt_57 : decode cX9_madeAt 57 = .ok (.ireturn, 1) := by decide +kernel
theorem dX9_madeAt_58 : decode cX9_madeAt 58 = .ok (.aload_n 0, 1) := by decide +kernel
theorem dX9_madeAt_59 : decode cX9_madeAt 59 = .ok (.iload_n 3, 1) := by decide +kernel
theorem dX9_madeAt_60 : decode cX9_madeAt 60 = .ok (.iload 5, 2) := by decide +kernel
theorem dX9_madeAt_62 : decode cX9_madeAt 62 = .ok (.invokevirtual 29, 3) := by decide +kernel
theorem dX9_madeAt_65 : decode cX9_madeAt 65 = .ok (.istore 7, 2) := by decide +kernel
theorem dX9_madeAt_67 : decode cX9_madeAt 67 = .ok (.iload 6, 2) := by decide +kernel
theorem dX9_madeAt_69 : decode cX9_madeAt 69 = .ok (.iload 7, 2) := by decide +kernel
theorem dX9_madeAt_71 : decode cX9_madeAt 71 = .ok (.iload_n 1, 1) := by decide +kernel
theorem dX9_madeAt_72 : decode cX9_madeAt 72 = .ok (.iconst 1, 1) := by decide +kernel
theorem dX9_madeAt_73 : decode cX9_madeAt 73 = .ok (.if_icmp .ne 13, 3) := by decide +kernel
theorem dX9_madeAt_76 : decode cX9_madeAt 76 = .ok (.iload 6, 2) := by decide +kernel
theorem dX9_madeAt_78 : decode cX9_madeAt 78 = .ok (.i2l, 1) := by decide +kernel
theorem dX9_madeAt_79 : decode cX9_madeAt 79 = .ok (.iload 7, 2) := by decide +kernel
theorem dX9_madeAt_81 : decode cX9_madeAt 81 = .ok (.i2l, 1) := by decide +kernel
theorem dX9_madeAt_82 : decode cX9_madeAt 82 = .ok (.ladd, 1) := by decide +kernel
theorem dX9_madeAt_83 : decode cX9_madeAt 83 = .ok (.goto 10, 3) := by decide +kernel
theorem dX9_madeAt_86 : decode cX9_madeAt 86 = .ok (.iload 6, 2) := by decide +kernel
theorem dX9_madeAt_88 : decode cX9_madeAt 88 = .ok (.i2l, 1) := by decide +kernel
theorem dX9_madeAt_89 : decode cX9_madeAt 89 = .ok (.iload 7, 2) := by decide +kernel
theorem dX9_madeAt_91 : decode cX9_madeAt 91 = .ok (.i2l, 1) := by decide +kernel
theorem dX9_madeAt_92 : decode cX9_madeAt 92 = .ok (.lmul, 1) := by decide +kernel
theorem dX9_madeAt_93 : decode cX9_madeAt 93 = .ok (.invokestatic 50, 3) := by decide +kernel
theorem dX9_madeAt_96 : decode cX9_madeAt 96 = .ok (.ireturn, 1) := by decide +kernel
theorem dX9_exactOrFar_0 : decode cX9_exactOrFar 0 = .ok (.iload_n 0, 1) := by decide +kernel
theorem dX9_exactOrFar_1 : decode cX9_exactOrFar 1 = .ok (.ldc 32, 2) := by decide +kernel
theorem dX9_exactOrFar_3 : decode cX9_exactOrFar 3 = .ok (.if_icmp .eq 25, 3) := by decide +kernel
theorem dX9_exactOrFar_6 : decode cX9_exactOrFar 6 = .ok (.iload_n 1, 1) := by decide +kernel
theorem dX9_exactOrFar_7 : decode cX9_exactOrFar 7 = .ok (.ldc 32, 2) := by decide +kernel
theorem dX9_exactOrFar_9 : decode cX9_exactOrFar 9 = .ok (.if_icmp .eq 19, 3) := by decide +kernel
theorem dX9_exactOrFar_12 : decode cX9_exactOrFar 12 = .ok (.lload_n 2, 1) := by decide +kernel
theorem dX9_exactOrFar_13 : decode cX9_exactOrFar 13 = .ok (.ldc2_w 54, 3) := by decide +kernel
theorem dX9_exactOrFar_16 : decode cX9_exactOrFar 16 = .ok (.lcmp, 1) := by decide +kernel
theorem dX9_exactOrFar_17 : decode cX9_exactOrFar 17 = .ok (.ifCond .gt 11, 3) := by decide +kernel
theorem dX9_exactOrFar_20 : decode cX9_exactOrFar 20 = .ok (.lload_n 2, 1) := by decide +kernel
theorem dX9_exactOrFar_21 : decode cX9_exactOrFar 21 = .ok (.ldc2_w 56, 3) := by decide +kernel
theorem dX9_exactOrFar_24 : decode cX9_exactOrFar 24 = .ok (.lcmp, 1) := by decide +kernel
theorem dX9_exactOrFar_25 : decode cX9_exactOrFar 25 = .ok (.ifCond .ge 8, 3) := by decide +kernel
theorem dX9_exactOrFar_28 : decode cX9_exactOrFar 28 = .ok (.ldc 32, 2) := by decide +kernel
theorem dX9_exactOrFar_30 : decode cX9_exactOrFar 30 = .ok (.goto 5, 3) := by decide +kernel
theorem dX9_exactOrFar_33 : decode cX9_exactOrFar 33 = .ok (.lload_n 2, 1) := by decide +kernel
theorem dX9_exactOrFar_34 : decode cX9_exactOrFar 34 = .ok (.l2i, 1) := by decide +kernel
theorem dX9_exactOrFar_35 : decode cX9_exactOrFar 35 = .ok (.ireturn, 1) := by decide +kernel
theorem dJ9_floorMod_7cf53_0 : decode cJ9_floorMod_7cf53 0 = .ok (.iload_n 0, 1) := by decide +kernel
theorem dJ9_floorMod_7cf53_1 : decode cJ9_floorMod_7cf53 1 = .ok (.iload_n 1, 1) := by decide +kernel
theorem dJ9_floorMod_7cf53_2 : decode cJ9_floorMod_7cf53 2 = .ok (.irem, 1) := by decide +kernel
theorem dJ9_floorMod_7cf53_3 : decode cJ9_floorMod_7cf53 3 = .ok (.istore_n 2, 1) := by decide +kernel
theorem dJ9_floorMod_7cf53_4 : decode cJ9_floorMod_7cf53 4 = .ok (.iload_n 0, 1) := by decide +kernel
theorem dJ9_floorMod_7cf53_5 : decode cJ9_floorMod_7cf53 5 = .ok (.iload_n 1, 1) := by decide +kernel
theorem dJ9_floorMod_7cf53_6 : decode cJ9_floorMod_7cf53 6 = .ok (.ixor, 1) := by decide +kernel
theorem dJ9_floorMod_7cf53_7 : decode cJ9_floorMod_7cf53 7 = .ok (.ifCond .ge 11, 3) := by decide +kernel
theorem dJ9_floorMod_7cf53_10 : decode cJ9_floorMod_7cf53 10 = .ok (.iload_n 2, 1) := by decide +kernel
theorem dJ9_floorMod_7cf53_11 : decode cJ9_floorMod_7cf53 11 = .ok (.ifCond .eq 7, 3) := by decide +kernel
theorem dJ9_floorMod_7cf53_14 : decode cJ9_floorMod_7cf53 14 = .ok (.iload_n 2, 1) := by decide +kernel
theorem dJ9_floorMod_7cf53_15 : decode cJ9_floorMod_7cf53 15 = .ok (.iload_n 1, 1) := by decide +kernel
theorem dJ9_floorMod_7cf53_16 : decode cJ9_floorMod_7cf53 16 = .ok (.iadd, 1) := by decide +kernel
theorem dJ9_floorMod_7cf53_17 : decode cJ9_floorMod_7cf53 17 = .ok (.ireturn, 1) := by decide +kernel
theorem dJ9_floorMod_7cf53_18 : decode cJ9_floorMod_7cf53 18 = .ok (.iload_n 2, 1) := by decide +kernel
theorem dJ9_floorMod_7cf53_19 : decode cJ9_floorMod_7cf53 19 = .ok (.ireturn, 1) := by decide +kernel
theorem dJ9_max_7cf53_0 : decode cJ9_max_7cf53 0 = .ok (.iload_n 0, 1) := by decide +kernel
theorem dJ9_max_7cf53_1 : decode cJ9_max_7cf53 1 = .ok (.iload_n 1, 1) := by decide +kernel
theorem dJ9_max_7cf53_2 : decode cJ9_max_7cf53 2 = .ok (.if_icmp .lt 7, 3) := by decide +kernel
theorem dJ9_max_7cf53_5 : decode cJ9_max_7cf53 5 = .ok (.iload_n 0, 1) := by decide +kernel
theorem dJ9_max_7cf53_6 : decode cJ9_max_7cf53 6 = .ok (.goto 4, 3) := by decide +kernel
theorem dJ9_max_7cf53_9 : decode cJ9_max_7cf53 9 = .ok (.iload_n 1, 1) := by decide +kernel
theorem dJ9_max_7cf53_10 : decode cJ9_max_7cf53 10 = .ok (.ireturn, 1) := by decide +kernel
theorem dJ9_min_7cf53_0 : decode cJ9_min_7cf53 0 = .ok (.iload_n 0, 1) := by decide +kernel
theorem dJ9_min_7cf53_1 : decode cJ9_min_7cf53 1 = .ok (.iload_n 1, 1) := by decide +kernel
theorem dJ9_min_7cf53_2 : decode cJ9_min_7cf53 2 = .ok (.if_icmp .gt 7, 3) := by decide +kernel
theorem dJ9_min_7cf53_5 : decode cJ9_min_7cf53 5 = .ok (.iload_n 0, 1) := by decide +kernel
theorem dJ9_min_7cf53_6 : decode cJ9_min_7cf53 6 = .ok (.goto 4, 3) := by decide +kernel
theorem dJ9_min_7cf53_9 : decode cJ9_min_7cf53 9 = .ok (.iload_n 1, 1) := by decide +kernel
theorem dJ9_min_7cf53_10 : decode cJ9_min_7cf53 10 = .ok (.ireturn, 1) := by decide +kernel
end
section
theorem dX10_init_0 : decode cX10_init 0 = .ok (.aload_n 0, 1) := by decide +kernel
theorem dX10_init_1 : decode cX10_init 1 = .ok (.invokespecial 1, 3) := by decide +kernel
theorem dX10_init_4 : decode cX10_init 4 = .ok (.aload_n 0, 1) := by decide +kernel
theorem dX10_init_5 : decode cX10_init 5 = .ok (.new 7, 3) := by decide +kernel
theorem dX10_init_8 : decode cX10_init 8 = .ok (.dup, 1) := by decide +kernel
theorem dX10_init_9 : decode cX10_init 9 = .ok (.invokespecial 9, 3) := by decide +kernel
theorem dX10_init_12 : decode cX10_init 12 = .ok (.putfield 10, 3) := by decide +kernel
theorem dX10_init_15 : decode cX10_init 15 = .ok (.aload_n 0, 1) := by decide +kernel
theorem dX10_init_16 : decode cX10_init 16 = .ok (.new 16, 3) := by decide +kernel
theorem dX10_init_19 : decode cX10_init 19 = .ok (.dup, 1) := by decide +kernel
theorem dX10_init_20 : decode cX10_init 20 = .ok (.bipush 8, 2) := by decide +kernel
theorem dX10_init_22 : decode cX10_init 22 = .ok (.invokespecial 18, 3) := by decide +kernel
theorem dX10_init_25 : decode cX10_init 25 = .ok (.putfield 21, 3) := by decide +kernel
theorem dX10_init_28 : decode cX10_init 28 = .ok (.aload_n 0, 1) := by decide +kernel
theorem dX10_init_29 : decode cX10_init 29 = .ok (.new 16, 3) := by decide +kernel
theorem dX10_init_32 : decode cX10_init 32 = .ok (.dup, 1) := by decide +kernel
theorem dX10_init_33 : decode cX10_init 33 = .ok (.bipush 47, 2) := by decide +kernel
theorem dX10_init_35 : decode cX10_init 35 = .ok (.invokespecial 18, 3) := by decide +kernel
theorem dX10_init_38 : decode cX10_init 38 = .ok (.putfield 25, 3) := by decide +kernel
theorem dX10_init_41 : decode cX10_init 41 = .ok (.aload_n 0, 1) := by decide +kernel
theorem dX10_init_42 : decode cX10_init 42 = .ok (.new 28, 3) := by decide +kernel
theorem dX10_init_45 : decode cX10_init 45 = .ok (.dup, 1) := by decide +kernel
theorem dX10_init_46 : decode cX10_init 46 = .ok (.invokespecial 30, 3) := by decide +kernel
theorem dX10_init_49 : decode cX10_init 49 = .ok (.putfield 31, 3) := by decide +kernel
theorem dX10_init_52 : decode cX10_init 52 = .ok (.aload_n 0, 1) := by decide +kernel
theorem dX10_init_53 : decode cX10_init 53 = .ok (.new 35, 3) := by decide +kernel
theorem dX10_init_56 : decode cX10_init 56 = .ok (.dup, 1) := by decide +kernel
theorem dX10_init_57 : decode cX10_init 57 = .ok (.invokespecial 37, 3) := by decide +kernel
theorem dX10_init_60 : decode cX10_init 60 = .ok (.putfield 38, 3) := by decide +kernel
theorem dX10_init_63 : decode cX10_init 63 = .ok (.aload_n 0, 1) := by decide +kernel
theorem dX10_init_64 : decode cX10_init 64 = .ok (.new 42, 3) := by decide +kernel
theorem dX10_init_67 : decode cX10_init 67 = .ok (.dup, 1) := by decide +kernel
theorem dX10_init_68 : decode cX10_init 68 = .ok (.invokespecial 44, 3) := by decide +kernel
theorem dX10_init_71 : decode cX10_init 71 = .ok (.putfield 45, 3) := by decide +kernel
theorem dX10_init_74 : decode cX10_init 74 = .ok (.aload_n 0, 1) := by decide +kernel
theorem dX10_init_75 : decode cX10_init 75 = .ok (.new 49, 3) := by decide +kernel
theorem dX10_init_78 : decode cX10_init 78 = .ok (.dup, 1) := by decide +kernel
theorem dX10_init_79 : decode cX10_init 79 = .ok (.invokespecial 51, 3) := by decide +kernel
theorem dX10_init_82 : decode cX10_init 82 = .ok (.putfield 52, 3) := by decide +kernel
theorem dX10_init_85 : decode cX10_init 85 = .ok (.aload_n 0, 1) := by decide +kernel
theorem dX10_init_86 : decode cX10_init 86 = .ok (.new 56, 3) := by decide +kernel
theorem dX10_init_89 : decode cX10_init 89 = .ok (.dup, 1) := by decide +kernel
theorem dX10_init_90 : decode cX10_init 90 = .ok (.invokespecial 58, 3) := by decide +kernel
theorem dX10_init_93 : decode cX10_init 93 = .ok (.putfield 59, 3) := by decide +kernel
theorem dX10_init_96 : decode cX10_init 96 = .ok (.aload_n 0, 1) := by decide +kernel
theorem dX10_init_97 : decode cX10_init 97 = .ok (.new 63, 3) := by decide +kernel
theorem dX10_init_100 : decode cX10_init 100 = .ok (.dup, 1) := by decide +kernel
theorem dX10_init_101 : decode cX10_init 101 = .ok (.iconst 5, 1) := by decide +kernel
theorem dX10_init_102 : decode cX10_init 102 = .ok (.invokespecial 65, 3) := by decide +kernel
theorem dX10_init_105 : decode cX10_init 105 = .ok (.putfield 66, 3) := by decide +kernel
theorem dX10_init_108 : decode cX10_init 108 = .ok (.aload_n 0, 1) := by decide +kernel
theorem dX10_init_109 : decode cX10_init 109 = .ok (.new 7, 3) := by decide +kernel
theorem dX10_init_112 : decode cX10_init 112 = .ok (.dup, 1) := by decide +kernel
theorem dX10_init_113 : decode cX10_init 113 = .ok (.invokespecial 9, 3) := by decide +kernel
theorem dX10_init_116 : decode cX10_init 116 = .ok (.putfield 70, 3) := by decide +kernel
theorem dX10_init_119 : decode cX10_init 119 = .ok (.aload_n 0, 1) := by decide +kernel
theorem dX10_init_120 : decode cX10_init 120 = .ok (.new 16, 3) := by decide +kernel
theorem dX10_init_123 : decode cX10_init 123 = .ok (.dup, 1) := by decide +kernel
theorem dX10_init_124 : decode cX10_init 124 = .ok (.bipush 8, 2) := by decide +kernel
theorem dX10_init_126 : decode cX10_init 126 = .ok (.invokespecial 18, 3) := by decide +kernel
theorem dX10_init_129 : decode cX10_init 129 = .ok (.putfield 73, 3) := by decide +kernel
theorem dX10_init_132 : decode cX10_init 132 = .ok (.return_, 1) := by decide +kernel
theorem dX10_letter_0 : decode cX10_letter 0 = .ok (.iload_n 1, 1) := by decide +kernel
theorem dX10_letter_1 : decode cX10_letter 1 = .ok (.bipush 32, 2) := by decide +kernel
theorem dX10_letter_3 : decode cX10_letter 3 = .ok (.bipush 126, 2) := by decide +kernel
theorem dX10_letter_5 : decode cX10_letter 5 = .ok (.invokestatic 76, 3) := by decide +kernel
theorem dX10_letter_8 : decode cX10_letter 8 = .ok (.ifCond .ne 6, 3) := by decide +kernel
theorem dX10_letter_11 : decode cX10_letter 11 = .ok (.ldc 80, 2) := by decide +kernel
theorem dX10_letter_13 : decode cX10_letter 13 = .ok (.ireturn, 1) := by decide +kernel
theorem dX10_letter_14 : decode cX10_letter 14 = .ok (.aload_n 0, 1) := by decide +kernel
theorem dX10_letter_15 : decode cX10_letter 15 = .ok (.getfield 25, 3) := by decide +kernel
theorem dX10_letter_18 : decode cX10_letter 18 = .ok (.iload_n 1, 1) := by decide +kernel
theorem dX10_letter_19 : decode cX10_letter 19 = .ok (.invokevirtual 81, 3) := by decide +kernel
theorem dX10_letter_22 : decode cX10_letter 22 = .ok (.ifCond .eq 13, 3) := by decide +kernel
theorem dX10_letter_25 : decode cX10_letter 25 = .ok (.aload_n 0, 1) := by decide +kernel
theorem dX10_letter_26 : decode cX10_letter 26 = .ok (.getfield 25, 3) := by decide +kernel
theorem dX10_letter_29 : decode cX10_letter 29 = .ok (.invokevirtual 85, 3) := by decide +kernel
theorem dX10_letter_32 : decode cX10_letter 32 = .ok (.goto 5, 3) := by decide +kernel
theorem dX10_letter_35 : decode cX10_letter 35 = .ok (.ldc 89, 2) := by decide +kernel
theorem dX10_letter_37 : decode cX10_letter 37 = .ok (.ireturn, 1) := by decide +kernel
theorem dX10_blank_0 : decode cX10_blank 0 = .ok (.aload_n 0, 1) := by decide +kernel
theorem dX10_blank_1 : decode cX10_blank 1 = .ok (.getfield 25, 3) := by decide +kernel
theorem dX10_blank_4 : decode cX10_blank 4 = .ok (.invokevirtual 85, 3) := by decide +kernel
theorem dX10_blank_7 : decode cX10_blank 7 = .ok (.istore_n 1, 1) := by decide +kernel
theorem dX10_blank_8 : decode cX10_blank 8 = .ok (.aload_n 0, 1) := by decide +kernel
theorem dX10_blank_9 : decode cX10_blank 9 = .ok (.getfield 25, 3) := by decide +kernel
theorem dX10_blank_12 : decode cX10_blank 12 = .ok (.invokevirtual 90, 3) := by decide +kernel
theorem dX10_blank_15 : decode cX10_blank 15 = .ok (.iload_n 1, 1) := by decide +kernel
theorem dX10_blank_16 : decode cX10_blank 16 = .ok (.ireturn, 1) := by decide +kernel
theorem dX10_fault_0 : decode cX10_fault 0 = .ok (.aload_n 0, 1) := by decide +kernel
theorem dX10_fault_1 : decode cX10_fault 1 = .ok (.getfield 31, 3) := by decide +kernel
theorem dX10_fault_4 : decode cX10_fault 4 = .ok (.aload_n 0, 1) := by decide +kernel
theorem dX10_fault_5 : decode cX10_fault 5 = .ok (.getfield 25, 3) := by decide +kernel
theorem dX10_fault_8 : decode cX10_fault 8 = .ok (.invokevirtual 93, 3) := by decide +kernel
theorem dX10_fault_11 : decode cX10_fault 11 = .ok (.ireturn, 1) := by decide +kernel
theorem dX10_rows_0 : decode cX10_rows 0 = .ok (.aload_n 0, 1) := by decide +kernel
theorem dX10_rows_1 : decode cX10_rows 1 = .ok (.getfield 31, 3) := by decide +kernel
theorem dX10_rows_4 : decode cX10_rows 4 = .ok (.aload_n 0, 1) := by decide +kernel
theorem dX10_rows_5 : decode cX10_rows 5 = .ok (.getfield 25, 3) := by decide +kernel
theorem dX10_rows_8 : decode cX10_rows 8 = .ok (.invokevirtual 97, 3) := by decide +kernel
theorem dX10_rows_11 : decode cX10_rows 11 = .ok (.ifCond .ne 6, 3) := by decide +kernel
theorem dX10_rows_14 : decode cX10_rows 14 = .ok (.ldc 101, 2) := by decide +kernel
theorem dX10_rows_16 : decode cX10_rows 16 = .ok (.ireturn, 1) := by decide +kernel
theorem dX10_rows_17 : decode cX10_rows 17 = .ok (.aload_n 0, 1) := by decide +kernel
theorem dX10_rows_18 : decode cX10_rows 18 = .ok (.getfield 10, 3) := by decide +kernel
theorem dX10_rows_21 : decode cX10_rows 21 = .ok (.aload_n 0, 1) := by decide +kernel
theorem dX10_rows_22 : decode cX10_rows 22 = .ok (.getfield 31, 3) := by decide +kernel
theorem dX10_rows_25 : decode cX10_rows 25 = .ok (.invokevirtual 102, 3) := by decide +kernel
theorem dX10_rows_28 : decode cX10_rows 28 = .ok (.invokevirtual 106, 3) := by decide +kernel
theorem dX10_rows_31 : decode cX10_rows 31 = .ok (.aload_n 0, 1) := by decide +kernel
theorem dX10_rows_32 : decode cX10_rows 32 = .ok (.iconst 0, 1) := by decide +kernel
theorem dX10_rows_33 : decode cX10_rows 33 = .ok (.invokevirtual 110, 3) := by decide +kernel
theorem dX10_rows_36 : decode cX10_rows 36 = .ok (.aload_n 0, 1) := by decide +kernel
theorem dX10_rows_37 : decode cX10_rows 37 = .ok (.getfield 25, 3) := by decide +kernel
theorem dX10_rows_40 : decode cX10_rows 40 = .ok (.invokevirtual 90, 3) := by decide +kernel
theorem dX10_rows_43 : decode cX10_rows 43 = .ok (.aload_n 0, 1) := by decide +kernel
theorem dX10_rows_44 : decode cX10_rows 44 = .ok (.iconst 0, 1) := by decide +kernel
theorem dX10_rows_45 : decode cX10_rows 45 = .ok (.putfield 113, 3) := by decide +kernel
theorem dX10_rows_48 : decode cX10_rows 48 = .ok (.aload_n 0, 1) := by decide +kernel
theorem dX10_rows_49 : decode cX10_rows 49 = .ok (.dup, 1) := by decide +kernel
theorem dX10_rows_50 : decode cX10_rows 50 = .ok (.getfield 117, 3) := by decide +kernel
theorem dX10_rows_53 : decode cX10_rows 53 = .ok (.iconst 1, 1) := by decide +kernel
theorem dX10_rows_54 : decode cX10_rows 54 = .ok (.iadd, 1) := by decide +kernel
theorem dX10_rows_55 : decode cX10_rows 55 = .ok (.putfield 117, 3) := by decide +kernel
theorem dX10_rows_58 : decode cX10_rows 58 = .ok (.aload_n 0, 1) := by decide +kernel
theorem dX10_rows_59 : decode cX10_rows 59 = .ok (.getfield 10, 3) := by decide +kernel
theorem dX10_rows_62 : decode cX10_rows 62 = .ok (.invokevirtual 121, 3) := by decide +kernel
theorem dX10_rows_65 : decode cX10_rows 65 = .ok (.ireturn, 1) := by decide +kernel
theorem dX10_row_0 : decode cX10_row 0 = .ok (.aload_n 0, 1) := by decide +kernel
theorem dX10_row_1 : decode cX10_row 1 = .ok (.getfield 10, 3) := by decide +kernel
theorem dX10_row_4 : decode cX10_row 4 = .ok (.iload_n 1, 1) := by decide +kernel
theorem dX10_row_5 : decode cX10_row 5 = .ok (.invokevirtual 122, 3) := by decide +kernel
theorem dX10_row_8 : decode cX10_row 8 = .ok (.ifCond .ne 6, 3) := by decide +kernel
theorem dX10_row_11 : decode cX10_row 11 = .ok (.ldc 125, 2) := by decide +kernel
theorem dX10_row_13 : decode cX10_row 13 = .ok (.ireturn, 1) := by decide +kernel
theorem dX10_row_14 : decode cX10_row 14 = .ok (.iload_n 2, 1) := by decide +kernel
theorem dX10_row_15 : decode cX10_row 15 = .ok (.iconst 0, 1) := by decide +kernel
theorem dX10_row_16 : decode cX10_row 16 = .ok (.iconst 4, 1) := by decide +kernel
theorem dX10_row_17 : decode cX10_row 17 = .ok (.invokestatic 76, 3) := by decide +kernel
theorem dX10_row_20 : decode cX10_row 20 = .ok (.ifCond .ne 6, 3) := by decide +kernel
theorem dX10_row_23 : decode cX10_row 23 = .ok (.ldc 80, 2) := by decide +kernel
theorem dX10_row_25 : decode cX10_row 25 = .ok (.ireturn, 1) := by decide +kernel
theorem dX10_row_26 : decode cX10_row 26 = .ok (.aload_n 0, 1) := by decide +kernel
theorem dX10_row_27 : decode cX10_row 27 = .ok (.getfield 10, 3) := by decide +kernel
theorem dX10_row_30 : decode cX10_row 30 = .ok (.iload_n 1, 1) := by decide +kernel
theorem dX10_row_31 : decode cX10_row 31 = .ok (.invokevirtual 126, 3) := by decide +kernel
theorem dX10_row_34 : decode cX10_row 34 = .ok (.istore_n 3, 1) := by decide +kernel
theorem dX10_row_35 : decode cX10_row 35 = .ok (.iload_n 2, 1) := by decide +kernel
theorem dX10_row_36 : decode cX10_row 36 = .ok (.ifCond .ne 5, 3) := by decide +kernel
theorem dX10_row_39 : decode cX10_row 39 = .ok (.iload_n 3, 1) := by decide +kernel
theorem dX10_row_40 : decode cX10_row 40 = .ok (.ireturn, 1) := by decide +kernel
theorem dX10_row_41 : decode cX10_row 41 = .ok (.iload_n 2, 1) := by decide +kernel
theorem dX10_row_42 : decode cX10_row 42 = .ok (.iload_n 3, 1) := by decide +kernel
theorem dX10_row_43 : decode cX10_row 43 = .ok (.invokestatic 130, 3) := by decide +kernel
theorem dX10_row_46 : decode cX10_row 46 = .ok (.if_icmp .gt 17, 3) := by decide +kernel
theorem dX10_row_49 : decode cX10_row 49 = .ok (.aload_n 0, 1) := by decide +kernel
theorem dX10_row_50 : decode cX10_row 50 = .ok (.getfield 10, 3) := by decide +kernel
theorem dX10_row_53 : decode cX10_row 53 = .ok (.iload_n 1, 1) := by decide +kernel
theorem dX10_row_54 : decode cX10_row 54 = .ok (.iload_n 2, 1) := by decide +kernel
theorem dX10_row_55 : decode cX10_row 55 = .ok (.iconst 1, 1) := by decide +kernel
theorem dX10_row_56 : decode cX10_row 56 = .ok (.isub, 1) := by decide +kernel
theorem dX10_row_57 : decode cX10_row 57 = .ok (.invokevirtual 133, 3) := by decide +kernel
theorem dX10_row_60 : decode cX10_row 60 = .ok (.goto 5, 3) := by decide +kernel
theorem dX10_row_63 : decode cX10_row 63 = .ok (.ldc 137, 2) := by decide +kernel
theorem dX10_row_65 : decode cX10_row 65 = .ok (.ireturn, 1) := by decide +kernel
theorem dX10_as_0 : decode cX10_as 0 = .ok (.aload_n 0, 1) := by decide +kernel
theorem dX10_as_1 : decode cX10_as 1 = .ok (.getfield 10, 3) := by decide +kernel
theorem dX10_as_4 : decode cX10_as 4 = .ok (.iload_n 1, 1) := by decide +kernel
theorem dX10_as_5 : decode cX10_as 5 = .ok (.invokevirtual 122, 3) := by decide +kernel
theorem dX10_as_8 : decode cX10_as 8 = .ok (.ifCond .ne 6, 3) := by decide +kernel
theorem dX10_as_11 : decode cX10_as 11 = .ok (.ldc 125, 2) := by decide +kernel
theorem dX10_as_13 : decode cX10_as 13 = .ok (.ireturn, 1) := by decide +kernel
theorem dX10_as_14 : decode cX10_as 14 = .ok (.iload_n 2, 1) := by decide +kernel
theorem dX10_as_15 : decode cX10_as 15 = .ok (.iconst 0, 1) := by decide +kernel
theorem dX10_as_16 : decode cX10_as 16 = .ok (.bipush 6, 2) := by decide +kernel
theorem dX10_as_18 : decode cX10_as 18 = .ok (.invokestatic 76, 3) := by decide +kernel
theorem dX10_as_21 : decode cX10_as 21 = .ok (.ifCond .ne 6, 3) := by decide +kernel
theorem dX10_as_24 : decode cX10_as 24 = .ok (.ldc 80, 2) := by decide +kernel
theorem dX10_as_26 : decode cX10_as 26 = .ok (.ireturn, 1) := by decide +kernel
theorem dX10_as_27 : decode cX10_as 27 = .ok (.aload_n 0, 1) := by decide +kernel
theorem dX10_as_28 : decode cX10_as 28 = .ok (.getfield 10, 3) := by decide +kernel
theorem dX10_as_31 : decode cX10_as 31 = .ok (.iload_n 1, 1) := by decide +kernel
theorem dX10_as_32 : decode cX10_as 32 = .ok (.invokevirtual 126, 3) := by decide +kernel
theorem dX10_as_35 : decode cX10_as 35 = .ok (.istore_n 3, 1) := by decide +kernel
theorem dX10_as_36 : decode cX10_as 36 = .ok (.iload_n 3, 1) := by decide +kernel
theorem dX10_as_37 : decode cX10_as 37 = .ok (.iload_n 2, 1) := by decide +kernel
theorem dX10_as_38 : decode cX10_as 38 = .ok (.if_icmp .eq 11, 3) := by decide +kernel
theorem dX10_as_41 : decode cX10_as 41 = .ok (.iload_n 3, 1) := by decide +kernel
theorem dX10_as_42 : decode cX10_as 42 = .ok (.invokestatic 138, 3) := by decide +kernel
theorem dX10_as_45 : decode cX10_as 45 = .ok (.iload_n 2, 1) := by decide +kernel
theorem dX10_as_46 : decode cX10_as 46 = .ok (.if_icmp .ne 7, 3) := by decide +kernel
theorem dX10_as_49 : decode cX10_as 49 = .ok (.iload_n 3, 1) := by decide +kernel
theorem dX10_as_50 : decode cX10_as 50 = .ok (.goto 5, 3) := by decide +kernel
theorem dX10_as_53 : decode cX10_as 53 = .ok (.ldc 137, 2) := by decide +kernel
theorem dX10_as_55 : decode cX10_as 55 = .ok (.ireturn, 1) := by decide +kernel
theorem dX10_term_0 : decode cX10_term 0 = .ok (.aload_n 0, 1) := by decide +kernel
theorem dX10_term_1 : decode cX10_term 1 = .ok (.getfield 10, 3) := by decide +kernel
theorem dX10_term_4 : decode cX10_term 4 = .ok (.iload_n 1, 1) := by decide +kernel
theorem dX10_term_5 : decode cX10_term 5 = .ok (.invokevirtual 122, 3) := by decide +kernel
theorem dX10_term_8 : decode cX10_term 8 = .ok (.ifCond .ne 6, 3) := by decide +kernel
theorem dX10_term_11 : decode cX10_term 11 = .ok (.ldc 125, 2) := by decide +kernel
theorem dX10_term_13 : decode cX10_term 13 = .ok (.ireturn, 1) := by decide +kernel
theorem dX10_term_14 : decode cX10_term 14 = .ok (.iload_n 2, 1) := by decide +kernel
theorem dX10_term_15 : decode cX10_term 15 = .ok (.iconst 0, 1) := by decide +kernel
theorem dX10_term_16 : decode cX10_term 16 = .ok (.sipush 200, 3) := by decide +kernel
theorem dX10_term_19 : decode cX10_term 19 = .ok (.invokestatic 76, 3) := by decide +kernel
theorem dX10_term_22 : decode cX10_term 22 = .ok (.ifCond .ne 6, 3) := by decide +kernel
theorem dX10_term_25 : decode cX10_term 25 = .ok (.ldc 80, 2) := by decide +kernel
theorem dX10_term_27 : decode cX10_term 27 = .ok (.ireturn, 1) := by decide +kernel
theorem dX10_term_28 : decode cX10_term 28 = .ok (.aload_n 0, 1) := by decide +kernel
theorem dX10_term_29 : decode cX10_term 29 = .ok (.getfield 45, 3) := by decide +kernel
theorem dX10_term_32 : decode cX10_term 32 = .ok (.aload_n 0, 1) := by decide +kernel
theorem dX10_term_33 : decode cX10_term 33 = .ok (.getfield 10, 3) := by decide +kernel
theorem dX10_term_36 : decode cX10_term 36 = .ok (.iload_n 1, 1) := by decide +kernel
theorem dX10_term_37 : decode cX10_term 37 = .ok (.iload_n 2, 1) := by decide +kernel
theorem dX10_term_38 : decode cX10_term 38 = .ok (.invokevirtual 141, 3) := by decide +kernel
theorem dX10_term_41 : decode cX10_term 41 = .ok (.ireturn, 1) := by decide +kernel
theorem dX10_by_0 : decode cX10_by 0 = .ok (.aload_n 0, 1) := by decide +kernel
theorem dX10_by_1 : decode cX10_by 1 = .ok (.getfield 10, 3) := by decide +kernel
theorem dX10_by_4 : decode cX10_by 4 = .ok (.iload_n 1, 1) := by decide +kernel
theorem dX10_by_5 : decode cX10_by 5 = .ok (.invokevirtual 122, 3) := by decide +kernel
theorem dX10_by_8 : decode cX10_by 8 = .ok (.ifCond .ne 6, 3) := by decide +kernel
theorem dX10_by_11 : decode cX10_by 11 = .ok (.ldc 125, 2) := by decide +kernel
theorem dX10_by_13 : decode cX10_by 13 = .ok (.ireturn, 1) := by decide +kernel
theorem dX10_by_14 : decode cX10_by 14 = .ok (.iload_n 2, 1) := by decide +kernel
theorem dX10_by_15 : decode cX10_by 15 = .ok (.ifCond .lt 10, 3) := by decide +kernel
theorem dX10_by_18 : decode cX10_by 18 = .ok (.iload_n 3, 1) := by decide +kernel
theorem dX10_by_19 : decode cX10_by 19 = .ok (.invokestatic 145, 3) := by decide +kernel
theorem dX10_by_22 : decode cX10_by 22 = .ok (.ifCond .ne 6, 3) := by decide +kernel
theorem dX10_by_25 : decode cX10_by 25 = .ok (.ldc 80, 2) := by decide +kernel
theorem dX10_by_27 : decode cX10_by 27 = .ok (.ireturn, 1) := by decide +kernel
theorem dX10_by_28 : decode cX10_by 28 = .ok (.aload_n 0, 1) := by decide +kernel
theorem dX10_by_29 : decode cX10_by 29 = .ok (.getfield 52, 3) := by decide +kernel
theorem dX10_by_32 : decode cX10_by 32 = .ok (.aload_n 0, 1) := by decide +kernel
theorem dX10_by_33 : decode cX10_by 33 = .ok (.getfield 10, 3) := by decide +kernel
theorem dX10_by_36 : decode cX10_by 36 = .ok (.iload_n 1, 1) := by decide +kernel
theorem dX10_by_37 : decode cX10_by 37 = .ok (.iload_n 3, 1) := by decide +kernel
theorem dX10_by_38 : decode cX10_by 38 = .ok (.invokevirtual 148, 3) := by decide +kernel
theorem dX10_by_41 : decode cX10_by 41 = .ok (.iload_n 2, 1) := by decide +kernel
theorem dX10_by_42 : decode cX10_by 42 = .ok (.invokevirtual 152, 3) := by decide +kernel
theorem dX10_by_45 : decode cX10_by 45 = .ok (.ireturn, 1) := by decide +kernel
theorem dX10_lap_0 : decode cX10_lap 0 = .ok (.aload_n 0, 1) := by decide +kernel
theorem dX10_lap_1 : decode cX10_lap 1 = .ok (.getfield 10, 3) := by decide +kernel
theorem dX10_lap_4 : decode cX10_lap 4 = .ok (.iload_n 1, 1) := by decide +kernel
theorem dX10_lap_5 : decode cX10_lap 5 = .ok (.invokevirtual 122, 3) := by decide +kernel
theorem dX10_lap_8 : decode cX10_lap 8 = .ok (.ifCond .ne 6, 3) := by decide +kernel
theorem dX10_lap_11 : decode cX10_lap 11 = .ok (.ldc 125, 2) := by decide +kernel
theorem dX10_lap_13 : decode cX10_lap 13 = .ok (.ireturn, 1) := by decide +kernel
theorem dX10_lap_14 : decode cX10_lap 14 = .ok (.iload_n 2, 1) := by decide +kernel
theorem dX10_lap_15 : decode cX10_lap 15 = .ok (.invokestatic 145, 3) := by decide +kernel
theorem dX10_lap_18 : decode cX10_lap 18 = .ok (.ifCond .eq 12, 3) := by decide +kernel
theorem dX10_lap_21 : decode cX10_lap 21 = .ok (.iload_n 3, 1) := by decide +kernel
theorem dX10_lap_22 : decode cX10_lap 22 = .ok (.iconst 0, 1) := by decide +kernel
theorem dX10_lap_23 : decode cX10_lap 23 = .ok (.iconst 2, 1) := by decide +kernel
theorem dX10_lap_24 : decode cX10_lap 24 = .ok (.invokestatic 76, 3) := by decide +kernel
theorem dX10_lap_27 : decode cX10_lap 27 = .ok (.ifCond .ne 6, 3) := by decide +kernel
theorem dX10_lap_30 : decode cX10_lap 30 = .ok (.ldc 80, 2) := by decide +kernel
theorem dX10_lap_32 : decode cX10_lap 32 = .ok (.ireturn, 1) := by decide +kernel
theorem dX10_lap_33 : decode cX10_lap 33 = .ok (.aload_n 0, 1) := by decide +kernel
theorem dX10_lap_34 : decode cX10_lap 34 = .ok (.getfield 52, 3) := by decide +kernel
theorem dX10_lap_37 : decode cX10_lap 37 = .ok (.aload_n 0, 1) := by decide +kernel
theorem dX10_lap_38 : decode cX10_lap 38 = .ok (.getfield 10, 3) := by decide +kernel
theorem dX10_lap_41 : decode cX10_lap 41 = .ok (.iload_n 1, 1) := by decide +kernel
theorem dX10_lap_42 : decode cX10_lap 42 = .ok (.iload_n 2, 1) := by decide +kernel
theorem dX10_lap_43 : decode cX10_lap 43 = .ok (.invokevirtual 148, 3) := by decide +kernel
theorem dX10_lap_46 : decode cX10_lap 46 = .ok (.astore 4, 2) := by decide +kernel
theorem dX10_lap_48 : decode cX10_lap 48 = .ok (.aload 4, 2) := by decide +kernel
theorem dX10_lap_50 : decode cX10_lap 50 = .ok (.invokevirtual 154, 3) := by decide +kernel
theorem dX10_lap_53 : decode cX10_lap 53 = .ok (.istore 5, 2) := by decide +kernel
theorem dX10_lap_55 : decode cX10_lap 55 = .ok (.iload_n 3, 1) := by decide +kernel
theorem dX10_lap_56 : decode cX10_lap 56 = .ok (.ifCond .ne 6, 3) := by decide +kernel
theorem dX10_lap_59 : decode cX10_lap 59 = .ok (.iload 5, 2) := by decide +kernel
theorem dX10_lap_61 : decode cX10_lap 61 = .ok (.ireturn, 1) := by decide +kernel
theorem dX10_lap_62 : decode cX10_lap 62 = .ok (.aload 4, 2) := by decide +kernel
theorem dX10_lap_64 : decode cX10_lap 64 = .ok (.iload 5, 2) := by decide +kernel
theorem dX10_lap_66 : decode cX10_lap 66 = .ok (.invokevirtual 157, 3) := by decide +kernel
theorem dX10_lap_69 : decode cX10_lap 69 = .ok (.istore 6, 2) := by decide +kernel
theorem dX10_lap_71 : decode cX10_lap 71 = .ok (.iload_n 3, 1) := by decide +kernel
theorem dX10_lap_72 : decode cX10_lap 72 = .ok (.iconst 1, 1) := by decide +kernel
theorem dX10_lap_73 : decode cX10_lap 73 = .ok (.if_icmp .ne 8, 3) := by decide +kernel
theorem dX10_lap_76 : decode cX10_lap 76 = .ok (.iload 6, 2) := by decide +kernel
theorem dX10_lap_78 : decode cX10_lap 78 = .ok (.goto 12, 3) := by decide +kernel
theorem dX10_lap_81 : decode cX10_lap 81 = .ok (.aload 4, 2) := by decide +kernel
theorem dX10_lap_83 : decode cX10_lap 83 = .ok (.iload 6, 2) := by decide +kernel
theorem dX10_lap_85 : decode cX10_lap 85 = .ok (.iload 5, 2) := by decide +kernel
theorem dX10_lap_87 : decode cX10_lap 87 = .ok (.invokevirtual 160, 3) := by decide +kernel
theorem dX10_lap_90 : decode cX10_lap 90 = .ok (.ireturn, 1) := by decide +kernel
theorem dX10_least_0 : decode cX10_least 0 = .ok (.aload_n 0, 1) := by decide +kernel
theorem dX10_least_1 : decode cX10_least 1 = .ok (.getfield 10, 3) := by decide +kernel
theorem dX10_least_4 : decode cX10_least 4 = .ok (.iload_n 1, 1) := by decide +kernel
theorem dX10_least_5 : decode cX10_least 5 = .ok (.invokevirtual 122, 3) := by decide +kernel
theorem dX10_least_8 : decode cX10_least 8 = .ok (.ifCond .ne 6, 3) := by decide +kernel
theorem dX10_least_11 : decode cX10_least 11 = .ok (.ldc 125, 2) := by decide +kernel
theorem dX10_least_13 : decode cX10_least 13 = .ok (.ireturn, 1) := by decide +kernel
theorem dX10_least_14 : decode cX10_least 14 = .ok (.iload_n 2, 1) := by decide +kernel
theorem dX10_least_15 : decode cX10_least 15 = .ok (.invokestatic 163, 3) := by decide +kernel
theorem dX10_least_18 : decode cX10_least 18 = .ok (.ifCond .eq 13, 3) := by decide +kernel
theorem dX10_least_21 : decode cX10_least 21 = .ok (.iload_n 3, 1) := by decide +kernel
theorem dX10_least_22 : decode cX10_least 22 = .ok (.iconst 0, 1) := by decide +kernel
theorem dX10_least_23 : decode cX10_least 23 = .ok (.bipush 8, 2) := by decide +kernel
theorem dX10_least_25 : decode cX10_least 25 = .ok (.invokestatic 76, 3) := by decide +kernel
theorem dX10_least_28 : decode cX10_least 28 = .ok (.ifCond .ne 6, 3) := by decide +kernel
theorem dX10_least_31 : decode cX10_least 31 = .ok (.ldc 80, 2) := by decide +kernel
theorem dX10_least_33 : decode cX10_least 33 = .ok (.ireturn, 1) := by decide +kernel
theorem dX10_least_34 : decode cX10_least 34 = .ok (.aload_n 0, 1) := by decide +kernel
theorem dX10_least_35 : decode cX10_least 35 = .ok (.getfield 59, 3) := by decide +kernel
theorem dX10_least_38 : decode cX10_least 38 = .ok (.aload_n 0, 1) := by decide +kernel
theorem dX10_least_39 : decode cX10_least 39 = .ok (.getfield 52, 3) := by decide +kernel
theorem dX10_least_42 : decode cX10_least 42 = .ok (.aload_n 0, 1) := by decide +kernel
theorem dX10_least_43 : decode cX10_least 43 = .ok (.getfield 10, 3) := by decide +kernel
theorem dX10_least_46 : decode cX10_least 46 = .ok (.iload_n 1, 1) := by decide +kernel
theorem dX10_least_47 : decode cX10_least 47 = .ok (.iload_n 2, 1) := by decide +kernel
theorem dX10_least_48 : decode cX10_least 48 = .ok (.invokevirtual 148, 3) := by decide +kernel
theorem dX10_least_51 : decode cX10_least 51 = .ok (.iload_n 2, 1) := by decide +kernel
theorem dX10_least_52 : decode cX10_least 52 = .ok (.invokevirtual 166, 3) := by decide +kernel
theorem dX10_least_55 : decode cX10_least 55 = .ok (.iload_n 3, 1) := by decide +kernel
theorem dX10_least_56 : decode cX10_least 56 = .ok (.ifCond .ne 11, 3) := by decide +kernel
theorem dX10_least_59 : decode cX10_least 59 = .ok (.aload_n 0, 1) := by decide +kernel
theorem dX10_least_60 : decode cX10_least 60 = .ok (.getfield 59, 3) := by decide +kernel
theorem dX10_least_63 : decode cX10_least 63 = .ok (.invokevirtual 170, 3) := by decide +kernel
theorem dX10_least_66 : decode cX10_least 66 = .ok (.ireturn, 1) := by decide +kernel
theorem dX10_least_67 : decode cX10_least 67 = .ok (.aload_n 0, 1) := by decide +kernel
theorem dX10_least_68 : decode cX10_least 68 = .ok (.getfield 59, 3) := by decide +kernel
theorem dX10_least_71 : decode cX10_least 71 = .ok (.invokevirtual 170, 3) := by decide +kernel
theorem dX10_least_74 : decode cX10_least 74 = .ok (.bipush 8, 2) := by decide +kernel
theorem dX10_least_76 : decode cX10_least 76 = .ok (.if_icmp .le 8, 3) := by decide +kernel
theorem dX10_least_79 : decode cX10_least 79 = .ok (.ldc 137, 2) := by decide +kernel
theorem dX10_least_81 : decode cX10_least 81 = .ok (.goto 11, 3) := by decide +kernel
theorem dX10_least_84 : decode cX10_least 84 = .ok (.aload_n 0, 1) := by decide +kernel
theorem dX10_least_85 : decode cX10_least 85 = .ok (.getfield 59, 3) := by decide +kernel
theorem dX10_least_88 : decode cX10_least 88 = .ok (.iload_n 3, 1) := by decide +kernel
theorem dX10_least_89 : decode cX10_least 89 = .ok (.invokevirtual 173, 3) := by decide +kernel
theorem dX10_least_92 : decode cX10_least 92 = .ok (.ireturn, 1) := by decide +kernel
theorem dX10_rule_0 : decode cX10_rule 0 = .ok (.aload_n 0, 1) := by decide +kernel
theorem dX10_rule_1 : decode cX10_rule 1 = .ok (.getfield 10, 3) := by decide +kernel
theorem dX10_rule_4 : decode cX10_rule 4 = .ok (.iload_n 1, 1) := by decide +kernel
theorem dX10_rule_5 : decode cX10_rule 5 = .ok (.invokevirtual 122, 3) := by decide +kernel
theorem dX10_rule_8 : decode cX10_rule 8 = .ok (.ifCond .ne 6, 3) := by decide +kernel
theorem dX10_rule_11 : decode cX10_rule 11 = .ok (.ldc 125, 2) := by decide +kernel
theorem dX10_rule_13 : decode cX10_rule 13 = .ok (.ireturn, 1) := by decide +kernel
theorem dX10_rule_14 : decode cX10_rule 14 = .ok (.iload_n 2, 1) := by decide +kernel
theorem dX10_rule_15 : decode cX10_rule 15 = .ok (.iconst 0, 1) := by decide +kernel
theorem dX10_rule_16 : decode cX10_rule 16 = .ok (.iconst 4, 1) := by decide +kernel
theorem dX10_rule_17 : decode cX10_rule 17 = .ok (.invokestatic 76, 3) := by decide +kernel
theorem dX10_rule_20 : decode cX10_rule 20 = .ok (.ifCond .ne 6, 3) := by decide +kernel
theorem dX10_rule_23 : decode cX10_rule 23 = .ok (.ldc 80, 2) := by decide +kernel
theorem dX10_rule_25 : decode cX10_rule 25 = .ok (.ireturn, 1) := by decide +kernel
theorem dX10_rule_26 : decode cX10_rule 26 = .ok (.aload_n 0, 1) := by decide +kernel
theorem dX10_rule_27 : decode cX10_rule 27 = .ok (.getfield 10, 3) := by decide +kernel
theorem dX10_rule_30 : decode cX10_rule 30 = .ok (.iload_n 1, 1) := by decide +kernel
theorem dX10_rule_31 : decode cX10_rule 31 = .ok (.invokestatic 176, 3) := by decide +kernel
theorem dX10_rule_34 : decode cX10_rule 34 = .ok (.istore_n 3, 1) := by decide +kernel
theorem dX10_rule_35 : decode cX10_rule 35 = .ok (.iload_n 3, 1) := by decide +kernel
theorem dX10_rule_36 : decode cX10_rule 36 = .ok (.ifCond .ne 6, 3) := by decide +kernel
theorem dX10_rule_39 : decode cX10_rule 39 = .ok (.ldc 101, 2) := by decide +kernel
theorem dX10_rule_41 : decode cX10_rule 41 = .ok (.ireturn, 1) := by decide +kernel
theorem dX10_rule_42 : decode cX10_rule 42 = .ok (.iload_n 2, 1) := by decide +kernel
theorem dX10_rule_43 : decode cX10_rule 43 = .ok (.ifCond .ne 7, 3) := by decide +kernel
theorem dX10_rule_46 : decode cX10_rule 46 = .ok (.iload_n 3, 1) := by decide +kernel
theorem dX10_rule_47 : decode cX10_rule 47 = .ok (.goto 12, 3) := by decide +kernel
theorem dX10_rule_50 : decode cX10_rule 50 = .ok (.aload_n 0, 1) := by decide +kernel
theorem dX10_rule_51 : decode cX10_rule 51 = .ok (.getfield 10, 3) := by decide +kernel
theorem dX10_rule_54 : decode cX10_rule 54 = .ok (.iload_n 1, 1) := by decide +kernel
theorem dX10_rule_55 : decode cX10_rule 55 = .ok (.iload_n 2, 1) := by decide +kernel
theorem dX10_rule_56 : decode cX10_rule 56 = .ok (.invokestatic 182, 3) := by decide +kernel
theorem dX10_rule_59 : decode cX10_rule 59 = .ok (.ireturn, 1) := by decide +kernel
theorem dX10_roots_0 : decode cX10_roots 0 = .ok (.aload_n 0, 1) := by decide +kernel
theorem dX10_roots_1 : decode cX10_roots 1 = .ok (.getfield 10, 3) := by decide +kernel
theorem dX10_roots_4 : decode cX10_roots 4 = .ok (.iload_n 1, 1) := by decide +kernel
theorem dX10_roots_5 : decode cX10_roots 5 = .ok (.invokevirtual 122, 3) := by decide +kernel
theorem dX10_roots_8 : decode cX10_roots 8 = .ok (.ifCond .ne 6, 3) := by decide +kernel
theorem dX10_roots_11 : decode cX10_roots 11 = .ok (.ldc 125, 2) := by decide +kernel
theorem dX10_roots_13 : decode cX10_roots 13 = .ok (.ireturn, 1) := by decide +kernel
theorem dX10_roots_14 : decode cX10_roots 14 = .ok (.iload_n 2, 1) := by decide +kernel
theorem dX10_roots_15 : decode cX10_roots 15 = .ok (.iconst 0, 1) := by decide +kernel
theorem dX10_roots_16 : decode cX10_roots 16 = .ok (.iconst 4, 1) := by decide +kernel
theorem dX10_roots_17 : decode cX10_roots 17 = .ok (.invokestatic 76, 3) := by decide +kernel
theorem dX10_roots_20 : decode cX10_roots 20 = .ok (.ifCond .ne 6, 3) := by decide +kernel
theorem dX10_roots_23 : decode cX10_roots 23 = .ok (.ldc 80, 2) := by decide +kernel
theorem dX10_roots_25 : decode cX10_roots 25 = .ok (.ireturn, 1) := by decide +kernel
theorem dX10_roots_26 : decode cX10_roots 26 = .ok (.aload_n 0, 1) := by decide +kernel
theorem dX10_roots_27 : decode cX10_roots 27 = .ok (.getfield 10, 3) := by decide +kernel
theorem dX10_roots_30 : decode cX10_roots 30 = .ok (.iload_n 1, 1) := by decide +kernel
theorem dX10_roots_31 : decode cX10_roots 31 = .ok (.invokevirtual 185, 3) := by decide +kernel
theorem dX10_roots_34 : decode cX10_roots 34 = .ok (.ifCond .ne 6, 3) := by decide +kernel
theorem dX10_roots_37 : decode cX10_roots 37 = .ok (.ldc 101, 2) := by decide +kernel
theorem dX10_roots_39 : decode cX10_roots 39 = .ok (.ireturn, 1) := by decide +kernel
theorem dX10_roots_40 : decode cX10_roots 40 = .ok (.aload_n 0, 1) := by decide +kernel
theorem dX10_roots_41 : decode cX10_roots 41 = .ok (.getfield 10, 3) := by decide +kernel
theorem dX10_roots_44 : decode cX10_roots 44 = .ok (.iload_n 1, 1) := by decide +kernel
theorem dX10_roots_45 : decode cX10_roots 45 = .ok (.iconst 0, 1) := by decide +kernel
theorem dX10_roots_46 : decode cX10_roots 46 = .ok (.invokevirtual 133, 3) := by decide +kernel
theorem dX10_roots_49 : decode cX10_roots 49 = .ok (.istore_n 3, 1) := by decide +kernel
theorem dX10_roots_50 : decode cX10_roots 50 = .ok (.aload_n 0, 1) := by decide +kernel
theorem dX10_roots_51 : decode cX10_roots 51 = .ok (.getfield 10, 3) := by decide +kernel
theorem dX10_roots_54 : decode cX10_roots 54 = .ok (.iload_n 1, 1) := by decide +kernel
theorem dX10_roots_55 : decode cX10_roots 55 = .ok (.iconst 1, 1) := by decide +kernel
theorem dX10_roots_56 : decode cX10_roots 56 = .ok (.invokevirtual 133, 3) := by decide +kernel
theorem dX10_roots_59 : decode cX10_roots 59 = .ok (.istore 4, 2) := by decide +kernel
theorem dX10_roots_61 : decode cX10_roots 61 = .ok (.iload_n 2, 1) := by decide +kernel
theorem dX10_roots_62 : decode cX10_roots 62 = .ok (.tableswitch 58 0 3 #[30, 37, 44, 51], 30) := by decide +kernel
theorem dX10_roots_92 : decode cX10_roots 92 = .ok (.iload_n 3, 1) := by decide +kernel
theorem dX10_roots_93 : decode cX10_roots 93 = .ok (.iload 4, 2) := by decide +kernel
theorem dX10_roots_95 : decode cX10_roots 95 = .ok (.invokestatic 188, 3) := by decide +kernel
theorem dX10_roots_98 : decode cX10_roots 98 = .ok (.ireturn, 1) := by decide +kernel
theorem dX10_roots_99 : decode cX10_roots 99 = .ok (.iload_n 3, 1) := by decide +kernel
theorem dX10_roots_100 : decode cX10_roots 100 = .ok (.iload 4, 2) := by decide +kernel
theorem dX10_roots_102 : decode cX10_roots 102 = .ok (.invokestatic 193, 3) := by decide +kernel
theorem dX10_roots_105 : decode cX10_roots 105 = .ok (.ireturn, 1) := by decide +kernel
theorem dX10_roots_106 : decode cX10_roots 106 = .ok (.iload_n 3, 1) := by decide +kernel
theorem dX10_roots_107 : decode cX10_roots 107 = .ok (.iload 4, 2) := by decide +kernel
theorem dX10_roots_109 : decode cX10_roots 109 = .ok (.invokestatic 196, 3) := by decide +kernel
theorem dX10_roots_112 : decode cX10_roots 112 = .ok (.ireturn, 1) := by decide +kernel
theorem dX10_roots_113 : decode cX10_roots 113 = .ok (.iload_n 3, 1) := by decide +kernel
theorem dX10_roots_114 : decode cX10_roots 114 = .ok (.iload 4, 2) := by decide +kernel
theorem dX10_roots_116 : decode cX10_roots 116 = .ok (.invokestatic 199, 3) := by decide +kernel
theorem dX10_roots_119 : decode cX10_roots 119 = .ok (.ireturn, 1) := by decide +kernel
theorem dX10_roots_120 : decode cX10_roots 120 = .ok (.iload_n 3, 1) := by decide +kernel
theorem dX10_roots_121 : decode cX10_roots 121 = .ok (.iload 4, 2) := by decide +kernel
theorem dX10_roots_123 : decode cX10_roots 123 = .ok (.invokestatic 202, 3) := by decide +kernel
theorem dX10_roots_126 : decode cX10_roots 126 = .ok (.ireturn, 1) := by decide +kernel
theorem dX10_noughts_0 : decode cX10_noughts 0 = .ok (.aload_n 0, 1) := by decide +kernel
theorem dX10_noughts_1 : decode cX10_noughts 1 = .ok (.getfield 10, 3) := by decide +kernel
theorem dX10_noughts_4 : decode cX10_noughts 4 = .ok (.iload_n 1, 1) := by decide +kernel
theorem dX10_noughts_5 : decode cX10_noughts 5 = .ok (.invokevirtual 122, 3) := by decide +kernel
theorem dX10_noughts_8 : decode cX10_noughts 8 = .ok (.ifCond .ne 6, 3) := by decide +kernel
theorem dX10_noughts_11 : decode cX10_noughts 11 = .ok (.ldc 125, 2) := by decide +kernel
theorem dX10_noughts_13 : decode cX10_noughts 13 = .ok (.ireturn, 1) := by decide +kernel
theorem dX10_noughts_14 : decode cX10_noughts 14 = .ok (.iconst 0, 1) := by decide +kernel
theorem dX10_noughts_15 : decode cX10_noughts 15 = .ok (.istore_n 2, 1) := by decide +kernel
theorem dX10_noughts_16 : decode cX10_noughts 16 = .ok (.iconst 0, 1) := by decide +kernel
theorem dX10_noughts_17 : decode cX10_noughts 17 = .ok (.istore_n 3, 1) := by decide +kernel
theorem dX10_noughts_18 : decode cX10_noughts 18 = .ok (.iload_n 3, 1) := by decide +kernel
theorem dX10_noughts_19 : decode cX10_noughts 19 = .ok (.bipush 24, 2) := by decide +kernel
theorem dX10_noughts_21 : decode cX10_noughts 21 = .ok (.if_icmp .ge 31, 3) := by decide +kernel
theorem dX10_noughts_24 : decode cX10_noughts 24 = .ok (.aload_n 0, 1) := by decide +kernel
theorem dX10_noughts_25 : decode cX10_noughts 25 = .ok (.getfield 45, 3) := by decide +kernel
theorem dX10_noughts_28 : decode cX10_noughts 28 = .ok (.aload_n 0, 1) := by decide +kernel
theorem dX10_noughts_29 : decode cX10_noughts 29 = .ok (.getfield 10, 3) := by decide +kernel
theorem dX10_noughts_32 : decode cX10_noughts 32 = .ok (.iload_n 1, 1) := by decide +kernel
theorem dX10_noughts_33 : decode cX10_noughts 33 = .ok (.iload_n 3, 1) := by decide +kernel
theorem dX10_noughts_34 : decode cX10_noughts 34 = .ok (.invokevirtual 141, 3) := by decide +kernel
theorem dX10_noughts_37 : decode cX10_noughts 37 = .ok (.ifCond .ne 9, 3) := by decide +kernel
theorem dX10_noughts_40 : decode cX10_noughts 40 = .ok (.iload_n 2, 1) := by decide +kernel
theorem dX10_noughts_41 : decode cX10_noughts 41 = .ok (.iconst 1, 1) := by decide +kernel
theorem dX10_noughts_42 : decode cX10_noughts 42 = .ok (.iload_n 3, 1) := by decide +kernel
theorem dX10_noughts_43 : decode cX10_noughts 43 = .ok (.ishl, 1) := by decide +kernel
theorem dX10_noughts_44 : decode cX10_noughts 44 = .ok (.ior, 1) := by decide +kernel
theorem dX10_noughts_45 : decode cX10_noughts 45 = .ok (.istore_n 2, 1) := by decide +kernel
theorem dX10_noughts_46 : decode cX10_noughts 46 = .ok (.iinc 3 1, 3) := by decide +kernel
theorem dX10_noughts_49 : decode cX10_noughts 49 = .ok (.goto (-31), 3) := by decide +kernel
theorem dX10_noughts_52 : decode cX10_noughts 52 = .ok (.iload_n 2, 1) := by decide +kernel
theorem dX10_noughts_53 : decode cX10_noughts 53 = .ok (.ireturn, 1) := by decide +kernel
theorem dX10_ends_0 : decode cX10_ends 0 = .ok (.aload_n 0, 1) := by decide +kernel
theorem dX10_ends_1 : decode cX10_ends 1 = .ok (.getfield 10, 3) := by decide +kernel
theorem dX10_ends_4 : decode cX10_ends 4 = .ok (.iload_n 1, 1) := by decide +kernel
theorem dX10_ends_5 : decode cX10_ends 5 = .ok (.invokevirtual 122, 3) := by decide +kernel
theorem dX10_ends_8 : decode cX10_ends 8 = .ok (.ifCond .ne 6, 3) := by decide +kernel
theorem dX10_ends_11 : decode cX10_ends 11 = .ok (.ldc 125, 2) := by decide +kernel
theorem dX10_ends_13 : decode cX10_ends 13 = .ok (.ireturn, 1) := by decide +kernel
theorem dX10_ends_14 : decode cX10_ends 14 = .ok (.iconst 2, 1) := by decide +kernel
theorem dX10_ends_15 : decode cX10_ends 15 = .ok (.istore_n 2, 1) := by decide +kernel
theorem dX10_ends_16 : decode cX10_ends 16 = .ok (.iload_n 2, 1) := by decide +kernel
theorem dX10_ends_17 : decode cX10_ends 17 = .ok (.bipush 10, 2) := by decide +kernel
theorem dX10_ends_19 : decode cX10_ends 19 = .ok (.if_icmp .gt 21, 3) := by decide +kernel
theorem dX10_ends_22 : decode cX10_ends 22 = .ok (.aload_n 0, 1) := by decide +kernel
theorem dX10_ends_23 : decode cX10_ends 23 = .ok (.iload_n 1, 1) := by decide +kernel
theorem dX10_ends_24 : decode cX10_ends 24 = .ok (.iload_n 2, 1) := by decide +kernel
theorem dX10_ends_25 : decode cX10_ends 25 = .ok (.iconst 2, 1) := by decide +kernel
theorem dX10_ends_26 : decode cX10_ends 26 = .ok (.invokevirtual 205, 3) := by decide +kernel
theorem dX10_ends_29 : decode cX10_ends 29 = .ok (.ifCond .ne 5, 3) := by decide +kernel
theorem dX10_ends_32 : decode cX10_ends 32 = .ok (.iload_n 2, 1) := by decide +kernel
theorem dX10_ends_33 : decode cX10_ends 33 = .ok (.ireturn, 1) := by decide +kernel
theorem dX10_ends_34 : decode cX10_ends 34 = .ok (.iinc 2 1, 3) := by decide +kernel
theorem dX10_ends_37 : decode cX10_ends 37 = .ok (.goto (-21), 3) := by decide +kernel
theorem dX10_ends_40 : decode cX10_ends 40 = .ok (.ldc 137, 2) := by decide +kernel
theorem dX10_ends_42 : decode cX10_ends 42 = .ok (.ireturn, 1) := by decide +kernel
theorem dX10_open_0 : decode cX10_open 0 = .ok (.aload_n 0, 1) := by decide +kernel
theorem dX10_open_1 : decode cX10_open 1 = .ok (.getfield 10, 3) := by decide +kernel
theorem dX10_open_4 : decode cX10_open 4 = .ok (.iload_n 1, 1) := by decide +kernel
theorem dX10_open_5 : decode cX10_open 5 = .ok (.invokevirtual 122, 3) := by decide +kernel
theorem dX10_open_8 : decode cX10_open 8 = .ok (.ifCond .ne 6, 3) := by decide +kernel
theorem dX10_open_11 : decode cX10_open 11 = .ok (.ldc 125, 2) := by decide +kernel
theorem dX10_open_13 : decode cX10_open 13 = .ok (.ireturn, 1) := by decide +kernel
theorem dX10_open_14 : decode cX10_open 14 = .ok (.iload_n 2, 1) := by decide +kernel
theorem dX10_open_15 : decode cX10_open 15 = .ok (.iconst 0, 1) := by decide +kernel
theorem dX10_open_16 : decode cX10_open 16 = .ok (.iconst 1, 1) := by decide +kernel
theorem dX10_open_17 : decode cX10_open 17 = .ok (.invokestatic 76, 3) := by decide +kernel
theorem dX10_open_20 : decode cX10_open 20 = .ok (.ifCond .ne 6, 3) := by decide +kernel
theorem dX10_open_23 : decode cX10_open 23 = .ok (.ldc 80, 2) := by decide +kernel
theorem dX10_open_25 : decode cX10_open 25 = .ok (.ireturn, 1) := by decide +kernel
theorem dX10_open_26 : decode cX10_open 26 = .ok (.iconst 0, 1) := by decide +kernel
theorem dX10_open_27 : decode cX10_open 27 = .ok (.istore_n 3, 1) := by decide +kernel
theorem dX10_open_28 : decode cX10_open 28 = .ok (.ldc 137, 2) := by decide +kernel
theorem dX10_open_30 : decode cX10_open 30 = .ok (.istore 4, 2) := by decide +kernel
theorem dX10_open_32 : decode cX10_open 32 = .ok (.iconst 0, 1) := by decide +kernel
theorem dX10_open_33 : decode cX10_open 33 = .ok (.istore 5, 2) := by decide +kernel
theorem dX10_open_35 : decode cX10_open 35 = .ok (.iload 5, 2) := by decide +kernel
theorem dX10_open_37 : decode cX10_open 37 = .ok (.sipush 1000, 3) := by decide +kernel
theorem dX10_open_40 : decode cX10_open 40 = .ok (.if_icmp .ge 26, 3) := by decide +kernel
theorem dX10_open_43 : decode cX10_open 43 = .ok (.aload_n 0, 1) := by decide +kernel
theorem dX10_open_44 : decode cX10_open 44 = .ok (.iload_n 1, 1) := by decide +kernel
theorem dX10_open_45 : decode cX10_open 45 = .ok (.iload 5, 2) := by decide +kernel
theorem dX10_open_47 : decode cX10_open 47 = .ok (.invokevirtual 209, 3) := by decide +kernel
theorem dX10_open_50 : decode cX10_open 50 = .ok (.ifCond .eq 10, 3) := by decide +kernel
theorem dX10_open_53 : decode cX10_open 53 = .ok (.iinc 3 1, 3) := by decide +kernel
theorem dX10_open_56 : decode cX10_open 56 = .ok (.iload 5, 2) := by decide +kernel
theorem dX10_open_58 : decode cX10_open 58 = .ok (.istore 4, 2) := by decide +kernel
theorem dX10_open_60 : decode cX10_open 60 = .ok (.iinc 5 1, 3) := by decide +kernel
theorem dX10_open_63 : decode cX10_open 63 = .ok (.goto (-28), 3) := by decide +kernel
theorem dX10_open_66 : decode cX10_open 66 = .ok (.iload_n 2, 1) := by decide +kernel
theorem dX10_open_67 : decode cX10_open 67 = .ok (.ifCond .ne 7, 3) := by decide +kernel
theorem dX10_open_70 : decode cX10_open 70 = .ok (.iload_n 3, 1) := by decide +kernel
theorem dX10_open_71 : decode cX10_open 71 = .ok (.goto 5, 3) := by decide +kernel
theorem dX10_open_74 : decode cX10_open 74 = .ok (.iload 4, 2) := by decide +kernel
theorem dX10_open_76 : decode cX10_open 76 = .ok (.ireturn, 1) := by decide +kernel
theorem dX10_meets_0 : decode cX10_meets 0 = .ok (.aload_n 0, 1) := by decide +kernel
theorem dX10_meets_1 : decode cX10_meets 1 = .ok (.getfield 10, 3) := by decide +kernel
theorem dX10_meets_4 : decode cX10_meets 4 = .ok (.iload_n 1, 1) := by decide +kernel
theorem dX10_meets_5 : decode cX10_meets 5 = .ok (.invokevirtual 122, 3) := by decide +kernel
theorem dX10_meets_8 : decode cX10_meets 8 = .ok (.ifCond .eq 14, 3) := by decide +kernel
theorem dX10_meets_11 : decode cX10_meets 11 = .ok (.aload_n 0, 1) := by decide +kernel
theorem dX10_meets_12 : decode cX10_meets 12 = .ok (.getfield 10, 3) := by decide +kernel
theorem dX10_meets_15 : decode cX10_meets 15 = .ok (.iload_n 2, 1) := by decide +kernel
theorem dX10_meets_16 : decode cX10_meets 16 = .ok (.invokevirtual 122, 3) := by decide +kernel
theorem dX10_meets_19 : decode cX10_meets 19 = .ok (.ifCond .ne 6, 3) := by decide +kernel
theorem dX10_meets_22 : decode cX10_meets 22 = .ok (.ldc 125, 2) := by decide +kernel
theorem dX10_meets_24 : decode cX10_meets 24 = .ok (.ireturn, 1) := by decide +kernel
theorem dX10_meets_25 : decode cX10_meets 25 = .ok (.iload_n 3, 1) := by decide +kernel
theorem dX10_meets_26 : decode cX10_meets 26 = .ok (.invokestatic 145, 3) := by decide +kernel
theorem dX10_meets_29 : decode cX10_meets 29 = .ok (.ifCond .ne 6, 3) := by decide +kernel
theorem dX10_meets_32 : decode cX10_meets 32 = .ok (.ldc 80, 2) := by decide +kernel
theorem dX10_meets_34 : decode cX10_meets 34 = .ok (.ireturn, 1) := by decide +kernel
theorem dX10_meets_35 : decode cX10_meets 35 = .ok (.aload_n 0, 1) := by decide +kernel
theorem dX10_meets_36 : decode cX10_meets 36 = .ok (.getfield 52, 3) := by decide +kernel
theorem dX10_meets_39 : decode cX10_meets 39 = .ok (.aload_n 0, 1) := by decide +kernel
theorem dX10_meets_40 : decode cX10_meets 40 = .ok (.getfield 10, 3) := by decide +kernel
theorem dX10_meets_43 : decode cX10_meets 43 = .ok (.iload_n 1, 1) := by decide +kernel
theorem dX10_meets_44 : decode cX10_meets 44 = .ok (.iload_n 3, 1) := by decide +kernel
theorem dX10_meets_45 : decode cX10_meets 45 = .ok (.invokevirtual 148, 3) := by decide +kernel
theorem dX10_meets_48 : decode cX10_meets 48 = .ok (.aload_n 0, 1) := by decide +kernel
theorem dX10_meets_49 : decode cX10_meets 49 = .ok (.getfield 52, 3) := by decide +kernel
theorem dX10_meets_52 : decode cX10_meets 52 = .ok (.aload_n 0, 1) := by decide +kernel
theorem dX10_meets_53 : decode cX10_meets 53 = .ok (.getfield 10, 3) := by decide +kernel
theorem dX10_meets_56 : decode cX10_meets 56 = .ok (.iload_n 2, 1) := by decide +kernel
theorem dX10_meets_57 : decode cX10_meets 57 = .ok (.iload_n 3, 1) := by decide +kernel
theorem dX10_meets_58 : decode cX10_meets 58 = .ok (.invokevirtual 148, 3) := by decide +kernel
theorem dX10_meets_61 : decode cX10_meets 61 = .ok (.invokevirtual 213, 3) := by decide +kernel
theorem dX10_meets_64 : decode cX10_meets 64 = .ok (.ireturn, 1) := by decide +kernel
theorem dX10_told_0 : decode cX10_told 0 = .ok (.iload_n 1, 1) := by decide +kernel
theorem dX10_told_1 : decode cX10_told 1 = .ok (.iload_n 2, 1) := by decide +kernel
theorem dX10_told_2 : decode cX10_told 2 = .ok (.iload_n 3, 1) := by decide +kernel
theorem dX10_told_3 : decode cX10_told 3 = .ok (.iload 4, 2) := by decide +kernel
theorem dX10_told_5 : decode cX10_told 5 = .ok (.invokestatic 217, 3) := by decide +kernel
theorem dX10_told_8 : decode cX10_told 8 = .ok (.ifCond .eq 16, 3) := by decide +kernel
theorem dX10_told_11 : decode cX10_told 11 = .ok (.aload_n 0, 1) := by decide +kernel
theorem dX10_told_12 : decode cX10_told 12 = .ok (.iconst 0, 1) := by decide +kernel
theorem dX10_told_13 : decode cX10_told 13 = .ok (.iload_n 1, 1) := by decide +kernel
theorem dX10_told_14 : decode cX10_told 14 = .ok (.iload_n 2, 1) := by decide +kernel
theorem dX10_told_15 : decode cX10_told 15 = .ok (.iload_n 3, 1) := by decide +kernel
theorem dX10_told_16 : decode cX10_told 16 = .ok (.iload 4, 2) := by decide +kernel
theorem dX10_told_18 : decode cX10_told 18 = .ok (.invokevirtual 221, 3) := by decide +kernel
theorem dX10_told_21 : decode cX10_told 21 = .ok (.goto 5, 3) := by decide +kernel
theorem dX10_told_24 : decode cX10_told 24 = .ok (.ldc 80, 2) := by decide +kernel
theorem dX10_told_26 : decode cX10_told 26 = .ok (.ireturn, 1) := by decide +kernel
theorem dX10_sum_0 : decode cX10_sum 0 = .ok (.aload_n 0, 1) := by decide +kernel
theorem dX10_sum_1 : decode cX10_sum 1 = .ok (.getfield 10, 3) := by decide +kernel
theorem dX10_sum_4 : decode cX10_sum 4 = .ok (.iload_n 1, 1) := by decide +kernel
theorem dX10_sum_5 : decode cX10_sum 5 = .ok (.invokevirtual 122, 3) := by decide +kernel
theorem dX10_sum_8 : decode cX10_sum 8 = .ok (.ifCond .eq 26, 3) := by decide +kernel
theorem dX10_sum_11 : decode cX10_sum 11 = .ok (.aload_n 0, 1) := by decide +kernel
theorem dX10_sum_12 : decode cX10_sum 12 = .ok (.getfield 10, 3) := by decide +kernel
theorem dX10_sum_15 : decode cX10_sum 15 = .ok (.iload_n 2, 1) := by decide +kernel
theorem dX10_sum_16 : decode cX10_sum 16 = .ok (.invokevirtual 122, 3) := by decide +kernel
theorem dX10_sum_19 : decode cX10_sum 19 = .ok (.ifCond .eq 15, 3) := by decide +kernel
theorem dX10_sum_22 : decode cX10_sum 22 = .ok (.aload_n 0, 1) := by decide +kernel
theorem dX10_sum_23 : decode cX10_sum 23 = .ok (.iconst 1, 1) := by decide +kernel
theorem dX10_sum_24 : decode cX10_sum 24 = .ok (.iload_n 1, 1) := by decide +kernel
theorem dX10_sum_25 : decode cX10_sum 25 = .ok (.iload_n 2, 1) := by decide +kernel
theorem dX10_sum_26 : decode cX10_sum 26 = .ok (.iconst 0, 1) := by decide +kernel
theorem dX10_sum_27 : decode cX10_sum 27 = .ok (.iconst 0, 1) := by decide +kernel
theorem dX10_sum_28 : decode cX10_sum 28 = .ok (.invokevirtual 221, 3) := by decide +kernel
theorem dX10_sum_31 : decode cX10_sum 31 = .ok (.goto 5, 3) := by decide +kernel
theorem dX10_sum_34 : decode cX10_sum 34 = .ok (.ldc 125, 2) := by decide +kernel
theorem dX10_sum_36 : decode cX10_sum 36 = .ok (.ireturn, 1) := by decide +kernel
theorem dX10_product_0 : decode cX10_product 0 = .ok (.aload_n 0, 1) := by decide +kernel
theorem dX10_product_1 : decode cX10_product 1 = .ok (.getfield 10, 3) := by decide +kernel
theorem dX10_product_4 : decode cX10_product 4 = .ok (.iload_n 1, 1) := by decide +kernel
theorem dX10_product_5 : decode cX10_product 5 = .ok (.invokevirtual 122, 3) := by decide +kernel
theorem dX10_product_8 : decode cX10_product 8 = .ok (.ifCond .eq 26, 3) := by decide +kernel
theorem dX10_product_11 : decode cX10_product 11 = .ok (.aload_n 0, 1) := by decide +kernel
theorem dX10_product_12 : decode cX10_product 12 = .ok (.getfield 10, 3) := by decide +kernel
theorem dX10_product_15 : decode cX10_product 15 = .ok (.iload_n 2, 1) := by decide +kernel
theorem dX10_product_16 : decode cX10_product 16 = .ok (.invokevirtual 122, 3) := by decide +kernel
theorem dX10_product_19 : decode cX10_product 19 = .ok (.ifCond .eq 15, 3) := by decide +kernel
theorem dX10_product_22 : decode cX10_product 22 = .ok (.aload_n 0, 1) := by decide +kernel
theorem dX10_product_23 : decode cX10_product 23 = .ok (.iconst 2, 1) := by decide +kernel
theorem dX10_product_24 : decode cX10_product 24 = .ok (.iload_n 1, 1) := by decide +kernel
theorem dX10_product_25 : decode cX10_product 25 = .ok (.iload_n 2, 1) := by decide +kernel
theorem dX10_product_26 : decode cX10_product 26 = .ok (.iconst 0, 1) := by decide +kernel
theorem dX10_product_27 : decode cX10_product 27 = .ok (.iconst 0, 1) := by decide +kernel
theorem dX10_product_28 : decode cX10_product 28 = .ok (.invokevirtual 221, 3) := by decide +kernel
theorem dX10_product_31 : decode cX10_product 31 = .ok (.goto 5, 3) := by decide +kernel
theorem dX10_product_34 : decode cX10_product 34 = .ok (.ldc 125, 2) := by decide +kernel
theorem dX10_product_36 : decode cX10_product 36 = .ok (.ireturn, 1) := by decide +kernel
theorem dX10_each_0 : decode cX10_each 0 = .ok (.aload_n 0, 1) := by decide +kernel
theorem dX10_each_1 : decode cX10_each 1 = .ok (.getfield 10, 3) := by decide +kernel
theorem dX10_each_4 : decode cX10_each 4 = .ok (.iload_n 1, 1) := by decide +kernel
theorem dX10_each_5 : decode cX10_each 5 = .ok (.invokevirtual 122, 3) := by decide +kernel
theorem dX10_each_8 : decode cX10_each 8 = .ok (.ifCond .ne 6, 3) := by decide +kernel
theorem dX10_each_11 : decode cX10_each 11 = .ok (.ldc 125, 2) := by decide +kernel
theorem dX10_each_13 : decode cX10_each 13 = .ok (.ireturn, 1) := by decide +kernel
theorem dX10_each_14 : decode cX10_each 14 = .ok (.iload_n 2, 1) := by decide +kernel
theorem dX10_each_15 : decode cX10_each 15 = .ok (.iconst 1, 1) := by decide +kernel
theorem dX10_each_16 : decode cX10_each 16 = .ok (.iconst 5, 1) := by decide +kernel
theorem dX10_each_17 : decode cX10_each 17 = .ok (.invokestatic 76, 3) := by decide +kernel
theorem dX10_each_20 : decode cX10_each 20 = .ok (.ifCond .eq 25, 3) := by decide +kernel
theorem dX10_each_23 : decode cX10_each 23 = .ok (.iload_n 3, 1) := by decide +kernel
theorem dX10_each_24 : decode cX10_each 24 = .ok (.iconst 0, 1) := by decide +kernel
theorem dX10_each_25 : decode cX10_each 25 = .ok (.bipush 9, 2) := by decide +kernel
theorem dX10_each_27 : decode cX10_each 27 = .ok (.invokestatic 76, 3) := by decide +kernel
theorem dX10_each_30 : decode cX10_each 30 = .ok (.ifCond .eq 15, 3) := by decide +kernel
theorem dX10_each_33 : decode cX10_each 33 = .ok (.aload_n 0, 1) := by decide +kernel
theorem dX10_each_34 : decode cX10_each 34 = .ok (.iconst 3, 1) := by decide +kernel
theorem dX10_each_35 : decode cX10_each 35 = .ok (.iload_n 1, 1) := by decide +kernel
theorem dX10_each_36 : decode cX10_each 36 = .ok (.iload_n 2, 1) := by decide +kernel
theorem dX10_each_37 : decode cX10_each 37 = .ok (.iload_n 3, 1) := by decide +kernel
theorem dX10_each_38 : decode cX10_each 38 = .ok (.iconst 0, 1) := by decide +kernel
theorem dX10_each_39 : decode cX10_each 39 = .ok (.invokevirtual 221, 3) := by decide +kernel
theorem dX10_each_42 : decode cX10_each 42 = .ok (.goto 5, 3) := by decide +kernel
theorem dX10_each_45 : decode cX10_each 45 = .ok (.ldc 80, 2) := by decide +kernel
theorem dX10_each_47 : decode cX10_each 47 = .ok (.ireturn, 1) := by decide +kernel
theorem dX10_step_0 : decode cX10_step 0 = .ok (.aload_n 0, 1) := by decide +kernel
theorem dX10_step_1 : decode cX10_step 1 = .ok (.getfield 10, 3) := by decide +kernel
theorem dX10_step_4 : decode cX10_step 4 = .ok (.iload_n 1, 1) := by decide +kernel
theorem dX10_step_5 : decode cX10_step 5 = .ok (.invokevirtual 122, 3) := by decide +kernel
theorem dX10_step_8 : decode cX10_step 8 = .ok (.ifCond .eq 15, 3) := by decide +kernel
theorem dX10_step_11 : decode cX10_step 11 = .ok (.aload_n 0, 1) := by decide +kernel
theorem dX10_step_12 : decode cX10_step 12 = .ok (.iconst 4, 1) := by decide +kernel
theorem dX10_step_13 : decode cX10_step 13 = .ok (.iload_n 1, 1) := by decide +kernel
theorem dX10_step_14 : decode cX10_step 14 = .ok (.iconst 0, 1) := by decide +kernel
theorem dX10_step_15 : decode cX10_step 15 = .ok (.iconst 0, 1) := by decide +kernel
theorem dX10_step_16 : decode cX10_step 16 = .ok (.iconst 0, 1) := by decide +kernel
theorem dX10_step_17 : decode cX10_step 17 = .ok (.invokevirtual 221, 3) := by decide +kernel
theorem dX10_step_20 : decode cX10_step 20 = .ok (.goto 5, 3) := by decide +kernel
theorem dX10_step_23 : decode cX10_step 23 = .ok (.ldc 125, 2) := by decide +kernel
theorem dX10_step_25 : decode cX10_step 25 = .ok (.ireturn, 1) := by decide +kernel
theorem dX10_put_0 : decode cX10_put 0 = .ok (.aload_n 0, 1) := by decide +kernel
theorem dX10_put_1 : decode cX10_put 1 = .ok (.getfield 10, 3) := by decide +kernel
theorem dX10_put_4 : decode cX10_put 4 = .ok (.iload_n 1, 1) := by decide +kernel
theorem dX10_put_5 : decode cX10_put 5 = .ok (.invokevirtual 122, 3) := by decide +kernel
theorem dX10_put_8 : decode cX10_put 8 = .ok (.ifCond .ne 6, 3) := by decide +kernel
theorem dX10_put_11 : decode cX10_put 11 = .ok (.ldc 125, 2) := by decide +kernel
theorem dX10_put_13 : decode cX10_put 13 = .ok (.ireturn, 1) := by decide +kernel
theorem dX10_put_14 : decode cX10_put 14 = .ok (.iload_n 2, 1) := by decide +kernel
theorem dX10_put_15 : decode cX10_put 15 = .ok (.iconst 0, 1) := by decide +kernel
theorem dX10_put_16 : decode cX10_put 16 = .ok (.iconst 3, 1) := by decide +kernel
theorem dX10_put_17 : decode cX10_put 17 = .ok (.invokestatic 76, 3) := by decide +kernel
theorem dX10_put_20 : decode cX10_put 20 = .ok (.ifCond .ne 6, 3) := by decide +kernel
theorem dX10_put_23 : decode cX10_put 23 = .ok (.ldc 80, 2) := by decide +kernel
theorem dX10_put_25 : decode cX10_put 25 = .ok (.ireturn, 1) := by decide +kernel
theorem dX10_put_26 : decode cX10_put 26 = .ok (.aload_n 0, 1) := by decide +kernel
theorem dX10_put_27 : decode cX10_put 27 = .ok (.getfield 10, 3) := by decide +kernel
theorem dX10_put_30 : decode cX10_put 30 = .ok (.iload_n 1, 1) := by decide +kernel
theorem dX10_put_31 : decode cX10_put 31 = .ok (.invokevirtual 185, 3) := by decide +kernel
theorem dX10_put_34 : decode cX10_put 34 = .ok (.ifCond .ne 6, 3) := by decide +kernel
theorem dX10_put_37 : decode cX10_put 37 = .ok (.ldc 101, 2) := by decide +kernel
theorem dX10_put_39 : decode cX10_put 39 = .ok (.ireturn, 1) := by decide +kernel
theorem dX10_put_40 : decode cX10_put 40 = .ok (.iload_n 2, 1) := by decide +kernel
theorem dX10_put_41 : decode cX10_put 41 = .ok (.ifCond .eq 8, 3) := by decide +kernel
theorem dX10_put_44 : decode cX10_put 44 = .ok (.iload_n 2, 1) := by decide +kernel
theorem dX10_put_45 : decode cX10_put 45 = .ok (.iconst 1, 1) := by decide +kernel
theorem dX10_put_46 : decode cX10_put 46 = .ok (.if_icmp .ne 8, 3) := by decide +kernel
theorem dX10_put_49 : decode cX10_put 49 = .ok (.bipush 9, 2) := by decide +kernel
theorem dX10_put_51 : decode cX10_put 51 = .ok (.goto 6, 3) := by decide +kernel
theorem dX10_put_54 : decode cX10_put 54 = .ok (.sipush 999, 3) := by decide +kernel
theorem dX10_put_57 : decode cX10_put 57 = .ok (.istore 4, 2) := by decide +kernel
theorem dX10_put_59 : decode cX10_put 59 = .ok (.iload_n 3, 1) := by decide +kernel
theorem dX10_put_60 : decode cX10_put 60 = .ok (.iload 4, 2) := by decide +kernel
theorem dX10_put_62 : decode cX10_put 62 = .ok (.ineg, 1) := by decide +kernel
theorem dX10_put_63 : decode cX10_put 63 = .ok (.iload 4, 2) := by decide +kernel
theorem dX10_put_65 : decode cX10_put 65 = .ok (.invokestatic 76, 3) := by decide +kernel
theorem dX10_put_68 : decode cX10_put 68 = .ok (.ifCond .ne 6, 3) := by decide +kernel
theorem dX10_put_71 : decode cX10_put 71 = .ok (.ldc 80, 2) := by decide +kernel
theorem dX10_put_73 : decode cX10_put 73 = .ok (.ireturn, 1) := by decide +kernel
theorem dX10_put_74 : decode cX10_put 74 = .ok (.aload_n 0, 1) := by decide +kernel
theorem dX10_put_75 : decode cX10_put 75 = .ok (.getfield 10, 3) := by decide +kernel
theorem dX10_put_78 : decode cX10_put 78 = .ok (.iload_n 1, 1) := by decide +kernel
theorem dX10_put_79 : decode cX10_put 79 = .ok (.iload_n 2, 1) := by decide +kernel
theorem dX10_put_80 : decode cX10_put 80 = .ok (.invokevirtual 133, 3) := by decide +kernel
theorem dX10_put_83 : decode cX10_put 83 = .ok (.istore 5, 2) := by decide +kernel
theorem dX10_put_85 : decode cX10_put 85 = .ok (.aload_n 0, 1) := by decide +kernel
theorem dX10_put_86 : decode cX10_put 86 = .ok (.getfield 10, 3) := by decide +kernel
theorem dX10_put_89 : decode cX10_put 89 = .ok (.iload_n 1, 1) := by decide +kernel
theorem dX10_put_90 : decode cX10_put 90 = .ok (.iload_n 2, 1) := by decide +kernel
theorem dX10_put_91 : decode cX10_put 91 = .ok (.iload_n 3, 1) := by decide +kernel
theorem dX10_put_92 : decode cX10_put 92 = .ok (.invokevirtual 225, 3) := by decide +kernel
theorem dX10_put_95 : decode cX10_put 95 = .ok (.aload_n 0, 1) := by decide +kernel
theorem dX10_put_96 : decode cX10_put 96 = .ok (.iload_n 1, 1) := by decide +kernel
theorem dX10_put_97 : decode cX10_put 97 = .ok (.invokevirtual 110, 3) := by decide +kernel
theorem dX10_put_100 : decode cX10_put 100 = .ok (.iload 5, 2) := by decide +kernel
theorem dX10_put_102 : decode cX10_put 102 = .ok (.ireturn, 1) := by decide +kernel
theorem dX10_drop_0 : decode cX10_drop 0 = .ok (.aload_n 0, 1) := by decide +kernel
theorem dX10_drop_1 : decode cX10_drop 1 = .ok (.getfield 10, 3) := by decide +kernel
theorem dX10_drop_4 : decode cX10_drop 4 = .ok (.invokevirtual 121, 3) := by decide +kernel
theorem dX10_drop_7 : decode cX10_drop 7 = .ok (.ifCond .ne 6, 3) := by decide +kernel
theorem dX10_drop_10 : decode cX10_drop 10 = .ok (.ldc 101, 2) := by decide +kernel
theorem dX10_drop_12 : decode cX10_drop 12 = .ok (.ireturn, 1) := by decide +kernel
theorem dX10_drop_13 : decode cX10_drop 13 = .ok (.aload_n 0, 1) := by decide +kernel
theorem dX10_drop_14 : decode cX10_drop 14 = .ok (.getfield 10, 3) := by decide +kernel
theorem dX10_drop_17 : decode cX10_drop 17 = .ok (.invokevirtual 229, 3) := by decide +kernel
theorem dX10_drop_20 : decode cX10_drop 20 = .ok (.aload_n 0, 1) := by decide +kernel
theorem dX10_drop_21 : decode cX10_drop 21 = .ok (.aload_n 0, 1) := by decide +kernel
theorem dX10_drop_22 : decode cX10_drop 22 = .ok (.getfield 10, 3) := by decide +kernel
theorem dX10_drop_25 : decode cX10_drop 25 = .ok (.invokevirtual 121, 3) := by decide +kernel
theorem dX10_drop_28 : decode cX10_drop 28 = .ok (.invokevirtual 110, 3) := by decide +kernel
theorem dX10_drop_31 : decode cX10_drop 31 = .ok (.aload_n 0, 1) := by decide +kernel
theorem dX10_drop_32 : decode cX10_drop 32 = .ok (.getfield 10, 3) := by decide +kernel
theorem dX10_drop_35 : decode cX10_drop 35 = .ok (.invokevirtual 121, 3) := by decide +kernel
theorem dX10_drop_38 : decode cX10_drop 38 = .ok (.ireturn, 1) := by decide +kernel
theorem dX10_ease_0 : decode cX10_ease 0 = .ok (.aload_n 0, 1) := by decide +kernel
theorem dX10_ease_1 : decode cX10_ease 1 = .ok (.getfield 10, 3) := by decide +kernel
theorem dX10_ease_4 : decode cX10_ease 4 = .ok (.iload_n 1, 1) := by decide +kernel
theorem dX10_ease_5 : decode cX10_ease 5 = .ok (.invokevirtual 122, 3) := by decide +kernel
theorem dX10_ease_8 : decode cX10_ease 8 = .ok (.ifCond .ne 6, 3) := by decide +kernel
theorem dX10_ease_11 : decode cX10_ease 11 = .ok (.ldc 125, 2) := by decide +kernel
theorem dX10_ease_13 : decode cX10_ease 13 = .ok (.ireturn, 1) := by decide +kernel
theorem dX10_ease_14 : decode cX10_ease 14 = .ok (.aload_n 0, 1) := by decide +kernel
theorem dX10_ease_15 : decode cX10_ease 15 = .ok (.getfield 10, 3) := by decide +kernel
theorem dX10_ease_18 : decode cX10_ease 18 = .ok (.iload_n 1, 1) := by decide +kernel
theorem dX10_ease_19 : decode cX10_ease 19 = .ok (.invokevirtual 126, 3) := by decide +kernel
theorem dX10_ease_22 : decode cX10_ease 22 = .ok (.istore_n 2, 1) := by decide +kernel
theorem dX10_ease_23 : decode cX10_ease 23 = .ok (.aload_n 0, 1) := by decide +kernel
theorem dX10_ease_24 : decode cX10_ease 24 = .ok (.iload_n 1, 1) := by decide +kernel
theorem dX10_ease_25 : decode cX10_ease 25 = .ok (.invokevirtual 232, 3) := by decide +kernel
theorem dX10_ease_28 : decode cX10_ease 28 = .ok (.ifCond .ne 6, 3) := by decide +kernel
theorem dX10_ease_31 : decode cX10_ease 31 = .ok (.ldc 101, 2) := by decide +kernel
theorem dX10_ease_33 : decode cX10_ease 33 = .ok (.ireturn, 1) := by decide +kernel
theorem dX10_ease_34 : decode cX10_ease 34 = .ok (.iload_n 2, 1) := by decide +kernel
theorem dX10_ease_35 : decode cX10_ease 35 = .ok (.iconst 1, 1) := by decide +kernel
theorem dX10_ease_36 : decode cX10_ease 36 = .ok (.if_icmp .ne 13, 3) := by decide +kernel
theorem dX10_ease_39 : decode cX10_ease 39 = .ok (.aload_n 0, 1) := by decide +kernel
theorem dX10_ease_40 : decode cX10_ease 40 = .ok (.iload_n 1, 1) := by decide +kernel
theorem dX10_ease_41 : decode cX10_ease 41 = .ok (.iconst 0, 1) := by decide +kernel
theorem dX10_ease_42 : decode cX10_ease 42 = .ok (.iconst 0, 1) := by decide +kernel
theorem dX10_ease_43 : decode cX10_ease 43 = .ok (.invokevirtual 235, 3) := by decide +kernel
theorem dX10_ease_46 : decode cX10_ease 46 = .ok (.goto 12, 3) := by decide +kernel
theorem dX10_ease_49 : decode cX10_ease 49 = .ok (.aload_n 0, 1) := by decide +kernel
theorem dX10_ease_50 : decode cX10_ease 50 = .ok (.getfield 10, 3) := by decide +kernel
theorem dX10_ease_53 : decode cX10_ease 53 = .ok (.iload_n 1, 1) := by decide +kernel
theorem dX10_ease_54 : decode cX10_ease 54 = .ok (.iconst 1, 1) := by decide +kernel
theorem dX10_ease_55 : decode cX10_ease 55 = .ok (.invokestatic 182, 3) := by decide +kernel
theorem dX10_ease_58 : decode cX10_ease 58 = .ok (.istore_n 3, 1) := by decide +kernel
theorem dX10_ease_59 : decode cX10_ease 59 = .ok (.iload_n 2, 1) := by decide +kernel
theorem dX10_ease_60 : decode cX10_ease 60 = .ok (.iconst 1, 1) := by decide +kernel
theorem dX10_ease_61 : decode cX10_ease 61 = .ok (.if_icmp .ne 13, 3) := by decide +kernel
theorem dX10_ease_64 : decode cX10_ease 64 = .ok (.aload_n 0, 1) := by decide +kernel
theorem dX10_ease_65 : decode cX10_ease 65 = .ok (.iload_n 1, 1) := by decide +kernel
theorem dX10_ease_66 : decode cX10_ease 66 = .ok (.iconst 0, 1) := by decide +kernel
theorem dX10_ease_67 : decode cX10_ease 67 = .ok (.iconst 1, 1) := by decide +kernel
theorem dX10_ease_68 : decode cX10_ease 68 = .ok (.invokevirtual 235, 3) := by decide +kernel
theorem dX10_ease_71 : decode cX10_ease 71 = .ok (.goto 12, 3) := by decide +kernel
theorem dX10_ease_74 : decode cX10_ease 74 = .ok (.aload_n 0, 1) := by decide +kernel
theorem dX10_ease_75 : decode cX10_ease 75 = .ok (.getfield 10, 3) := by decide +kernel
theorem dX10_ease_78 : decode cX10_ease 78 = .ok (.iload_n 1, 1) := by decide +kernel
theorem dX10_ease_79 : decode cX10_ease 79 = .ok (.iconst 2, 1) := by decide +kernel
theorem dX10_ease_80 : decode cX10_ease 80 = .ok (.invokestatic 182, 3) := by decide +kernel
theorem dX10_ease_83 : decode cX10_ease 83 = .ok (.istore 4, 2) := by decide +kernel
theorem dX10_ease_85 : decode cX10_ease 85 = .ok (.aload_n 0, 1) := by decide +kernel
theorem dX10_ease_86 : decode cX10_ease 86 = .ok (.getfield 45, 3) := by decide +kernel
theorem dX10_ease_89 : decode cX10_ease 89 = .ok (.aload_n 0, 1) := by decide +kernel
theorem dX10_ease_90 : decode cX10_ease 90 = .ok (.getfield 10, 3) := by decide +kernel
theorem dX10_ease_93 : decode cX10_ease 93 = .ok (.iload_n 1, 1) := by decide +kernel
theorem dX10_ease_94 : decode cX10_ease 94 = .ok (.iconst 0, 1) := by decide +kernel
theorem dX10_ease_95 : decode cX10_ease 95 = .ok (.invokevirtual 141, 3) := by decide +kernel
theorem dX10_ease_98 : decode cX10_ease 98 = .ok (.istore 5, 2) := by decide +kernel
theorem dX10_ease_100 : decode cX10_ease 100 = .ok (.aload_n 0, 1) := by decide +kernel
theorem dX10_ease_101 : decode cX10_ease 101 = .ok (.getfield 45, 3) := by decide +kernel
theorem dX10_ease_104 : decode cX10_ease 104 = .ok (.aload_n 0, 1) := by decide +kernel
theorem dX10_ease_105 : decode cX10_ease 105 = .ok (.getfield 10, 3) := by decide +kernel
theorem dX10_ease_108 : decode cX10_ease 108 = .ok (.iload_n 1, 1) := by decide +kernel
theorem dX10_ease_109 : decode cX10_ease 109 = .ok (.iconst 1, 1) := by decide +kernel
theorem dX10_ease_110 : decode cX10_ease 110 = .ok (.invokevirtual 141, 3) := by decide +kernel
theorem dX10_ease_113 : decode cX10_ease 113 = .ok (.istore 6, 2) := by decide +kernel
theorem dX10_ease_115 : decode cX10_ease 115 = .ok (.iload_n 3, 1) := by decide +kernel
theorem dX10_ease_116 : decode cX10_ease 116 = .ok (.iload 4, 2) := by decide +kernel
theorem dX10_ease_118 : decode cX10_ease 118 = .ok (.iload 5, 2) := by decide +kernel
theorem dX10_ease_120 : decode cX10_ease 120 = .ok (.iload 6, 2) := by decide +kernel
theorem dX10_ease_122 : decode cX10_ease 122 = .ok (.invokestatic 217, 3) := by decide +kernel
theorem dX10_ease_125 : decode cX10_ease 125 = .ok (.ifCond .ne 6, 3) := by decide +kernel
theorem dX10_ease_128 : decode cX10_ease 128 = .ok (.ldc 101, 2) := by decide +kernel
theorem dX10_ease_130 : decode cX10_ease 130 = .ok (.ireturn, 1) := by decide +kernel
theorem dX10_ease_131 : decode cX10_ease 131 = .ok (.aload_n 0, 1) := by decide +kernel
theorem dX10_ease_132 : decode cX10_ease 132 = .ok (.getfield 10, 3) := by decide +kernel
theorem dX10_ease_135 : decode cX10_ease 135 = .ok (.iload_n 1, 1) := by decide +kernel
theorem dX10_ease_136 : decode cX10_ease 136 = .ok (.iconst 0, 1) := by decide +kernel
theorem dX10_ease_137 : decode cX10_ease 137 = .ok (.iload_n 3, 1) := by decide +kernel
theorem dX10_ease_138 : decode cX10_ease 138 = .ok (.iload 4, 2) := by decide +kernel
theorem dX10_ease_140 : decode cX10_ease 140 = .ok (.iload 5, 2) := by decide +kernel
theorem dX10_ease_142 : decode cX10_ease 142 = .ok (.iload 6, 2) := by decide +kernel
theorem dX10_ease_144 : decode cX10_ease 144 = .ok (.invokevirtual 238, 3) := by decide +kernel
theorem dX10_ease_147 : decode cX10_ease 147 = .ok (.aload_n 0, 1) := by decide +kernel
theorem dX10_ease_148 : decode cX10_ease 148 = .ok (.iload_n 1, 1) := by decide +kernel
theorem dX10_ease_149 : decode cX10_ease 149 = .ok (.invokevirtual 110, 3) := by decide +kernel
theorem dX10_ease_152 : decode cX10_ease 152 = .ok (.iload_n 2, 1) := by decide +kernel
theorem dX10_ease_153 : decode cX10_ease 153 = .ok (.ireturn, 1) := by decide +kernel
theorem dX10_give_0 : decode cX10_give 0 = .ok (.iload_n 1, 1) := by decide +kernel
theorem dX10_give_1 : decode cX10_give 1 = .ok (.bipush (-99), 2) := by decide +kernel
theorem dX10_give_3 : decode cX10_give 3 = .ok (.bipush 99, 2) := by decide +kernel
theorem dX10_give_5 : decode cX10_give 5 = .ok (.invokestatic 76, 3) := by decide +kernel
theorem dX10_give_8 : decode cX10_give 8 = .ok (.ifCond .ne 6, 3) := by decide +kernel
theorem dX10_give_11 : decode cX10_give 11 = .ok (.ldc 80, 2) := by decide +kernel
theorem dX10_give_13 : decode cX10_give 13 = .ok (.ireturn, 1) := by decide +kernel
theorem dX10_give_14 : decode cX10_give 14 = .ok (.aload_n 0, 1) := by decide +kernel
theorem dX10_give_15 : decode cX10_give 15 = .ok (.getfield 21, 3) := by decide +kernel
theorem dX10_give_18 : decode cX10_give 18 = .ok (.iload_n 1, 1) := by decide +kernel
theorem dX10_give_19 : decode cX10_give 19 = .ok (.invokevirtual 81, 3) := by decide +kernel
theorem dX10_give_22 : decode cX10_give 22 = .ok (.ifCond .eq 13, 3) := by decide +kernel
theorem dX10_give_25 : decode cX10_give 25 = .ok (.aload_n 0, 1) := by decide +kernel
theorem dX10_give_26 : decode cX10_give 26 = .ok (.getfield 21, 3) := by decide +kernel
theorem dX10_give_29 : decode cX10_give 29 = .ok (.invokevirtual 85, 3) := by decide +kernel
theorem dX10_give_32 : decode cX10_give 32 = .ok (.goto 5, 3) := by decide +kernel
theorem dX10_give_35 : decode cX10_give 35 = .ok (.ldc 89, 2) := by decide +kernel
theorem dX10_give_37 : decode cX10_give 37 = .ok (.ireturn, 1) := by decide +kernel
theorem dX10_forget_0 : decode cX10_forget 0 = .ok (.aload_n 0, 1) := by decide +kernel
theorem dX10_forget_1 : decode cX10_forget 1 = .ok (.getfield 21, 3) := by decide +kernel
theorem dX10_forget_4 : decode cX10_forget 4 = .ok (.invokevirtual 85, 3) := by decide +kernel
theorem dX10_forget_7 : decode cX10_forget 7 = .ok (.istore_n 1, 1) := by decide +kernel
theorem dX10_forget_8 : decode cX10_forget 8 = .ok (.aload_n 0, 1) := by decide +kernel
theorem dX10_forget_9 : decode cX10_forget 9 = .ok (.getfield 21, 3) := by decide +kernel
theorem dX10_forget_12 : decode cX10_forget 12 = .ok (.invokevirtual 90, 3) := by decide +kernel
theorem dX10_forget_15 : decode cX10_forget 15 = .ok (.iload_n 1, 1) := by decide +kernel
theorem dX10_forget_16 : decode cX10_forget 16 = .ok (.ireturn, 1) := by decide +kernel
theorem dX10_guess_0 : decode cX10_guess 0 = .ok (.iload_n 1, 1) := by decide +kernel
theorem dX10_guess_1 : decode cX10_guess 1 = .ok (.iconst 0, 1) := by decide +kernel
theorem dX10_guess_2 : decode cX10_guess 2 = .ok (.iconst 2, 1) := by decide +kernel
theorem dX10_guess_3 : decode cX10_guess 3 = .ok (.invokestatic 76, 3) := by decide +kernel
theorem dX10_guess_6 : decode cX10_guess 6 = .ok (.ifCond .ne 6, 3) := by decide +kernel
theorem dX10_guess_9 : decode cX10_guess 9 = .ok (.ldc 80, 2) := by decide +kernel
theorem dX10_guess_11 : decode cX10_guess 11 = .ok (.ireturn, 1) := by decide +kernel
theorem dX10_guess_12 : decode cX10_guess 12 = .ok (.aload_n 0, 1) := by decide +kernel
theorem dX10_guess_13 : decode cX10_guess 13 = .ok (.getfield 38, 3) := by decide +kernel
theorem dX10_guess_16 : decode cX10_guess 16 = .ok (.aload_n 0, 1) := by decide +kernel
theorem dX10_guess_17 : decode cX10_guess 17 = .ok (.getfield 21, 3) := by decide +kernel
theorem dX10_guess_20 : decode cX10_guess 20 = .ok (.invokevirtual 242, 3) := by decide +kernel
theorem dX10_guess_23 : decode cX10_guess 23 = .ok (.ifCond .ne 6, 3) := by decide +kernel
theorem dX10_guess_26 : decode cX10_guess 26 = .ok (.ldc 137, 2) := by decide +kernel
theorem dX10_guess_28 : decode cX10_guess 28 = .ok (.ireturn, 1) := by decide +kernel
theorem dX10_guess_29 : decode cX10_guess 29 = .ok (.iload_n 1, 1) := by decide +kernel
theorem dX10_guess_30 : decode cX10_guess 30 = .ok (.ifCond .ne 11, 3) := by decide +kernel
theorem dX10_guess_33 : decode cX10_guess 33 = .ok (.aload_n 0, 1) := by decide +kernel
theorem dX10_guess_34 : decode cX10_guess 34 = .ok (.getfield 38, 3) := by decide +kernel
theorem dX10_guess_37 : decode cX10_guess 37 = .ok (.invokevirtual 245, 3) := by decide +kernel
theorem dX10_guess_40 : decode cX10_guess 40 = .ok (.ireturn, 1) := by decide +kernel
theorem dX10_guess_41 : decode cX10_guess 41 = .ok (.iload_n 1, 1) := by decide +kernel
theorem dX10_guess_42 : decode cX10_guess 42 = .ok (.iconst 1, 1) := by decide +kernel
theorem dX10_guess_43 : decode cX10_guess 43 = .ok (.if_icmp .ne 13, 3) := by decide +kernel
theorem dX10_guess_46 : decode cX10_guess 46 = .ok (.aload_n 0, 1) := by decide +kernel
theorem dX10_guess_47 : decode cX10_guess 47 = .ok (.getfield 38, 3) := by decide +kernel
theorem dX10_guess_50 : decode cX10_guess 50 = .ok (.invokevirtual 248, 3) := by decide +kernel
theorem dX10_guess_53 : decode cX10_guess 53 = .ok (.goto 10, 3) := by decide +kernel
theorem dX10_guess_56 : decode cX10_guess 56 = .ok (.aload_n 0, 1) := by decide +kernel
theorem dX10_guess_57 : decode cX10_guess 57 = .ok (.getfield 38, 3) := by decide +kernel
theorem dX10_guess_60 : decode cX10_guess 60 = .ok (.invokevirtual 251, 3) := by decide +kernel
theorem dX10_guess_63 : decode cX10_guess 63 = .ok (.ireturn, 1) := by decide +kernel
theorem dX10_found_0 : decode cX10_found 0 = .ok (.aload_n 0, 1) := by decide +kernel
theorem dX10_found_1 : decode cX10_found 1 = .ok (.getfield 38, 3) := by decide +kernel
theorem dX10_found_4 : decode cX10_found 4 = .ok (.aload_n 0, 1) := by decide +kernel
theorem dX10_found_5 : decode cX10_found 5 = .ok (.getfield 21, 3) := by decide +kernel
theorem dX10_found_8 : decode cX10_found 8 = .ok (.invokevirtual 242, 3) := by decide +kernel
theorem dX10_found_11 : decode cX10_found 11 = .ok (.ifCond .ne 6, 3) := by decide +kernel
theorem dX10_found_14 : decode cX10_found 14 = .ok (.ldc 101, 2) := by decide +kernel
theorem dX10_found_16 : decode cX10_found 16 = .ok (.ireturn, 1) := by decide +kernel
theorem dX10_found_17 : decode cX10_found 17 = .ok (.aload_n 0, 1) := by decide +kernel
theorem dX10_found_18 : decode cX10_found 18 = .ok (.getfield 38, 3) := by decide +kernel
theorem dX10_found_21 : decode cX10_found 21 = .ok (.invokevirtual 245, 3) := by decide +kernel
theorem dX10_found_24 : decode cX10_found 24 = .ok (.lookupswitch 76 #[(0, 28), (1, 38)], 28) := by decide +kernel
theorem dX10_found_52 : decode cX10_found 52 = .ok (.aload_n 0, 1) := by decide +kernel
theorem dX10_found_53 : decode cX10_found 53 = .ok (.iconst 0, 1) := by decide +kernel
theorem dX10_found_54 : decode cX10_found 54 = .ok (.iconst 0, 1) := by decide +kernel
theorem dX10_found_55 : decode cX10_found 55 = .ok (.iconst 0, 1) := by decide +kernel
theorem dX10_found_56 : decode cX10_found 56 = .ok (.iconst 0, 1) := by decide +kernel
theorem dX10_found_57 : decode cX10_found 57 = .ok (.iconst 0, 1) := by decide +kernel
theorem dX10_found_58 : decode cX10_found 58 = .ok (.invokevirtual 221, 3) := by decide +kernel
theorem dX10_found_61 : decode cX10_found 61 = .ok (.ireturn, 1) := by decide +kernel
theorem dX10_found_62 : decode cX10_found 62 = .ok (.aload_n 0, 1) := by decide +kernel
theorem dX10_found_63 : decode cX10_found 63 = .ok (.iconst 0, 1) := by decide +kernel
theorem dX10_found_64 : decode cX10_found 64 = .ok (.aload_n 0, 1) := by decide +kernel
theorem dX10_found_65 : decode cX10_found 65 = .ok (.getfield 38, 3) := by decide +kernel
theorem dX10_found_68 : decode cX10_found 68 = .ok (.invokevirtual 248, 3) := by decide +kernel
theorem dX10_found_71 : decode cX10_found 71 = .ok (.iconst 0, 1) := by decide +kernel
theorem dX10_found_72 : decode cX10_found 72 = .ok (.aload_n 0, 1) := by decide +kernel
theorem dX10_found_73 : decode cX10_found 73 = .ok (.getfield 21, 3) := by decide +kernel
theorem dX10_found_76 : decode cX10_found 76 = .ok (.iconst 0, 1) := by decide +kernel
theorem dX10_found_77 : decode cX10_found 77 = .ok (.invokevirtual 254, 3) := by decide +kernel
theorem dX10_found_80 : decode cX10_found 80 = .ok (.aload_n 0, 1) := by decide +kernel
theorem dX10_found_81 : decode cX10_found 81 = .ok (.getfield 38, 3) := by decide +kernel
theorem dX10_found_84 : decode cX10_found 84 = .ok (.invokevirtual 248, 3) := by decide +kernel
theorem dX10_found_87 : decode cX10_found 87 = .ok (.aload_n 0, 1) := by decide +kernel
theorem dX10_found_88 : decode cX10_found 88 = .ok (.getfield 21, 3) := by decide +kernel
theorem dX10_found_91 : decode cX10_found 91 = .ok (.iconst 0, 1) := by decide +kernel
theorem dX10_found_92 : decode cX10_found 92 = .ok (.invokevirtual 254, 3) := by decide +kernel
theorem dX10_found_95 : decode cX10_found 95 = .ok (.imul, 1) := by decide +kernel
theorem dX10_found_96 : decode cX10_found 96 = .ok (.invokevirtual 221, 3) := by decide +kernel
theorem dX10_found_99 : decode cX10_found 99 = .ok (.ireturn, 1) := by decide +kernel
theorem dX10_found_100 : decode cX10_found 100 = .ok (.aload_n 0, 1) := by decide +kernel
theorem dX10_found_101 : decode cX10_found 101 = .ok (.iconst 0, 1) := by decide +kernel
theorem dX10_found_102 : decode cX10_found 102 = .ok (.aload_n 0, 1) := by decide +kernel
theorem dX10_found_103 : decode cX10_found 103 = .ok (.getfield 38, 3) := by decide +kernel
theorem dX10_found_106 : decode cX10_found 106 = .ok (.invokevirtual 248, 3) := by decide +kernel
theorem dX10_found_109 : decode cX10_found 109 = .ok (.aload_n 0, 1) := by decide +kernel
theorem dX10_found_110 : decode cX10_found 110 = .ok (.getfield 38, 3) := by decide +kernel
theorem dX10_found_113 : decode cX10_found 113 = .ok (.invokevirtual 251, 3) := by decide +kernel
theorem dX10_found_116 : decode cX10_found 116 = .ok (.aload_n 0, 1) := by decide +kernel
theorem dX10_found_117 : decode cX10_found 117 = .ok (.getfield 21, 3) := by decide +kernel
theorem dX10_found_120 : decode cX10_found 120 = .ok (.iconst 0, 1) := by decide +kernel
theorem dX10_found_121 : decode cX10_found 121 = .ok (.invokevirtual 254, 3) := by decide +kernel
theorem dX10_found_124 : decode cX10_found 124 = .ok (.aload_n 0, 1) := by decide +kernel
theorem dX10_found_125 : decode cX10_found 125 = .ok (.getfield 21, 3) := by decide +kernel
theorem dX10_found_128 : decode cX10_found 128 = .ok (.iconst 1, 1) := by decide +kernel
theorem dX10_found_129 : decode cX10_found 129 = .ok (.invokevirtual 254, 3) := by decide +kernel
theorem dX10_found_132 : decode cX10_found 132 = .ok (.invokevirtual 221, 3) := by decide +kernel
theorem dX10_found_135 : decode cX10_found 135 = .ok (.ireturn, 1) := by decide +kernel
theorem dX10_drawn_0 : decode cX10_drawn 0 = .ok (.iload_n 1, 1) := by decide +kernel
theorem dX10_drawn_1 : decode cX10_drawn 1 = .ok (.iconst 1, 1) := by decide +kernel
theorem dX10_drawn_2 : decode cX10_drawn 2 = .ok (.bipush 30, 2) := by decide +kernel
theorem dX10_drawn_4 : decode cX10_drawn 4 = .ok (.invokestatic 76, 3) := by decide +kernel
theorem dX10_drawn_7 : decode cX10_drawn 7 = .ok (.ifCond .eq 16, 3) := by decide +kernel
theorem dX10_drawn_10 : decode cX10_drawn 10 = .ok (.iload_n 2, 1) := by decide +kernel
theorem dX10_drawn_11 : decode cX10_drawn 11 = .ok (.ifCond .lt 12, 3) := by decide +kernel
theorem dX10_drawn_14 : decode cX10_drawn 14 = .ok (.iload_n 3, 1) := by decide +kernel
theorem dX10_drawn_15 : decode cX10_drawn 15 = .ok (.iconst 0, 1) := by decide +kernel
theorem dX10_drawn_16 : decode cX10_drawn 16 = .ok (.iconst 2, 1) := by decide +kernel
theorem dX10_drawn_17 : decode cX10_drawn 17 = .ok (.invokestatic 76, 3) := by decide +kernel
theorem dX10_drawn_20 : decode cX10_drawn 20 = .ok (.ifCond .ne 6, 3) := by decide +kernel
theorem dX10_drawn_23 : decode cX10_drawn 23 = .ok (.ldc 80, 2) := by decide +kernel
theorem dX10_drawn_25 : decode cX10_drawn 25 = .ok (.ireturn, 1) := by decide +kernel
theorem dX10_drawn_26 : decode cX10_drawn 26 = .ok (.iload_n 2, 1) := by decide +kernel
theorem dX10_drawn_27 : decode cX10_drawn 27 = .ok (.istore 4, 2) := by decide +kernel
theorem dX10_drawn_29 : decode cX10_drawn 29 = .ok (.iconst 0, 1) := by decide +kernel
theorem dX10_drawn_30 : decode cX10_drawn 30 = .ok (.istore 5, 2) := by decide +kernel
theorem dX10_drawn_32 : decode cX10_drawn 32 = .ok (.iconst 0, 1) := by decide +kernel
theorem dX10_drawn_33 : decode cX10_drawn 33 = .ok (.istore 6, 2) := by decide +kernel
theorem dX10_drawn_35 : decode cX10_drawn 35 = .ok (.iconst 0, 1) := by decide +kernel
theorem dX10_drawn_36 : decode cX10_drawn 36 = .ok (.istore 7, 2) := by decide +kernel
theorem dX10_drawn_38 : decode cX10_drawn 38 = .ok (.iload 7, 2) := by decide +kernel
theorem dX10_drawn_40 : decode cX10_drawn 40 = .ok (.iload_n 1, 1) := by decide +kernel
theorem dX10_drawn_41 : decode cX10_drawn 41 = .ok (.if_icmp .ge 97, 3) := by decide +kernel
theorem dX10_drawn_44 : decode cX10_drawn 44 = .ok (.iload 4, 2) := by decide +kernel
theorem dX10_drawn_46 : decode cX10_drawn 46 = .ok (.invokestatic 255, 3) := by decide +kernel
theorem dX10_drawn_49 : decode cX10_drawn 49 = .ok (.istore 8, 2) := by decide +kernel
theorem dX10_drawn_51 : decode cX10_drawn 51 = .ok (.iload 8, 2) := by decide +kernel
theorem dX10_drawn_53 : decode cX10_drawn 53 = .ok (.invokestatic 255, 3) := by decide +kernel
theorem dX10_drawn_56 : decode cX10_drawn 56 = .ok (.istore 9, 2) := by decide +kernel
theorem dX10_drawn_58 : decode cX10_drawn 58 = .ok (.iload 9, 2) := by decide +kernel
theorem dX10_drawn_60 : decode cX10_drawn 60 = .ok (.invokestatic 255, 3) := by decide +kernel
theorem dX10_drawn_63 : decode cX10_drawn 63 = .ok (.istore 10, 2) := by decide +kernel
theorem dX10_drawn_65 : decode cX10_drawn 65 = .ok (.iload 10, 2) := by decide +kernel
theorem dX10_drawn_67 : decode cX10_drawn 67 = .ok (.invokestatic 255, 3) := by decide +kernel
theorem dX10_drawn_70 : decode cX10_drawn 70 = .ok (.istore 4, 2) := by decide +kernel
theorem dX10_drawn_72 : decode cX10_drawn 72 = .ok (.iload 8, 2) := by decide +kernel
theorem dX10_drawn_74 : decode cX10_drawn 74 = .ok (.invokestatic 258, 3) := by decide +kernel
theorem dX10_drawn_77 : decode cX10_drawn 77 = .ok (.istore 11, 2) := by decide +kernel
theorem dX10_drawn_79 : decode cX10_drawn 79 = .ok (.iload 9, 2) := by decide +kernel
theorem dX10_drawn_81 : decode cX10_drawn 81 = .ok (.invokestatic 258, 3) := by decide +kernel
theorem dX10_drawn_84 : decode cX10_drawn 84 = .ok (.istore 12, 2) := by decide +kernel
theorem dX10_drawn_86 : decode cX10_drawn 86 = .ok (.aload_n 0, 1) := by decide +kernel
theorem dX10_drawn_87 : decode cX10_drawn 87 = .ok (.getfield 66, 3) := by decide +kernel
theorem dX10_drawn_90 : decode cX10_drawn 90 = .ok (.iload 11, 2) := by decide +kernel
theorem dX10_drawn_92 : decode cX10_drawn 92 = .ok (.iload 12, 2) := by decide +kernel
theorem dX10_drawn_94 : decode cX10_drawn 94 = .ok (.iload 10, 2) := by decide +kernel
theorem dX10_drawn_96 : decode cX10_drawn 96 = .ok (.invokestatic 258, 3) := by decide +kernel
theorem dX10_drawn_99 : decode cX10_drawn 99 = .ok (.iload 4, 2) := by decide +kernel
theorem dX10_drawn_101 : decode cX10_drawn 101 = .ok (.invokestatic 258, 3) := by decide +kernel
theorem dX10_drawn_104 : decode cX10_drawn 104 = .ok (.invokevirtual 261, 3) := by decide +kernel
theorem dX10_drawn_107 : decode cX10_drawn 107 = .ok (.iload 5, 2) := by decide +kernel
theorem dX10_drawn_109 : decode cX10_drawn 109 = .ok (.aload_n 0, 1) := by decide +kernel
theorem dX10_drawn_110 : decode cX10_drawn 110 = .ok (.getfield 66, 3) := by decide +kernel
theorem dX10_drawn_113 : decode cX10_drawn 113 = .ok (.invokevirtual 154, 3) := by decide +kernel
theorem dX10_drawn_116 : decode cX10_drawn 116 = .ok (.iadd, 1) := by decide +kernel
theorem dX10_drawn_117 : decode cX10_drawn 117 = .ok (.istore 5, 2) := by decide +kernel
theorem dX10_drawn_119 : decode cX10_drawn 119 = .ok (.iload 11, 2) := by decide +kernel
theorem dX10_drawn_121 : decode cX10_drawn 121 = .ok (.iload 12, 2) := by decide +kernel
theorem dX10_drawn_123 : decode cX10_drawn 123 = .ok (.invokestatic 199, 3) := by decide +kernel
theorem dX10_drawn_126 : decode cX10_drawn 126 = .ok (.ifCond .eq 6, 3) := by decide +kernel
theorem dX10_drawn_129 : decode cX10_drawn 129 = .ok (.iinc 6 1, 3) := by decide +kernel
theorem dX10_drawn_132 : decode cX10_drawn 132 = .ok (.iinc 7 1, 3) := by decide +kernel
theorem dX10_drawn_135 : decode cX10_drawn 135 = .ok (.goto (-97), 3) := by decide +kernel
theorem dX10_drawn_138 : decode cX10_drawn 138 = .ok (.iload_n 3, 1) := by decide +kernel
theorem dX10_drawn_139 : decode cX10_drawn 139 = .ok (.ifCond .ne 6, 3) := by decide +kernel
theorem dX10_drawn_142 : decode cX10_drawn 142 = .ok (.iload 5, 2) := by decide +kernel
theorem dX10_drawn_144 : decode cX10_drawn 144 = .ok (.ireturn, 1) := by decide +kernel
theorem dX10_drawn_145 : decode cX10_drawn 145 = .ok (.iload_n 3, 1) := by decide +kernel
theorem dX10_drawn_146 : decode cX10_drawn 146 = .ok (.iconst 1, 1) := by decide +kernel
theorem dX10_drawn_147 : decode cX10_drawn 147 = .ok (.if_icmp .ne 8, 3) := by decide +kernel
theorem dX10_drawn_150 : decode cX10_drawn 150 = .ok (.iload 6, 2) := by decide +kernel
theorem dX10_drawn_152 : decode cX10_drawn 152 = .ok (.goto 5, 3) := by decide +kernel
theorem dX10_drawn_155 : decode cX10_drawn 155 = .ok (.iload 4, 2) := by decide +kernel
theorem dX10_drawn_157 : decode cX10_drawn 157 = .ok (.ireturn, 1) := by decide +kernel
theorem dX10_image_0 : decode cX10_image 0 = .ok (.aload_n 0, 1) := by decide +kernel
theorem dX10_image_1 : decode cX10_image 1 = .ok (.getfield 10, 3) := by decide +kernel
theorem dX10_image_4 : decode cX10_image 4 = .ok (.invokevirtual 121, 3) := by decide +kernel
theorem dX10_image_7 : decode cX10_image 7 = .ok (.ifCond .ne 6, 3) := by decide +kernel
theorem dX10_image_10 : decode cX10_image 10 = .ok (.ldc 101, 2) := by decide +kernel
theorem dX10_image_12 : decode cX10_image 12 = .ok (.ireturn, 1) := by decide +kernel
theorem dX10_image_13 : decode cX10_image 13 = .ok (.aload_n 0, 1) := by decide +kernel
theorem dX10_image_14 : decode cX10_image 14 = .ok (.getfield 70, 3) := by decide +kernel
theorem dX10_image_17 : decode cX10_image 17 = .ok (.aload_n 0, 1) := by decide +kernel
theorem dX10_image_18 : decode cX10_image 18 = .ok (.getfield 10, 3) := by decide +kernel
theorem dX10_image_21 : decode cX10_image 21 = .ok (.invokevirtual 106, 3) := by decide +kernel
theorem dX10_image_24 : decode cX10_image 24 = .ok (.aload_n 0, 1) := by decide +kernel
theorem dX10_image_25 : decode cX10_image 25 = .ok (.getfield 73, 3) := by decide +kernel
theorem dX10_image_28 : decode cX10_image 28 = .ok (.aload_n 0, 1) := by decide +kernel
theorem dX10_image_29 : decode cX10_image 29 = .ok (.getfield 21, 3) := by decide +kernel
theorem dX10_image_32 : decode cX10_image 32 = .ok (.invokevirtual 265, 3) := by decide +kernel
theorem dX10_image_35 : decode cX10_image 35 = .ok (.aload_n 0, 1) := by decide +kernel
theorem dX10_image_36 : decode cX10_image 36 = .ok (.iconst 1, 1) := by decide +kernel
theorem dX10_image_37 : decode cX10_image 37 = .ok (.putfield 113, 3) := by decide +kernel
theorem dX10_image_40 : decode cX10_image 40 = .ok (.aload_n 0, 1) := by decide +kernel
theorem dX10_image_41 : decode cX10_image 41 = .ok (.getfield 10, 3) := by decide +kernel
theorem dX10_image_44 : decode cX10_image 44 = .ok (.invokevirtual 121, 3) := by decide +kernel
theorem dX10_image_47 : decode cX10_image 47 = .ok (.ireturn, 1) := by decide +kernel
theorem dX10_restore_0 : decode cX10_restore 0 = .ok (.aload_n 0, 1) := by decide +kernel
theorem dX10_restore_1 : decode cX10_restore 1 = .ok (.getfield 113, 3) := by decide +kernel
theorem dX10_restore_4 : decode cX10_restore 4 = .ok (.ifCond .ne 6, 3) := by decide +kernel
theorem dX10_restore_7 : decode cX10_restore 7 = .ok (.ldc 101, 2) := by decide +kernel
theorem dX10_restore_9 : decode cX10_restore 9 = .ok (.ireturn, 1) := by decide +kernel
theorem dX10_restore_10 : decode cX10_restore 10 = .ok (.aload_n 0, 1) := by decide +kernel
theorem dX10_restore_11 : decode cX10_restore 11 = .ok (.getfield 10, 3) := by decide +kernel
theorem dX10_restore_14 : decode cX10_restore 14 = .ok (.aload_n 0, 1) := by decide +kernel
theorem dX10_restore_15 : decode cX10_restore 15 = .ok (.getfield 70, 3) := by decide +kernel
theorem dX10_restore_18 : decode cX10_restore 18 = .ok (.invokevirtual 106, 3) := by decide +kernel
theorem dX10_restore_21 : decode cX10_restore 21 = .ok (.aload_n 0, 1) := by decide +kernel
theorem dX10_restore_22 : decode cX10_restore 22 = .ok (.getfield 21, 3) := by decide +kernel
theorem dX10_restore_25 : decode cX10_restore 25 = .ok (.aload_n 0, 1) := by decide +kernel
theorem dX10_restore_26 : decode cX10_restore 26 = .ok (.getfield 73, 3) := by decide +kernel
theorem dX10_restore_29 : decode cX10_restore 29 = .ok (.invokevirtual 265, 3) := by decide +kernel
theorem dX10_restore_32 : decode cX10_restore 32 = .ok (.aload_n 0, 1) := by decide +kernel
theorem dX10_restore_33 : decode cX10_restore 33 = .ok (.iconst 0, 1) := by decide +kernel
theorem dX10_restore_34 : decode cX10_restore 34 = .ok (.invokevirtual 110, 3) := by decide +kernel
theorem dX10_restore_37 : decode cX10_restore 37 = .ok (.aload_n 0, 1) := by decide +kernel
theorem dX10_restore_38 : decode cX10_restore 38 = .ok (.getfield 10, 3) := by decide +kernel
theorem dX10_restore_41 : decode cX10_restore 41 = .ok (.invokevirtual 121, 3) := by decide +kernel
theorem dX10_restore_44 : decode cX10_restore 44 = .ok (.ireturn, 1) := by decide +kernel
theorem dX10_count_0 : decode cX10_count 0 = .ok (.iload_n 1, 1) := by decide +kernel
theorem dX10_count_1 : decode cX10_count 1 = .ok (.tableswitch 78 0 5 #[39, 47, 52, 57, 65, 73], 39) := by decide +kernel
theorem dX10_count_40 : decode cX10_count 40 = .ok (.aload_n 0, 1) := by decide +kernel
theorem dX10_count_41 : decode cX10_count 41 = .ok (.getfield 10, 3) := by decide +kernel
theorem dX10_count_44 : decode cX10_count 44 = .ok (.invokevirtual 121, 3) := by decide +kernel
theorem dX10_count_47 : decode cX10_count 47 = .ok (.ireturn, 1) := by decide +kernel
theorem dX10_count_48 : decode cX10_count 48 = .ok (.aload_n 0, 1) := by decide +kernel
theorem dX10_count_49 : decode cX10_count 49 = .ok (.invokevirtual 268, 3) := by decide +kernel
theorem dX10_count_52 : decode cX10_count 52 = .ok (.ireturn, 1) := by decide +kernel
theorem dX10_count_53 : decode cX10_count 53 = .ok (.aload_n 0, 1) := by decide +kernel
theorem dX10_count_54 : decode cX10_count 54 = .ok (.invokevirtual 271, 3) := by decide +kernel
theorem dX10_count_57 : decode cX10_count 57 = .ok (.ireturn, 1) := by decide +kernel
theorem dX10_count_58 : decode cX10_count 58 = .ok (.aload_n 0, 1) := by decide +kernel
theorem dX10_count_59 : decode cX10_count 59 = .ok (.getfield 21, 3) := by decide +kernel
theorem dX10_count_62 : decode cX10_count 62 = .ok (.invokevirtual 85, 3) := by decide +kernel
theorem dX10_count_65 : decode cX10_count 65 = .ok (.ireturn, 1) := by decide +kernel
theorem dX10_count_66 : decode cX10_count 66 = .ok (.aload_n 0, 1) := by decide +kernel
theorem dX10_count_67 : decode cX10_count 67 = .ok (.getfield 25, 3) := by decide +kernel
theorem dX10_count_70 : decode cX10_count 70 = .ok (.invokevirtual 85, 3) := by decide +kernel
theorem dX10_count_73 : decode cX10_count 73 = .ok (.ireturn, 1) := by decide +kernel
theorem dX10_count_74 : decode cX10_count 74 = .ok (.aload_n 0, 1) := by decide +kernel
theorem dX10_count_75 : decode cX10_count 75 = .ok (.getfield 117, 3) := by decide +kernel
theorem dX10_count_78 : decode cX10_count 78 = .ok (.ireturn, 1) := by decide +kernel
theorem dX10_count_79 : decode cX10_count 79 = .ok (.ldc 80, 2) := by decide +kernel
theorem dX10_count_81 : decode cX10_count 81 = .ok (.ireturn, 1) := by decide +kernel
theorem dX10_digest_0 : decode cX10_digest 0 = .ok (.ldc2_w 274, 3) := by decide +kernel
theorem dX10_digest_3 : decode cX10_digest 3 = .ok (.lstore_n 1, 1) := by decide +kernel
theorem dX10_digest_4 : decode cX10_digest 4 = .ok (.iconst 0, 1) := by decide +kernel
theorem dX10_digest_5 : decode cX10_digest 5 = .ok (.istore_n 3, 1) := by decide +kernel
theorem dX10_digest_6 : decode cX10_digest 6 = .ok (.iload_n 3, 1) := by decide +kernel
theorem dX10_digest_7 : decode cX10_digest 7 = .ok (.aload_n 0, 1) := by decide +kernel
theorem dX10_digest_8 : decode cX10_digest 8 = .ok (.getfield 10, 3) := by decide +kernel
theorem dX10_digest_11 : decode cX10_digest 11 = .ok (.invokevirtual 121, 3) := by decide +kernel
theorem dX10_digest_14 : decode cX10_digest 14 = .ok (.if_icmp .ge 16, 3) := by decide +kernel
theorem dX10_digest_17 : decode cX10_digest 17 = .ok (.aload_n 0, 1) := by decide +kernel
theorem dX10_digest_18 : decode cX10_digest 18 = .ok (.lload_n 1, 1) := by decide +kernel
theorem dX10_digest_19 : decode cX10_digest 19 = .ok (.iload_n 3, 1) := by decide +kernel
theorem dX10_digest_20 : decode cX10_digest 20 = .ok (.invokevirtual 276, 3) := by decide +kernel
theorem dX10_digest_23 : decode cX10_digest 23 = .ok (.lstore_n 1, 1) := by decide +kernel
theorem dX10_digest_24 : decode cX10_digest 24 = .ok (.iinc 3 1, 3) := by decide +kernel
theorem dX10_digest_27 : decode cX10_digest 27 = .ok (.goto (-21), 3) := by decide +kernel
theorem dX10_digest_30 : decode cX10_digest 30 = .ok (.iconst 0, 1) := by decide +kernel
theorem dX10_digest_31 : decode cX10_digest 31 = .ok (.istore_n 3, 1) := by decide +kernel
theorem dX10_digest_32 : decode cX10_digest 32 = .ok (.iload_n 3, 1) := by decide +kernel
theorem dX10_digest_33 : decode cX10_digest 33 = .ok (.aload_n 0, 1) := by decide +kernel
theorem dX10_digest_34 : decode cX10_digest 34 = .ok (.getfield 21, 3) := by decide +kernel
theorem dX10_digest_37 : decode cX10_digest 37 = .ok (.invokevirtual 85, 3) := by decide +kernel
theorem dX10_digest_40 : decode cX10_digest 40 = .ok (.if_icmp .ge 25, 3) := by decide +kernel
theorem dX10_digest_43 : decode cX10_digest 43 = .ok (.ldc2_w 280, 3) := by decide +kernel
theorem dX10_digest_46 : decode cX10_digest 46 = .ok (.lload_n 1, 1) := by decide +kernel
theorem dX10_digest_47 : decode cX10_digest 47 = .ok (.lmul, 1) := by decide +kernel
theorem dX10_digest_48 : decode cX10_digest 48 = .ok (.aload_n 0, 1) := by decide +kernel
theorem dX10_digest_49 : decode cX10_digest 49 = .ok (.getfield 21, 3) := by decide +kernel
theorem dX10_digest_52 : decode cX10_digest 52 = .ok (.iload_n 3, 1) := by decide +kernel
theorem dX10_digest_53 : decode cX10_digest 53 = .ok (.invokevirtual 254, 3) := by decide +kernel
theorem dX10_digest_56 : decode cX10_digest 56 = .ok (.i2l, 1) := by decide +kernel
theorem dX10_digest_57 : decode cX10_digest 57 = .ok (.ladd, 1) := by decide +kernel
theorem dX10_digest_58 : decode cX10_digest 58 = .ok (.lstore_n 1, 1) := by decide +kernel
theorem dX10_digest_59 : decode cX10_digest 59 = .ok (.iinc 3 1, 3) := by decide +kernel
theorem dX10_digest_62 : decode cX10_digest 62 = .ok (.goto (-30), 3) := by decide +kernel
theorem dX10_digest_65 : decode cX10_digest 65 = .ok (.iconst 0, 1) := by decide +kernel
theorem dX10_digest_66 : decode cX10_digest 66 = .ok (.istore_n 3, 1) := by decide +kernel
theorem dX10_digest_67 : decode cX10_digest 67 = .ok (.iload_n 3, 1) := by decide +kernel
theorem dX10_digest_68 : decode cX10_digest 68 = .ok (.iconst 2, 1) := by decide +kernel
theorem dX10_digest_69 : decode cX10_digest 69 = .ok (.if_icmp .gt 22, 3) := by decide +kernel
theorem dX10_digest_72 : decode cX10_digest 72 = .ok (.ldc2_w 280, 3) := by decide +kernel
theorem dX10_digest_75 : decode cX10_digest 75 = .ok (.lload_n 1, 1) := by decide +kernel
theorem dX10_digest_76 : decode cX10_digest 76 = .ok (.lmul, 1) := by decide +kernel
theorem dX10_digest_77 : decode cX10_digest 77 = .ok (.aload_n 0, 1) := by decide +kernel
theorem dX10_digest_78 : decode cX10_digest 78 = .ok (.iload_n 3, 1) := by decide +kernel
theorem dX10_digest_79 : decode cX10_digest 79 = .ok (.invokevirtual 282, 3) := by decide +kernel
theorem dX10_digest_82 : decode cX10_digest 82 = .ok (.i2l, 1) := by decide +kernel
theorem dX10_digest_83 : decode cX10_digest 83 = .ok (.ladd, 1) := by decide +kernel
theorem dX10_digest_84 : decode cX10_digest 84 = .ok (.lstore_n 1, 1) := by decide +kernel
theorem dX10_digest_85 : decode cX10_digest 85 = .ok (.iinc 3 1, 3) := by decide +kernel
theorem dX10_digest_88 : decode cX10_digest 88 = .ok (.goto (-21), 3) := by decide +kernel
theorem dX10_digest_91 : decode cX10_digest 91 = .ok (.iconst 0, 1) := by decide +kernel
theorem dX10_digest_92 : decode cX10_digest 92 = .ok (.istore_n 3, 1) := by decide +kernel
theorem dX10_digest_93 : decode cX10_digest 93 = .ok (.iload_n 3, 1) := by decide +kernel
theorem dX10_digest_94 : decode cX10_digest 94 = .ok (.aload_n 0, 1) := by decide +kernel
theorem dX10_digest_95 : decode cX10_digest 95 = .ok (.getfield 25, 3) := by decide +kernel
theorem dX10_digest_98 : decode cX10_digest 98 = .ok (.invokevirtual 85, 3) := by decide +kernel
theorem dX10_digest_101 : decode cX10_digest 101 = .ok (.if_icmp .ge 25, 3) := by decide +kernel
theorem dX10_digest_104 : decode cX10_digest 104 = .ok (.ldc2_w 280, 3) := by decide +kernel
theorem dX10_digest_107 : decode cX10_digest 107 = .ok (.lload_n 1, 1) := by decide +kernel
theorem dX10_digest_108 : decode cX10_digest 108 = .ok (.lmul, 1) := by decide +kernel
theorem dX10_digest_109 : decode cX10_digest 109 = .ok (.aload_n 0, 1) := by decide +kernel
theorem dX10_digest_110 : decode cX10_digest 110 = .ok (.getfield 25, 3) := by decide +kernel
theorem dX10_digest_113 : decode cX10_digest 113 = .ok (.iload_n 3, 1) := by decide +kernel
theorem dX10_digest_114 : decode cX10_digest 114 = .ok (.invokevirtual 254, 3) := by decide +kernel
theorem dX10_digest_117 : decode cX10_digest 117 = .ok (.i2l, 1) := by decide +kernel
theorem dX10_digest_118 : decode cX10_digest 118 = .ok (.ladd, 1) := by decide +kernel
theorem dX10_digest_119 : decode cX10_digest 119 = .ok (.lstore_n 1, 1) := by decide +kernel
theorem dX10_digest_120 : decode cX10_digest 120 = .ok (.iinc 3 1, 3) := by decide +kernel
theorem dX10_digest_123 : decode cX10_digest 123 = .ok (.goto (-30), 3) := by decide +kernel
theorem dX10_digest_126 : decode cX10_digest 126 = .ok (.iconst 0, 1) := by decide +kernel
theorem dX10_digest_127 : decode cX10_digest 127 = .ok (.istore_n 3, 1) := by decide +kernel
theorem dX10_digest_128 : decode cX10_digest 128 = .ok (.iload_n 3, 1) := by decide +kernel
theorem dX10_digest_129 : decode cX10_digest 129 = .ok (.iconst 5, 1) := by decide +kernel
theorem dX10_digest_130 : decode cX10_digest 130 = .ok (.if_icmp .gt 22, 3) := by decide +kernel
theorem dX10_digest_133 : decode cX10_digest 133 = .ok (.ldc2_w 280, 3) := by decide +kernel
theorem dX10_digest_136 : decode cX10_digest 136 = .ok (.lload_n 1, 1) := by decide +kernel
theorem dX10_digest_137 : decode cX10_digest 137 = .ok (.lmul, 1) := by decide +kernel
theorem dX10_digest_138 : decode cX10_digest 138 = .ok (.aload_n 0, 1) := by decide +kernel
theorem dX10_digest_139 : decode cX10_digest 139 = .ok (.iload_n 3, 1) := by decide +kernel
theorem dX10_digest_140 : decode cX10_digest 140 = .ok (.invokevirtual 285, 3) := by decide +kernel
theorem dX10_digest_143 : decode cX10_digest 143 = .ok (.i2l, 1) := by decide +kernel
theorem dX10_digest_144 : decode cX10_digest 144 = .ok (.ladd, 1) := by decide +kernel
theorem dX10_digest_145 : decode cX10_digest 145 = .ok (.lstore_n 1, 1) := by decide +kernel
theorem dX10_digest_146 : decode cX10_digest 146 = .ok (.iinc 3 1, 3) := by decide +kernel
theorem dX10_digest_149 : decode cX10_digest 149 = .ok (.goto (-21), 3) := by decide +kernel
theorem dX10_digest_152 : decode cX10_digest 152 = .ok (.lload_n 1, 1) := by decide +kernel
theorem dX10_digest_153 : decode cX10_digest 153 = .ok (.lreturn, 1) := by decide +kernel
theorem dX10_digestWithRow_0 : decode cX10_digestWithRow 0 = .ok (.lload_n 1, 1) := by decide +kernel
theorem dX10_digestWithRow_1 : decode cX10_digestWithRow 1 = .ok (.lstore 4, 2) := by decide +kernel
theorem dX10_digestWithRow_3 : decode cX10_digestWithRow 3 = .ok (.iconst 0, 1) := by decide +kernel
theorem dX10_digestWithRow_4 : decode cX10_digestWithRow 4 = .ok (.istore 6, 2) := by decide +kernel
theorem dX10_digestWithRow_6 : decode cX10_digestWithRow 6 = .ok (.iload 6, 2) := by decide +kernel
theorem dX10_digestWithRow_8 : decode cX10_digestWithRow 8 = .ok (.iconst 4, 1) := by decide +kernel
theorem dX10_digestWithRow_9 : decode cX10_digestWithRow 9 = .ok (.if_icmp .gt 26, 3) := by decide +kernel
theorem dX10_digestWithRow_12 : decode cX10_digestWithRow 12 = .ok (.ldc2_w 280, 3) := by decide +kernel
theorem dX10_digestWithRow_15 : decode cX10_digestWithRow 15 = .ok (.lload 4, 2) := by decide +kernel
theorem dX10_digestWithRow_17 : decode cX10_digestWithRow 17 = .ok (.lmul, 1) := by decide +kernel
theorem dX10_digestWithRow_18 : decode cX10_digestWithRow 18 = .ok (.aload_n 0, 1) := by decide +kernel
theorem dX10_digestWithRow_19 : decode cX10_digestWithRow 19 = .ok (.iload_n 3, 1) := by decide +kernel
theorem dX10_digestWithRow_20 : decode cX10_digestWithRow 20 = .ok (.iload 6, 2) := by decide +kernel
theorem dX10_digestWithRow_22 : decode cX10_digestWithRow 22 = .ok (.invokevirtual 288, 3) := by decide +kernel
theorem dX10_digestWithRow_25 : decode cX10_digestWithRow 25 = .ok (.i2l, 1) := by decide +kernel
theorem dX10_digestWithRow_26 : decode cX10_digestWithRow 26 = .ok (.ladd, 1) := by decide +kernel
theorem dX10_digestWithRow_27 : decode cX10_digestWithRow 27 = .ok (.lstore 4, 2) := by decide +kernel
theorem dX10_digestWithRow_29 : decode cX10_digestWithRow 29 = .ok (.iinc 6 1, 3) := by decide +kernel
theorem dX10_digestWithRow_32 : decode cX10_digestWithRow 32 = .ok (.goto (-26), 3) := by decide +kernel
theorem dX10_digestWithRow_35 : decode cX10_digestWithRow 35 = .ok (.iconst 0, 1) := by decide +kernel
theorem dX10_digestWithRow_36 : decode cX10_digestWithRow 36 = .ok (.istore 6, 2) := by decide +kernel
theorem dX10_digestWithRow_38 : decode cX10_digestWithRow 38 = .ok (.iload 6, 2) := by decide +kernel
theorem dX10_digestWithRow_40 : decode cX10_digestWithRow 40 = .ok (.bipush 7, 2) := by decide +kernel
theorem dX10_digestWithRow_42 : decode cX10_digestWithRow 42 = .ok (.if_icmp .gt 26, 3) := by decide +kernel
theorem dX10_digestWithRow_45 : decode cX10_digestWithRow 45 = .ok (.ldc2_w 280, 3) := by decide +kernel
theorem dX10_digestWithRow_48 : decode cX10_digestWithRow 48 = .ok (.lload 4, 2) := by decide +kernel
theorem dX10_digestWithRow_50 : decode cX10_digestWithRow 50 = .ok (.lmul, 1) := by decide +kernel
theorem dX10_digestWithRow_51 : decode cX10_digestWithRow 51 = .ok (.aload_n 0, 1) := by decide +kernel
theorem dX10_digestWithRow_52 : decode cX10_digestWithRow 52 = .ok (.iload_n 3, 1) := by decide +kernel
theorem dX10_digestWithRow_53 : decode cX10_digestWithRow 53 = .ok (.iload 6, 2) := by decide +kernel
theorem dX10_digestWithRow_55 : decode cX10_digestWithRow 55 = .ok (.invokevirtual 291, 3) := by decide +kernel
theorem dX10_digestWithRow_58 : decode cX10_digestWithRow 58 = .ok (.i2l, 1) := by decide +kernel
theorem dX10_digestWithRow_59 : decode cX10_digestWithRow 59 = .ok (.ladd, 1) := by decide +kernel
theorem dX10_digestWithRow_60 : decode cX10_digestWithRow 60 = .ok (.lstore 4, 2) := by decide +kernel
theorem dX10_digestWithRow_62 : decode cX10_digestWithRow 62 = .ok (.iinc 6 1, 3) := by decide +kernel
theorem dX10_digestWithRow_65 : decode cX10_digestWithRow 65 = .ok (.goto (-27), 3) := by decide +kernel
theorem dX10_digestWithRow_68 : decode cX10_digestWithRow 68 = .ok (.ldc2_w 280, 3) := by decide +kernel
theorem dX10_digestWithRow_71 : decode cX10_digestWithRow 71 = .ok (.lload 4, 2) := by decide +kernel
theorem dX10_digestWithRow_73 : decode cX10_digestWithRow 73 = .ok (.lmul, 1) := by decide +kernel
theorem dX10_digestWithRow_74 : decode cX10_digestWithRow 74 = .ok (.aload_n 0, 1) := by decide +kernel
theorem dX10_digestWithRow_75 : decode cX10_digestWithRow 75 = .ok (.iload_n 3, 1) := by decide +kernel
theorem dX10_digestWithRow_76 : decode cX10_digestWithRow 76 = .ok (.ldc_w 294, 3) := by decide +kernel
theorem dX10_digestWithRow_79 : decode cX10_digestWithRow 79 = .ok (.bipush 7, 2) := by decide +kernel
theorem dX10_digestWithRow_81 : decode cX10_digestWithRow 81 = .ok (.invokevirtual 295, 3) := by decide +kernel
theorem dX10_digestWithRow_84 : decode cX10_digestWithRow 84 = .ok (.i2l, 1) := by decide +kernel
theorem dX10_digestWithRow_85 : decode cX10_digestWithRow 85 = .ok (.ladd, 1) := by decide +kernel
theorem dX10_digestWithRow_86 : decode cX10_digestWithRow 86 = .ok (.lstore 4, 2) := by decide +kernel
theorem dX10_digestWithRow_88 : decode cX10_digestWithRow 88 = .ok (.iconst 0, 1) := by decide +kernel
theorem dX10_digestWithRow_89 : decode cX10_digestWithRow 89 = .ok (.istore 6, 2) := by decide +kernel
theorem dX10_digestWithRow_91 : decode cX10_digestWithRow 91 = .ok (.iload 6, 2) := by decide +kernel
theorem dX10_digestWithRow_93 : decode cX10_digestWithRow 93 = .ok (.iconst 2, 1) := by decide +kernel
theorem dX10_digestWithRow_94 : decode cX10_digestWithRow 94 = .ok (.if_icmp .gt 27, 3) := by decide +kernel
theorem dX10_digestWithRow_97 : decode cX10_digestWithRow 97 = .ok (.ldc2_w 280, 3) := by decide +kernel
theorem dX10_digestWithRow_100 : decode cX10_digestWithRow 100 = .ok (.lload 4, 2) := by decide +kernel
theorem dX10_digestWithRow_102 : decode cX10_digestWithRow 102 = .ok (.lmul, 1) := by decide +kernel
theorem dX10_digestWithRow_103 : decode cX10_digestWithRow 103 = .ok (.aload_n 0, 1) := by decide +kernel
theorem dX10_digestWithRow_104 : decode cX10_digestWithRow 104 = .ok (.iload_n 3, 1) := by decide +kernel
theorem dX10_digestWithRow_105 : decode cX10_digestWithRow 105 = .ok (.iconst 5, 1) := by decide +kernel
theorem dX10_digestWithRow_106 : decode cX10_digestWithRow 106 = .ok (.iload 6, 2) := by decide +kernel
theorem dX10_digestWithRow_108 : decode cX10_digestWithRow 108 = .ok (.invokevirtual 205, 3) := by decide +kernel
theorem dX10_digestWithRow_111 : decode cX10_digestWithRow 111 = .ok (.i2l, 1) := by decide +kernel
theorem dX10_digestWithRow_112 : decode cX10_digestWithRow 112 = .ok (.ladd, 1) := by decide +kernel
theorem dX10_digestWithRow_113 : decode cX10_digestWithRow 113 = .ok (.lstore 4, 2) := by decide +kernel
theorem dX10_digestWithRow_115 : decode cX10_digestWithRow 115 = .ok (.iinc 6 1, 3) := by decide +kernel
theorem dX10_digestWithRow_118 : decode cX10_digestWithRow 118 = .ok (.goto (-27), 3) := by decide +kernel
theorem dX10_digestWithRow_121 : decode cX10_digestWithRow 121 = .ok (.ldc2_w 280, 3) := by decide +kernel
theorem dX10_digestWithRow_124 : decode cX10_digestWithRow 124 = .ok (.lload 4, 2) := by decide +kernel
theorem dX10_digestWithRow_126 : decode cX10_digestWithRow 126 = .ok (.lmul, 1) := by decide +kernel
theorem dX10_digestWithRow_127 : decode cX10_digestWithRow 127 = .ok (.aload_n 0, 1) := by decide +kernel
theorem dX10_digestWithRow_128 : decode cX10_digestWithRow 128 = .ok (.iload_n 3, 1) := by decide +kernel
theorem dX10_digestWithRow_129 : decode cX10_digestWithRow 129 = .ok (.invokevirtual 298, 3) := by decide +kernel
theorem dX10_digestWithRow_132 : decode cX10_digestWithRow 132 = .ok (.i2l, 1) := by decide +kernel
theorem dX10_digestWithRow_133 : decode cX10_digestWithRow 133 = .ok (.ladd, 1) := by decide +kernel
theorem dX10_digestWithRow_134 : decode cX10_digestWithRow 134 = .ok (.lreturn, 1) := by decide +kernel
theorem dX10_added_0 : decode cX10_added 0 = .ok (.aload_n 0, 1) := by decide +kernel
theorem dX10_added_1 : decode cX10_added 1 = .ok (.getfield 10, 3) := by decide +kernel
theorem dX10_added_4 : decode cX10_added 4 = .ok (.iload_n 1, 1) := by decide +kernel
theorem dX10_added_5 : decode cX10_added 5 = .ok (.iload_n 2, 1) := by decide +kernel
theorem dX10_added_6 : decode cX10_added 6 = .ok (.iload_n 3, 1) := by decide +kernel
theorem dX10_added_7 : decode cX10_added 7 = .ok (.iload 4, 2) := by decide +kernel
theorem dX10_added_9 : decode cX10_added 9 = .ok (.iload 5, 2) := by decide +kernel
theorem dX10_added_11 : decode cX10_added 11 = .ok (.invokevirtual 301, 3) := by decide +kernel
theorem dX10_added_14 : decode cX10_added 14 = .ok (.ifCond .eq 15, 3) := by decide +kernel
theorem dX10_added_17 : decode cX10_added 17 = .ok (.aload_n 0, 1) := by decide +kernel
theorem dX10_added_18 : decode cX10_added 18 = .ok (.getfield 10, 3) := by decide +kernel
theorem dX10_added_21 : decode cX10_added 21 = .ok (.invokevirtual 121, 3) := by decide +kernel
theorem dX10_added_24 : decode cX10_added 24 = .ok (.iconst 1, 1) := by decide +kernel
theorem dX10_added_25 : decode cX10_added 25 = .ok (.isub, 1) := by decide +kernel
theorem dX10_added_26 : decode cX10_added 26 = .ok (.goto 5, 3) := by decide +kernel
theorem dX10_added_29 : decode cX10_added 29 = .ok (.ldc 89, 2) := by decide +kernel
theorem dX10_added_31 : decode cX10_added 31 = .ok (.ireturn, 1) := by decide +kernel
theorem dX10_changedFrom_0 : decode cX10_changedFrom 0 = .ok (.aload_n 0, 1) := by decide +kernel
theorem dX10_changedFrom_1 : decode cX10_changedFrom 1 = .ok (.getfield 45, 3) := by decide +kernel
theorem dX10_changedFrom_4 : decode cX10_changedFrom 4 = .ok (.iload_n 1, 1) := by decide +kernel
theorem dX10_changedFrom_5 : decode cX10_changedFrom 5 = .ok (.invokevirtual 304, 3) := by decide +kernel
theorem dX10_changedFrom_8 : decode cX10_changedFrom 8 = .ok (.aload_n 0, 1) := by decide +kernel
theorem dX10_changedFrom_9 : decode cX10_changedFrom 9 = .ok (.getfield 52, 3) := by decide +kernel
theorem dX10_changedFrom_12 : decode cX10_changedFrom 12 = .ok (.iload_n 1, 1) := by decide +kernel
theorem dX10_changedFrom_13 : decode cX10_changedFrom 13 = .ok (.invokevirtual 307, 3) := by decide +kernel
theorem dX10_changedFrom_16 : decode cX10_changedFrom 16 = .ok (.return_, 1) := by decide +kernel
theorem dX10_isOpenAt_0 : decode cX10_isOpenAt 0 = .ok (.aload_n 0, 1) := by decide +kernel
theorem dX10_isOpenAt_1 : decode cX10_isOpenAt 1 = .ok (.iload_n 1, 1) := by decide +kernel
theorem dX10_isOpenAt_2 : decode cX10_isOpenAt 2 = .ok (.iload_n 2, 1) := by decide +kernel
theorem dX10_isOpenAt_3 : decode cX10_isOpenAt 3 = .ok (.bipush 7, 2) := by decide +kernel
theorem dX10_isOpenAt_5 : decode cX10_isOpenAt 5 = .ok (.invokevirtual 308, 3) := by decide +kernel
theorem dX10_isOpenAt_8 : decode cX10_isOpenAt 8 = .ok (.ifCond .eq 39, 3) := by decide +kernel
theorem dX10_isOpenAt_11 : decode cX10_isOpenAt 11 = .ok (.aload_n 0, 1) := by decide +kernel
theorem dX10_isOpenAt_12 : decode cX10_isOpenAt 12 = .ok (.iload_n 1, 1) := by decide +kernel
theorem dX10_isOpenAt_13 : decode cX10_isOpenAt 13 = .ok (.iload_n 2, 1) := by decide +kernel
theorem dX10_isOpenAt_14 : decode cX10_isOpenAt 14 = .ok (.bipush 9, 2) := by decide +kernel
theorem dX10_isOpenAt_16 : decode cX10_isOpenAt 16 = .ok (.invokevirtual 308, 3) := by decide +kernel
theorem dX10_isOpenAt_19 : decode cX10_isOpenAt 19 = .ok (.ifCond .eq 28, 3) := by decide +kernel
theorem dX10_isOpenAt_22 : decode cX10_isOpenAt 22 = .ok (.aload_n 0, 1) := by decide +kernel
theorem dX10_isOpenAt_23 : decode cX10_isOpenAt 23 = .ok (.iload_n 1, 1) := by decide +kernel
theorem dX10_isOpenAt_24 : decode cX10_isOpenAt 24 = .ok (.iload_n 2, 1) := by decide +kernel
theorem dX10_isOpenAt_25 : decode cX10_isOpenAt 25 = .ok (.bipush 8, 2) := by decide +kernel
theorem dX10_isOpenAt_27 : decode cX10_isOpenAt 27 = .ok (.invokevirtual 308, 3) := by decide +kernel
theorem dX10_isOpenAt_30 : decode cX10_isOpenAt 30 = .ok (.ifCond .eq 17, 3) := by decide +kernel
theorem dX10_isOpenAt_33 : decode cX10_isOpenAt 33 = .ok (.aload_n 0, 1) := by decide +kernel
theorem dX10_isOpenAt_34 : decode cX10_isOpenAt 34 = .ok (.iload_n 1, 1) := by decide +kernel
theorem dX10_isOpenAt_35 : decode cX10_isOpenAt 35 = .ok (.iload_n 2, 1) := by decide +kernel
theorem dX10_isOpenAt_36 : decode cX10_isOpenAt 36 = .ok (.iconst 5, 1) := by decide +kernel
theorem dX10_isOpenAt_37 : decode cX10_isOpenAt 37 = .ok (.invokevirtual 308, 3) := by decide +kernel
theorem dX10_isOpenAt_40 : decode cX10_isOpenAt 40 = .ok (.ifCond .eq 7, 3) := by decide +kernel
theorem dX10_isOpenAt_43 : decode cX10_isOpenAt 43 = .ok (.iconst 1, 1) := by decide +kernel
theorem dX10_isOpenAt_44 : decode cX10_isOpenAt 44 = .ok (.goto 4, 3) := by decide +kernel
theorem dX10_isOpenAt_47 : decode cX10_isOpenAt 47 = .ok (.iconst 0, 1) := by decide +kernel
theorem dX10_isOpenAt_48 : decode cX10_isOpenAt 48 = .ok (.ireturn, 1) := by decide +kernel
theorem dX10_hasRemainderNought_0 : decode cX10_hasRemainderNought 0 = .ok (.aload_n 0, 1) := by decide +kernel
theorem dX10_hasRemainderNought_1 : decode cX10_hasRemainderNought 1 = .ok (.getfield 52, 3) := by decide +kernel
theorem dX10_hasRemainderNought_4 : decode cX10_hasRemainderNought 4 = .ok (.aload_n 0, 1) := by decide +kernel
theorem dX10_hasRemainderNought_5 : decode cX10_hasRemainderNought 5 = .ok (.getfield 10, 3) := by decide +kernel
theorem dX10_hasRemainderNought_8 : decode cX10_hasRemainderNought 8 = .ok (.iload_n 1, 1) := by decide +kernel
theorem dX10_hasRemainderNought_9 : decode cX10_hasRemainderNought 9 = .ok (.iload_n 3, 1) := by decide +kernel
theorem dX10_hasRemainderNought_10 : decode cX10_hasRemainderNought 10 = .ok (.invokevirtual 148, 3) := by decide +kernel
theorem dX10_hasRemainderNought_13 : decode cX10_hasRemainderNought 13 = .ok (.iload_n 2, 1) := by decide +kernel
theorem dX10_hasRemainderNought_14 : decode cX10_hasRemainderNought 14 = .ok (.invokevirtual 152, 3) := by decide +kernel
theorem dX10_hasRemainderNought_17 : decode cX10_hasRemainderNought 17 = .ok (.ifCond .ne 7, 3) := by decide +kernel
theorem dX10_hasRemainderNought_20 : decode cX10_hasRemainderNought 20 = .ok (.iconst 1, 1) := by decide +kernel
theorem dX10_hasRemainderNought_21 : decode cX10_hasRemainderNought 21 = .ok (.goto 4, 3) := by decide +kernel
theorem dX10_hasRemainderNought_24 : decode cX10_hasRemainderNought 24 = .ok (.iconst 0, 1) := by decide +kernel
theorem dX10_hasRemainderNought_25 : decode cX10_hasRemainderNought 25 = .ok (.ireturn, 1) := by decide +kernel
theorem dX10_isEasy_0 : decode cX10_isEasy 0 = .ok (.aload_n 0, 1) := by decide +kernel
theorem dX10_isEasy_1 : decode cX10_isEasy 1 = .ok (.getfield 10, 3) := by decide +kernel
theorem dX10_isEasy_4 : decode cX10_isEasy 4 = .ok (.iload_n 1, 1) := by decide +kernel
theorem dX10_isEasy_5 : decode cX10_isEasy 5 = .ok (.invokevirtual 126, 3) := by decide +kernel
theorem dX10_isEasy_8 : decode cX10_isEasy 8 = .ok (.istore_n 2, 1) := by decide +kernel
theorem dX10_isEasy_9 : decode cX10_isEasy 9 = .ok (.iload_n 2, 1) := by decide +kernel
theorem dX10_isEasy_10 : decode cX10_isEasy 10 = .ok (.ifCond .eq 14, 3) := by decide +kernel
theorem dX10_isEasy_13 : decode cX10_isEasy 13 = .ok (.aload_n 0, 1) := by decide +kernel
theorem dX10_isEasy_14 : decode cX10_isEasy 14 = .ok (.getfield 10, 3) := by decide +kernel
theorem dX10_isEasy_17 : decode cX10_isEasy 17 = .ok (.iload_n 1, 1) := by decide +kernel
theorem dX10_isEasy_18 : decode cX10_isEasy 18 = .ok (.invokestatic 176, 3) := by decide +kernel
theorem dX10_isEasy_21 : decode cX10_isEasy 21 = .ok (.ifCond .ne 5, 3) := by decide +kernel
theorem dX10_isEasy_24 : decode cX10_isEasy 24 = .ok (.iconst 0, 1) := by decide +kernel
theorem dX10_isEasy_25 : decode cX10_isEasy 25 = .ok (.ireturn, 1) := by decide +kernel
theorem dX10_isEasy_26 : decode cX10_isEasy 26 = .ok (.iload_n 2, 1) := by decide +kernel
theorem dX10_isEasy_27 : decode cX10_isEasy 27 = .ok (.iconst 1, 1) := by decide +kernel
theorem dX10_isEasy_28 : decode cX10_isEasy 28 = .ok (.if_icmp .ne 43, 3) := by decide +kernel
theorem dX10_isEasy_31 : decode cX10_isEasy 31 = .ok (.aload_n 0, 1) := by decide +kernel
theorem dX10_isEasy_32 : decode cX10_isEasy 32 = .ok (.iload_n 1, 1) := by decide +kernel
theorem dX10_isEasy_33 : decode cX10_isEasy 33 = .ok (.iconst 0, 1) := by decide +kernel
theorem dX10_isEasy_34 : decode cX10_isEasy 34 = .ok (.iconst 0, 1) := by decide +kernel
theorem dX10_isEasy_35 : decode cX10_isEasy 35 = .ok (.invokevirtual 235, 3) := by decide +kernel
theorem dX10_isEasy_38 : decode cX10_isEasy 38 = .ok (.aload_n 0, 1) := by decide +kernel
theorem dX10_isEasy_39 : decode cX10_isEasy 39 = .ok (.iload_n 1, 1) := by decide +kernel
theorem dX10_isEasy_40 : decode cX10_isEasy 40 = .ok (.iconst 1, 1) := by decide +kernel
theorem dX10_isEasy_41 : decode cX10_isEasy 41 = .ok (.iconst 0, 1) := by decide +kernel
theorem dX10_isEasy_42 : decode cX10_isEasy 42 = .ok (.invokevirtual 235, 3) := by decide +kernel
theorem dX10_isEasy_45 : decode cX10_isEasy 45 = .ok (.if_icmp .ne 24, 3) := by decide +kernel
theorem dX10_isEasy_48 : decode cX10_isEasy 48 = .ok (.aload_n 0, 1) := by decide +kernel
theorem dX10_isEasy_49 : decode cX10_isEasy 49 = .ok (.iload_n 1, 1) := by decide +kernel
theorem dX10_isEasy_50 : decode cX10_isEasy 50 = .ok (.iconst 0, 1) := by decide +kernel
theorem dX10_isEasy_51 : decode cX10_isEasy 51 = .ok (.iconst 1, 1) := by decide +kernel
theorem dX10_isEasy_52 : decode cX10_isEasy 52 = .ok (.invokevirtual 235, 3) := by decide +kernel
theorem dX10_isEasy_55 : decode cX10_isEasy 55 = .ok (.aload_n 0, 1) := by decide +kernel
theorem dX10_isEasy_56 : decode cX10_isEasy 56 = .ok (.iload_n 1, 1) := by decide +kernel
theorem dX10_isEasy_57 : decode cX10_isEasy 57 = .ok (.iconst 1, 1) := by decide +kernel
theorem dX10_isEasy_58 : decode cX10_isEasy 58 = .ok (.iconst 1, 1) := by decide +kernel
theorem dX10_isEasy_59 : decode cX10_isEasy 59 = .ok (.invokevirtual 235, 3) := by decide +kernel
theorem dX10_isEasy_62 : decode cX10_isEasy 62 = .ok (.if_icmp .ne 7, 3) := by decide +kernel
theorem dX10_isEasy_65 : decode cX10_isEasy 65 = .ok (.iconst 1, 1) := by decide +kernel
theorem dX10_isEasy_66 : decode cX10_isEasy 66 = .ok (.goto 4, 3) := by decide +kernel
theorem dX10_isEasy_69 : decode cX10_isEasy 69 = .ok (.iconst 0, 1) := by decide +kernel
theorem dX10_isEasy_70 : decode cX10_isEasy 70 = .ok (.ireturn, 1) := by decide +kernel
theorem dX10_isEasy_71 : decode cX10_isEasy 71 = .ok (.iload_n 2, 1) := by decide +kernel
theorem dX10_isEasy_72 : decode cX10_isEasy 72 = .ok (.iconst 2, 1) := by decide +kernel
theorem dX10_isEasy_73 : decode cX10_isEasy 73 = .ok (.if_icmp .ne 21, 3) := by decide +kernel
theorem dX10_isEasy_76 : decode cX10_isEasy 76 = .ok (.aload_n 0, 1) := by decide +kernel
theorem dX10_isEasy_77 : decode cX10_isEasy 77 = .ok (.iload_n 1, 1) := by decide +kernel
theorem dX10_isEasy_78 : decode cX10_isEasy 78 = .ok (.iconst 0, 1) := by decide +kernel
theorem dX10_isEasy_79 : decode cX10_isEasy 79 = .ok (.invokevirtual 311, 3) := by decide +kernel
theorem dX10_isEasy_82 : decode cX10_isEasy 82 = .ok (.ifCond .ne 12, 3) := by decide +kernel
theorem dX10_isEasy_85 : decode cX10_isEasy 85 = .ok (.aload_n 0, 1) := by decide +kernel
theorem dX10_isEasy_86 : decode cX10_isEasy 86 = .ok (.iload_n 1, 1) := by decide +kernel
theorem dX10_isEasy_87 : decode cX10_isEasy 87 = .ok (.iconst 1, 1) := by decide +kernel
theorem dX10_isEasy_88 : decode cX10_isEasy 88 = .ok (.invokevirtual 311, 3) := by decide +kernel
theorem dX10_isEasy_91 : decode cX10_isEasy 91 = .ok (.ifCond .eq 7, 3) := by decide +kernel
theorem dX10_isEasy_94 : decode cX10_isEasy 94 = .ok (.iconst 1, 1) := by decide +kernel
theorem dX10_isEasy_95 : decode cX10_isEasy 95 = .ok (.goto 4, 3) := by decide +kernel
theorem dX10_isEasy_98 : decode cX10_isEasy 98 = .ok (.iconst 0, 1) := by decide +kernel
theorem dX10_isEasy_99 : decode cX10_isEasy 99 = .ok (.ireturn, 1) := by decide +kernel
theorem dX10_isPartOfPowers_0 : decode cX10_isPartOfPowers 0 = .ok (.aload_n 0, 1) := by decide +kernel
theorem dX10_isPartOfPowers_1 : decode cX10_isPartOfPowers 1 = .ok (.iload_n 1, 1) := by decide +kernel
theorem dX10_isPartOfPowers_2 : decode cX10_isPartOfPowers 2 = .ok (.iload_n 2, 1) := by decide +kernel
theorem dX10_isPartOfPowers_3 : decode cX10_isPartOfPowers 3 = .ok (.iconst 1, 1) := by decide +kernel
theorem dX10_isPartOfPowers_4 : decode cX10_isPartOfPowers 4 = .ok (.invokevirtual 235, 3) := by decide +kernel
theorem dX10_isPartOfPowers_7 : decode cX10_isPartOfPowers 7 = .ok (.ifCond .ne 32, 3) := by decide +kernel
theorem dX10_isPartOfPowers_10 : decode cX10_isPartOfPowers 10 = .ok (.aload_n 0, 1) := by decide +kernel
theorem dX10_isPartOfPowers_11 : decode cX10_isPartOfPowers 11 = .ok (.iload_n 1, 1) := by decide +kernel
theorem dX10_isPartOfPowers_12 : decode cX10_isPartOfPowers 12 = .ok (.iload_n 2, 1) := by decide +kernel
theorem dX10_isPartOfPowers_13 : decode cX10_isPartOfPowers 13 = .ok (.iconst 3, 1) := by decide +kernel
theorem dX10_isPartOfPowers_14 : decode cX10_isPartOfPowers 14 = .ok (.invokevirtual 235, 3) := by decide +kernel
theorem dX10_isPartOfPowers_17 : decode cX10_isPartOfPowers 17 = .ok (.aload_n 0, 1) := by decide +kernel
theorem dX10_isPartOfPowers_18 : decode cX10_isPartOfPowers 18 = .ok (.iload_n 1, 1) := by decide +kernel
theorem dX10_isPartOfPowers_19 : decode cX10_isPartOfPowers 19 = .ok (.iload_n 2, 1) := by decide +kernel
theorem dX10_isPartOfPowers_20 : decode cX10_isPartOfPowers 20 = .ok (.iconst 0, 1) := by decide +kernel
theorem dX10_isPartOfPowers_21 : decode cX10_isPartOfPowers 21 = .ok (.invokevirtual 235, 3) := by decide +kernel
theorem dX10_isPartOfPowers_24 : decode cX10_isPartOfPowers 24 = .ok (.aload_n 0, 1) := by decide +kernel
theorem dX10_isPartOfPowers_25 : decode cX10_isPartOfPowers 25 = .ok (.iload_n 1, 1) := by decide +kernel
theorem dX10_isPartOfPowers_26 : decode cX10_isPartOfPowers 26 = .ok (.iload_n 2, 1) := by decide +kernel
theorem dX10_isPartOfPowers_27 : decode cX10_isPartOfPowers 27 = .ok (.iconst 2, 1) := by decide +kernel
theorem dX10_isPartOfPowers_28 : decode cX10_isPartOfPowers 28 = .ok (.invokevirtual 235, 3) := by decide +kernel
theorem dX10_isPartOfPowers_31 : decode cX10_isPartOfPowers 31 = .ok (.imul, 1) := by decide +kernel
theorem dX10_isPartOfPowers_32 : decode cX10_isPartOfPowers 32 = .ok (.if_icmp .ne 7, 3) := by decide +kernel
theorem dX10_isPartOfPowers_35 : decode cX10_isPartOfPowers 35 = .ok (.iconst 1, 1) := by decide +kernel
theorem dX10_isPartOfPowers_36 : decode cX10_isPartOfPowers 36 = .ok (.goto 4, 3) := by decide +kernel
theorem dX10_isPartOfPowers_39 : decode cX10_isPartOfPowers 39 = .ok (.iconst 0, 1) := by decide +kernel
theorem dX10_isPartOfPowers_40 : decode cX10_isPartOfPowers 40 = .ok (.ireturn, 1) := by decide +kernel
theorem dX10_numberOfPart_0 : decode cX10_numberOfPart 0 = .ok (.aload_n 0, 1) := by decide +kernel
theorem dX10_numberOfPart_1 : decode cX10_numberOfPart 1 = .ok (.getfield 10, 3) := by decide +kernel
theorem dX10_numberOfPart_4 : decode cX10_numberOfPart 4 = .ok (.aload_n 0, 1) := by decide +kernel
theorem dX10_numberOfPart_5 : decode cX10_numberOfPart 5 = .ok (.getfield 10, 3) := by decide +kernel
theorem dX10_numberOfPart_8 : decode cX10_numberOfPart 8 = .ok (.iload_n 1, 1) := by decide +kernel
theorem dX10_numberOfPart_9 : decode cX10_numberOfPart 9 = .ok (.iload_n 2, 1) := by decide +kernel
theorem dX10_numberOfPart_10 : decode cX10_numberOfPart 10 = .ok (.invokevirtual 133, 3) := by decide +kernel
theorem dX10_numberOfPart_13 : decode cX10_numberOfPart 13 = .ok (.iload_n 3, 1) := by decide +kernel
theorem dX10_numberOfPart_14 : decode cX10_numberOfPart 14 = .ok (.invokevirtual 133, 3) := by decide +kernel
theorem dX10_numberOfPart_17 : decode cX10_numberOfPart 17 = .ok (.ireturn, 1) := by decide +kernel
theorem dX10_toldRows_0 : decode cX10_toldRows 0 = .ok (.iconst 0, 1) := by decide +kernel
theorem dX10_toldRows_1 : decode cX10_toldRows 1 = .ok (.istore_n 1, 1) := by decide +kernel
theorem dX10_toldRows_2 : decode cX10_toldRows 2 = .ok (.iconst 0, 1) := by decide +kernel
theorem dX10_toldRows_3 : decode cX10_toldRows 3 = .ok (.istore_n 2, 1) := by decide +kernel
theorem dX10_toldRows_4 : decode cX10_toldRows 4 = .ok (.iload_n 2, 1) := by decide +kernel
theorem dX10_toldRows_5 : decode cX10_toldRows 5 = .ok (.aload_n 0, 1) := by decide +kernel
theorem dX10_toldRows_6 : decode cX10_toldRows 6 = .ok (.getfield 10, 3) := by decide +kernel
theorem dX10_toldRows_9 : decode cX10_toldRows 9 = .ok (.invokevirtual 121, 3) := by decide +kernel
theorem dX10_toldRows_12 : decode cX10_toldRows 12 = .ok (.if_icmp .ge 23, 3) := by decide +kernel
theorem dX10_toldRows_15 : decode cX10_toldRows 15 = .ok (.aload_n 0, 1) := by decide +kernel
theorem dX10_toldRows_16 : decode cX10_toldRows 16 = .ok (.getfield 10, 3) := by decide +kernel
theorem dX10_toldRows_19 : decode cX10_toldRows 19 = .ok (.iload_n 2, 1) := by decide +kernel
theorem dX10_toldRows_20 : decode cX10_toldRows 20 = .ok (.invokevirtual 185, 3) := by decide +kernel
theorem dX10_toldRows_23 : decode cX10_toldRows 23 = .ok (.ifCond .eq 6, 3) := by decide +kernel
theorem dX10_toldRows_26 : decode cX10_toldRows 26 = .ok (.iinc 1 1, 3) := by decide +kernel
theorem dX10_toldRows_29 : decode cX10_toldRows 29 = .ok (.iinc 2 1, 3) := by decide +kernel
theorem dX10_toldRows_32 : decode cX10_toldRows 32 = .ok (.goto (-28), 3) := by decide +kernel
theorem dX10_toldRows_35 : decode cX10_toldRows 35 = .ok (.iload_n 1, 1) := by decide +kernel
theorem dX10_toldRows_36 : decode cX10_toldRows 36 = .ok (.ireturn, 1) := by decide +kernel
theorem dX10_degenerateRows_0 : decode cX10_degenerateRows 0 = .ok (.iconst 0, 1) := by decide +kernel
theorem dX10_degenerateRows_1 : decode cX10_degenerateRows 1 = .ok (.istore_n 1, 1) := by decide +kernel
theorem dX10_degenerateRows_2 : decode cX10_degenerateRows 2 = .ok (.iconst 0, 1) := by decide +kernel
theorem dX10_degenerateRows_3 : decode cX10_degenerateRows 3 = .ok (.istore_n 2, 1) := by decide +kernel
theorem dX10_degenerateRows_4 : decode cX10_degenerateRows 4 = .ok (.iload_n 2, 1) := by decide +kernel
theorem dX10_degenerateRows_5 : decode cX10_degenerateRows 5 = .ok (.aload_n 0, 1) := by decide +kernel
theorem dX10_degenerateRows_6 : decode cX10_degenerateRows 6 = .ok (.getfield 10, 3) := by decide +kernel
theorem dX10_degenerateRows_9 : decode cX10_degenerateRows 9 = .ok (.invokevirtual 121, 3) := by decide +kernel
theorem dX10_degenerateRows_12 : decode cX10_degenerateRows 12 = .ok (.if_icmp .ge 47, 3) := by decide +kernel
theorem dX10_degenerateRows_15 : decode cX10_degenerateRows 15 = .ok (.aload_n 0, 1) := by decide +kernel
theorem dX10_degenerateRows_16 : decode cX10_degenerateRows 16 = .ok (.getfield 10, 3) := by decide +kernel
theorem dX10_degenerateRows_19 : decode cX10_degenerateRows 19 = .ok (.iload_n 2, 1) := by decide +kernel
theorem dX10_degenerateRows_20 : decode cX10_degenerateRows 20 = .ok (.invokevirtual 185, 3) := by decide +kernel
theorem dX10_degenerateRows_23 : decode cX10_degenerateRows 23 = .ok (.ifCond .eq 30, 3) := by decide +kernel
theorem dX10_degenerateRows_26 : decode cX10_degenerateRows 26 = .ok (.aload_n 0, 1) := by decide +kernel
theorem dX10_degenerateRows_27 : decode cX10_degenerateRows 27 = .ok (.getfield 10, 3) := by decide +kernel
theorem dX10_degenerateRows_30 : decode cX10_degenerateRows 30 = .ok (.iload_n 2, 1) := by decide +kernel
theorem dX10_degenerateRows_31 : decode cX10_degenerateRows 31 = .ok (.iconst 0, 1) := by decide +kernel
theorem dX10_degenerateRows_32 : decode cX10_degenerateRows 32 = .ok (.invokevirtual 133, 3) := by decide +kernel
theorem dX10_degenerateRows_35 : decode cX10_degenerateRows 35 = .ok (.aload_n 0, 1) := by decide +kernel
theorem dX10_degenerateRows_36 : decode cX10_degenerateRows 36 = .ok (.getfield 10, 3) := by decide +kernel
theorem dX10_degenerateRows_39 : decode cX10_degenerateRows 39 = .ok (.iload_n 2, 1) := by decide +kernel
theorem dX10_degenerateRows_40 : decode cX10_degenerateRows 40 = .ok (.iconst 1, 1) := by decide +kernel
theorem dX10_degenerateRows_41 : decode cX10_degenerateRows 41 = .ok (.invokevirtual 133, 3) := by decide +kernel
theorem dX10_degenerateRows_44 : decode cX10_degenerateRows 44 = .ok (.invokestatic 199, 3) := by decide +kernel
theorem dX10_degenerateRows_47 : decode cX10_degenerateRows 47 = .ok (.ifCond .eq 6, 3) := by decide +kernel
theorem dX10_degenerateRows_50 : decode cX10_degenerateRows 50 = .ok (.iinc 1 1, 3) := by decide +kernel
theorem dX10_degenerateRows_53 : decode cX10_degenerateRows 53 = .ok (.iinc 2 1, 3) := by decide +kernel
theorem dX10_degenerateRows_56 : decode cX10_degenerateRows 56 = .ok (.goto (-52), 3) := by decide +kernel
theorem dX10_degenerateRows_59 : decode cX10_degenerateRows 59 = .ok (.iload_n 1, 1) := by decide +kernel
theorem dX10_degenerateRows_60 : decode cX10_degenerateRows 60 = .ok (.ireturn, 1) := by decide +kernel
theorem dX10_nextState_0 : decode cX10_nextState 0 = .ok (.ldc2_w 314, 3) := by decide +kernel
theorem dX10_nextState_3 : decode cX10_nextState 3 = .ok (.iload_n 0, 1) := by decide +kernel
theorem dX10_nextState_4 : decode cX10_nextState 4 = .ok (.i2l, 1) := by decide +kernel
theorem dX10_nextState_5 : decode cX10_nextState 5 = .ok (.lmul, 1) := by decide +kernel
theorem dX10_nextState_6 : decode cX10_nextState 6 = .ok (.ldc2_w 316, 3) := by decide +kernel
theorem dX10_nextState_9 : decode cX10_nextState 9 = .ok (.ladd, 1) := by decide +kernel
theorem dX10_nextState_10 : decode cX10_nextState 10 = .ok (.ldc2_w 318, 3) := by decide +kernel
theorem dX10_nextState_13 : decode cX10_nextState 13 = .ok (.land, 1) := by decide +kernel
theorem dX10_nextState_14 : decode cX10_nextState 14 = .ok (.l2i, 1) := by decide +kernel
theorem dX10_nextState_15 : decode cX10_nextState 15 = .ok (.ireturn, 1) := by decide +kernel
theorem dX10_numberDrawnAt_0 : decode cX10_numberDrawnAt 0 = .ok (.iload_n 0, 1) := by decide +kernel
theorem dX10_numberDrawnAt_1 : decode cX10_numberDrawnAt 1 = .ok (.ldc_w 320, 3) := by decide +kernel
theorem dX10_numberDrawnAt_4 : decode cX10_numberDrawnAt 4 = .ok (.idiv, 1) := by decide +kernel
theorem dX10_numberDrawnAt_5 : decode cX10_numberDrawnAt 5 = .ok (.bipush 7, 2) := by decide +kernel
theorem dX10_numberDrawnAt_7 : decode cX10_numberDrawnAt 7 = .ok (.irem, 1) := by decide +kernel
theorem dX10_numberDrawnAt_8 : decode cX10_numberDrawnAt 8 = .ok (.iconst 3, 1) := by decide +kernel
theorem dX10_numberDrawnAt_9 : decode cX10_numberDrawnAt 9 = .ok (.isub, 1) := by decide +kernel
theorem dX10_numberDrawnAt_10 : decode cX10_numberDrawnAt 10 = .ok (.ireturn, 1) := by decide +kernel
theorem dX10_numbersOf_0 : decode cX10_numbersOf 0 = .ok (.iload_n 0, 1) := by decide +kernel
theorem dX10_numbersOf_1 : decode cX10_numbersOf 1 = .ok (.tableswitch 41 0 4 #[35, 41, 41, 37, 39], 35) := by decide +kernel
theorem dX10_numbersOf_36 : decode cX10_numbersOf 36 = .ok (.iconst 4, 1) := by decide +kernel
theorem dX10_numbersOf_37 : decode cX10_numbersOf 37 = .ok (.ireturn, 1) := by decide +kernel
theorem dX10_numbersOf_38 : decode cX10_numbersOf 38 = .ok (.iconst 3, 1) := by decide +kernel
theorem dX10_numbersOf_39 : decode cX10_numbersOf 39 = .ok (.ireturn, 1) := by decide +kernel
theorem dX10_numbersOf_40 : decode cX10_numbersOf 40 = .ok (.iconst 1, 1) := by decide +kernel
theorem dX10_numbersOf_41 : decode cX10_numbersOf 41 = .ok (.ireturn, 1) := by decide +kernel
theorem dX10_numbersOf_42 : decode cX10_numbersOf 42 = .ok (.iconst 2, 1) := by decide +kernel
theorem dX10_numbersOf_43 : decode cX10_numbersOf 43 = .ok (.ireturn, 1) := by decide +kernel
theorem dX10_classAbove_0 : decode cX10_classAbove 0 = .ok (.iload_n 0, 1) := by decide +kernel
theorem dX10_classAbove_1 : decode cX10_classAbove 1 = .ok (.tableswitch 36 1 4 #[31, 31, 33, 33], 31) := by decide +kernel
theorem dX10_classAbove_32 : decode cX10_classAbove 32 = .ok (.iconst 5, 1) := by decide +kernel
theorem dX10_classAbove_33 : decode cX10_classAbove 33 = .ok (.ireturn, 1) := by decide +kernel
theorem dX10_classAbove_34 : decode cX10_classAbove 34 = .ok (.bipush 6, 2) := by decide +kernel
theorem dX10_classAbove_36 : decode cX10_classAbove 36 = .ok (.ireturn, 1) := by decide +kernel
theorem dX10_classAbove_37 : decode cX10_classAbove 37 = .ok (.iload_n 0, 1) := by decide +kernel
theorem dX10_classAbove_38 : decode cX10_classAbove 38 = .ok (.ireturn, 1) := by decide +kernel
theorem dX10_isTellable_0 : decode cX10_isTellable 0 = .ok (.iload_n 0, 1) := by decide +kernel
theorem dX10_isTellable_1 : decode cX10_isTellable 1 = .ok (.bipush (-9), 2) := by decide +kernel
theorem dX10_isTellable_3 : decode cX10_isTellable 3 = .ok (.bipush 9, 2) := by decide +kernel
theorem dX10_isTellable_5 : decode cX10_isTellable 5 = .ok (.invokestatic 76, 3) := by decide +kernel
theorem dX10_isTellable_8 : decode cX10_isTellable 8 = .ok (.ifCond .eq 44, 3) := by decide +kernel
theorem dX10_isTellable_11 : decode cX10_isTellable 11 = .ok (.iload_n 1, 1) := by decide +kernel
theorem dX10_isTellable_12 : decode cX10_isTellable 12 = .ok (.bipush (-9), 2) := by decide +kernel
theorem dX10_isTellable_14 : decode cX10_isTellable 14 = .ok (.bipush 9, 2) := by decide +kernel
theorem dX10_isTellable_16 : decode cX10_isTellable 16 = .ok (.invokestatic 76, 3) := by decide +kernel
theorem dX10_isTellable_19 : decode cX10_isTellable 19 = .ok (.ifCond .eq 33, 3) := by decide +kernel
theorem dX10_isTellable_22 : decode cX10_isTellable 22 = .ok (.iload_n 2, 1) := by decide +kernel
theorem dX10_isTellable_23 : decode cX10_isTellable 23 = .ok (.sipush (-999), 3) := by decide +kernel
theorem dX10_isTellable_26 : decode cX10_isTellable 26 = .ok (.sipush 999, 3) := by decide +kernel
theorem dX10_isTellable_29 : decode cX10_isTellable 29 = .ok (.invokestatic 76, 3) := by decide +kernel
theorem dX10_isTellable_32 : decode cX10_isTellable 32 = .ok (.ifCond .eq 20, 3) := by decide +kernel
theorem dX10_isTellable_35 : decode cX10_isTellable 35 = .ok (.iload_n 3, 1) := by decide +kernel
theorem dX10_isTellable_36 : decode cX10_isTellable 36 = .ok (.sipush (-999), 3) := by decide +kernel
theorem dX10_isTellable_39 : decode cX10_isTellable 39 = .ok (.sipush 999, 3) := by decide +kernel
theorem dX10_isTellable_42 : decode cX10_isTellable 42 = .ok (.invokestatic 76, 3) := by decide +kernel
theorem dX10_isTellable_45 : decode cX10_isTellable 45 = .ok (.ifCond .eq 7, 3) := by decide +kernel
theorem dX10_isTellable_48 : decode cX10_isTellable 48 = .ok (.iconst 1, 1) := by decide +kernel
theorem dX10_isTellable_49 : decode cX10_isTellable 49 = .ok (.goto 4, 3) := by decide +kernel
theorem dX10_isTellable_52 : decode cX10_isTellable 52 = .ok (.iconst 0, 1) := by decide +kernel
theorem dX10_isTellable_53 : decode cX10_isTellable 53 = .ok (.ireturn, 1) := by decide +kernel
theorem dX10_isModulus_0 : decode cX10_isModulus 0 = .ok (.iload_n 0, 1) := by decide +kernel
theorem dX10_isModulus_1 : decode cX10_isModulus 1 = .ok (.iconst 2, 1) := by decide +kernel
theorem dX10_isModulus_2 : decode cX10_isModulus 2 = .ok (.bipush 10, 2) := by decide +kernel
theorem dX10_isModulus_4 : decode cX10_isModulus 4 = .ok (.invokestatic 76, 3) := by decide +kernel
theorem dX10_isModulus_7 : decode cX10_isModulus 7 = .ok (.ireturn, 1) := by decide +kernel
theorem dX10_isPrime_0 : decode cX10_isPrime 0 = .ok (.iload_n 0, 1) := by decide +kernel
theorem dX10_isPrime_1 : decode cX10_isPrime 1 = .ok (.iconst 2, 1) := by decide +kernel
theorem dX10_isPrime_2 : decode cX10_isPrime 2 = .ok (.if_icmp .eq 19, 3) := by decide +kernel
theorem dX10_isPrime_5 : decode cX10_isPrime 5 = .ok (.iload_n 0, 1) := by decide +kernel
theorem dX10_isPrime_6 : decode cX10_isPrime 6 = .ok (.iconst 3, 1) := by decide +kernel
theorem dX10_isPrime_7 : decode cX10_isPrime 7 = .ok (.if_icmp .eq 14, 3) := by decide +kernel
theorem dX10_isPrime_10 : decode cX10_isPrime 10 = .ok (.iload_n 0, 1) := by decide +kernel
theorem dX10_isPrime_11 : decode cX10_isPrime 11 = .ok (.iconst 5, 1) := by decide +kernel
theorem dX10_isPrime_12 : decode cX10_isPrime 12 = .ok (.if_icmp .eq 9, 3) := by decide +kernel
theorem dX10_isPrime_15 : decode cX10_isPrime 15 = .ok (.iload_n 0, 1) := by decide +kernel
theorem dX10_isPrime_16 : decode cX10_isPrime 16 = .ok (.bipush 7, 2) := by decide +kernel
theorem dX10_isPrime_18 : decode cX10_isPrime 18 = .ok (.if_icmp .ne 7, 3) := by decide +kernel
theorem dX10_isPrime_21 : decode cX10_isPrime 21 = .ok (.iconst 1, 1) := by decide +kernel
theorem dX10_isPrime_22 : decode cX10_isPrime 22 = .ok (.goto 4, 3) := by decide +kernel
theorem dX10_isPrime_25 : decode cX10_isPrime 25 = .ok (.iconst 0, 1) := by decide +kernel
theorem dX10_isPrime_26 : decode cX10_isPrime 26 = .ok (.ireturn, 1) := by decide +kernel
theorem dX10_isWithin_0 : decode cX10_isWithin 0 = .ok (.iload_n 0, 1) := by decide +kernel
theorem dX10_isWithin_1 : decode cX10_isWithin 1 = .ok (.iload_n 1, 1) := by decide +kernel
theorem dX10_isWithin_2 : decode cX10_isWithin 2 = .ok (.if_icmp .lt 12, 3) := by decide +kernel
theorem dX10_isWithin_5 : decode cX10_isWithin 5 = .ok (.iload_n 0, 1) := by decide +kernel
theorem dX10_isWithin_6 : decode cX10_isWithin 6 = .ok (.iload_n 2, 1) := by decide +kernel
theorem dX10_isWithin_7 : decode cX10_isWithin 7 = .ok (.if_icmp .gt 7, 3) := by decide +kernel
theorem dX10_isWithin_10 : decode cX10_isWithin 10 = .ok (.iconst 1, 1) := by decide +kernel
theorem dX10_isWithin_11 : decode cX10_isWithin 11 = .ok (.goto 4, 3) := by decide +kernel
theorem dX10_isWithin_14 : decode cX10_isWithin 14 = .ok (.iconst 0, 1) := by decide +kernel
theorem dX10_isWithin_15 : decode cX10_isWithin 15 = .ok (.ireturn, 1) := by decide +kernel
end
section
theorem dX11_init_0 : decode cX11_init 0 = .ok (.aload_n 0, 1) := by decide +kernel
theorem dX11_init_1 : decode cX11_init 1 = .ok (.invokespecial 1, 3) := by decide +kernel
theorem dX11_init_4 : decode cX11_init 4 = .ok (.aload_n 0, 1) := by decide +kernel
theorem dX11_init_5 : decode cX11_init 5 = .ok (.bipush 9, 2) := by decide +kernel
theorem dX11_init_7 : decode cX11_init 7 = .ok (.newarray .int, 2) := by decide +kernel
theorem dX11_init_9 : decode cX11_init 9 = .ok (.putfield 7, 3) := by decide +kernel
theorem dX11_init_12 : decode cX11_init 12 = .ok (.aload_n 0, 1) := by decide +kernel
theorem dX11_init_13 : decode cX11_init 13 = .ok (.bipush 36, 2) := by decide +kernel
theorem dX11_init_15 : decode cX11_init 15 = .ok (.newarray .int, 2) := by decide +kernel
theorem dX11_init_17 : decode cX11_init 17 = .ok (.putfield 13, 3) := by decide +kernel
theorem dX11_init_20 : decode cX11_init 20 = .ok (.aload_n 0, 1) := by decide +kernel
theorem dX11_init_21 : decode cX11_init 21 = .ok (.bipush 8, 2) := by decide +kernel
theorem dX11_init_23 : decode cX11_init 23 = .ok (.newarray .int, 2) := by decide +kernel
theorem dX11_init_25 : decode cX11_init 25 = .ok (.putfield 16, 3) := by decide +kernel
theorem dX11_init_28 : decode cX11_init 28 = .ok (.aload_n 0, 1) := by decide +kernel
theorem dX11_init_29 : decode cX11_init 29 = .ok (.bipush 47, 2) := by decide +kernel
theorem dX11_init_31 : decode cX11_init 31 = .ok (.newarray .byte, 2) := by decide +kernel
theorem dX11_init_33 : decode cX11_init 33 = .ok (.putfield 19, 3) := by decide +kernel
theorem dX11_init_36 : decode cX11_init 36 = .ok (.aload_n 0, 1) := by decide +kernel
theorem dX11_init_37 : decode cX11_init 37 = .ok (.bipush 8, 2) := by decide +kernel
theorem dX11_init_39 : decode cX11_init 39 = .ok (.newarray .int, 2) := by decide +kernel
theorem dX11_init_41 : decode cX11_init 41 = .ok (.putfield 23, 3) := by decide +kernel
theorem dX11_init_44 : decode cX11_init 44 = .ok (.aload_n 0, 1) := by decide +kernel
theorem dX11_init_45 : decode cX11_init 45 = .ok (.bipush 32, 2) := by decide +kernel
theorem dX11_init_47 : decode cX11_init 47 = .ok (.newarray .int, 2) := by decide +kernel
theorem dX11_init_49 : decode cX11_init 49 = .ok (.putfield 26, 3) := by decide +kernel
theorem dX11_init_52 : decode cX11_init 52 = .ok (.aload_n 0, 1) := by decide +kernel
theorem dX11_init_53 : decode cX11_init 53 = .ok (.sipush 1608, 3) := by decide +kernel
theorem dX11_init_56 : decode cX11_init 56 = .ok (.newarray .int, 2) := by decide +kernel
theorem dX11_init_58 : decode cX11_init 58 = .ok (.putfield 29, 3) := by decide +kernel
theorem dX11_init_61 : decode cX11_init 61 = .ok (.aload_n 0, 1) := by decide +kernel
theorem dX11_init_62 : decode cX11_init 62 = .ok (.bipush 9, 2) := by decide +kernel
theorem dX11_init_64 : decode cX11_init 64 = .ok (.newarray .int, 2) := by decide +kernel
theorem dX11_init_66 : decode cX11_init 66 = .ok (.putfield 32, 3) := by decide +kernel
theorem dX11_init_69 : decode cX11_init 69 = .ok (.aload_n 0, 1) := by decide +kernel
theorem dX11_init_70 : decode cX11_init 70 = .ok (.bipush 9, 2) := by decide +kernel
theorem dX11_init_72 : decode cX11_init 72 = .ok (.newarray .int, 2) := by decide +kernel
theorem dX11_init_74 : decode cX11_init 74 = .ok (.putfield 35, 3) := by decide +kernel
theorem dX11_init_77 : decode cX11_init 77 = .ok (.aload_n 0, 1) := by decide +kernel
theorem dX11_init_78 : decode cX11_init 78 = .ok (.sipush 4608, 3) := by decide +kernel
theorem dX11_init_81 : decode cX11_init 81 = .ok (.newarray .byte, 2) := by decide +kernel
theorem dX11_init_83 : decode cX11_init 83 = .ok (.putfield 38, 3) := by decide +kernel
theorem dX11_init_86 : decode cX11_init 86 = .ok (.aload_n 0, 1) := by decide +kernel
theorem dX11_init_87 : decode cX11_init 87 = .ok (.bipush 100, 2) := by decide +kernel
theorem dX11_init_89 : decode cX11_init 89 = .ok (.newarray .int, 2) := by decide +kernel
theorem dX11_init_91 : decode cX11_init 91 = .ok (.putfield 41, 3) := by decide +kernel
theorem dX11_init_94 : decode cX11_init 94 = .ok (.aload_n 0, 1) := by decide +kernel
theorem dX11_init_95 : decode cX11_init 95 = .ok (.sipush 272, 3) := by decide +kernel
theorem dX11_init_98 : decode cX11_init 98 = .ok (.newarray .int, 2) := by decide +kernel
theorem dX11_init_100 : decode cX11_init 100 = .ok (.putfield 44, 3) := by decide +kernel
theorem dX11_init_103 : decode cX11_init 103 = .ok (.aload_n 0, 1) := by decide +kernel
theorem dX11_init_104 : decode cX11_init 104 = .ok (.bipush 17, 2) := by decide +kernel
theorem dX11_init_106 : decode cX11_init 106 = .ok (.newarray .int, 2) := by decide +kernel
theorem dX11_init_108 : decode cX11_init 108 = .ok (.putfield 47, 3) := by decide +kernel
theorem dX11_init_111 : decode cX11_init 111 = .ok (.aload_n 0, 1) := by decide +kernel
theorem dX11_init_112 : decode cX11_init 112 = .ok (.sipush 1000, 3) := by decide +kernel
theorem dX11_init_115 : decode cX11_init 115 = .ok (.newarray .boolean, 2) := by decide +kernel
theorem dX11_init_117 : decode cX11_init 117 = .ok (.putfield 50, 3) := by decide +kernel
theorem dX11_init_120 : decode cX11_init 120 = .ok (.aload_n 0, 1) := by decide +kernel
theorem dX11_init_121 : decode cX11_init 121 = .ok (.ldc 54, 2) := by decide +kernel
theorem dX11_init_123 : decode cX11_init 123 = .ok (.putfield 55, 3) := by decide +kernel
theorem dX11_init_126 : decode cX11_init 126 = .ok (.aload_n 0, 1) := by decide +kernel
theorem dX11_init_127 : decode cX11_init 127 = .ok (.bipush 9, 2) := by decide +kernel
theorem dX11_init_129 : decode cX11_init 129 = .ok (.newarray .int, 2) := by decide +kernel
theorem dX11_init_131 : decode cX11_init 131 = .ok (.putfield 59, 3) := by decide +kernel
theorem dX11_init_134 : decode cX11_init 134 = .ok (.aload_n 0, 1) := by decide +kernel
theorem dX11_init_135 : decode cX11_init 135 = .ok (.bipush 36, 2) := by decide +kernel
theorem dX11_init_137 : decode cX11_init 137 = .ok (.newarray .int, 2) := by decide +kernel
theorem dX11_init_139 : decode cX11_init 139 = .ok (.putfield 62, 3) := by decide +kernel
theorem dX11_init_142 : decode cX11_init 142 = .ok (.aload_n 0, 1) := by decide +kernel
theorem dX11_init_143 : decode cX11_init 143 = .ok (.bipush 8, 2) := by decide +kernel
theorem dX11_init_145 : decode cX11_init 145 = .ok (.newarray .int, 2) := by decide +kernel
theorem dX11_init_147 : decode cX11_init 147 = .ok (.putfield 65, 3) := by decide +kernel
theorem dX11_init_150 : decode cX11_init 150 = .ok (.return_, 1) := by decide +kernel
theorem dX11_within_0 : decode cX11_within 0 = .ok (.iload_n 0, 1) := by decide +kernel
theorem dX11_within_1 : decode cX11_within 1 = .ok (.iload_n 1, 1) := by decide +kernel
theorem dX11_within_2 : decode cX11_within 2 = .ok (.if_icmp .lt 12, 3) := by decide +kernel
theorem dX11_within_5 : decode cX11_within 5 = .ok (.iload_n 0, 1) := by decide +kernel
theorem dX11_within_6 : decode cX11_within 6 = .ok (.iload_n 2, 1) := by decide +kernel
theorem dX11_within_7 : decode cX11_within 7 = .ok (.if_icmp .gt 7, 3) := by decide +kernel
theorem dX11_within_10 : decode cX11_within 10 = .ok (.iconst 1, 1) := by decide +kernel
theorem dX11_within_11 : decode cX11_within 11 = .ok (.goto 4, 3) := by decide +kernel
theorem dX11_within_14 : decode cX11_within 14 = .ok (.iconst 0, 1) := by decide +kernel
theorem dX11_within_15 : decode cX11_within 15 = .ok (.ireturn, 1) := by decide +kernel
theorem dX11_letter_0 : decode cX11_letter 0 = .ok (.iload_n 1, 1) := by decide +kernel
theorem dX11_letter_1 : decode cX11_letter 1 = .ok (.bipush 32, 2) := by decide +kernel
theorem dX11_letter_3 : decode cX11_letter 3 = .ok (.bipush 126, 2) := by decide +kernel
theorem dX11_letter_5 : decode cX11_letter 5 = .ok (.invokestatic 68, 3) := by decide +kernel
theorem dX11_letter_8 : decode cX11_letter 8 = .ok (.ifCond .ne 6, 3) := by decide +kernel
theorem dX11_letter_11 : decode cX11_letter 11 = .ok (.ldc 72, 2) := by decide +kernel
theorem dX11_letter_13 : decode cX11_letter 13 = .ok (.ireturn, 1) := by decide +kernel
theorem dX11_letter_14 : decode cX11_letter 14 = .ok (.aload_n 0, 1) := by decide +kernel
theorem dX11_letter_15 : decode cX11_letter 15 = .ok (.getfield 73, 3) := by decide +kernel
theorem dX11_letter_18 : decode cX11_letter 18 = .ok (.bipush 47, 2) := by decide +kernel
theorem dX11_letter_20 : decode cX11_letter 20 = .ok (.if_icmp .ne 6, 3) := by decide +kernel
theorem dX11_letter_23 : decode cX11_letter 23 = .ok (.ldc 76, 2) := by decide +kernel
theorem dX11_letter_25 : decode cX11_letter 25 = .ok (.ireturn, 1) := by decide +kernel
theorem dX11_letter_26 : decode cX11_letter 26 = .ok (.aload_n 0, 1) := by decide +kernel
theorem dX11_letter_27 : decode cX11_letter 27 = .ok (.getfield 19, 3) := by decide +kernel
theorem dX11_letter_30 : decode cX11_letter 30 = .ok (.aload_n 0, 1) := by decide +kernel
theorem dX11_letter_31 : decode cX11_letter 31 = .ok (.getfield 73, 3) := by decide +kernel
theorem dX11_letter_34 : decode cX11_letter 34 = .ok (.iload_n 1, 1) := by decide +kernel
theorem dX11_letter_35 : decode cX11_letter 35 = .ok (.i2b, 1) := by decide +kernel
theorem dX11_letter_36 : decode cX11_letter 36 = .ok (.bastore, 1) := by decide +kernel
theorem dX11_letter_37 : decode cX11_letter 37 = .ok (.aload_n 0, 1) := by decide +kernel
theorem dX11_letter_38 : decode cX11_letter 38 = .ok (.dup, 1) := by decide +kernel
theorem dX11_letter_39 : decode cX11_letter 39 = .ok (.getfield 73, 3) := by decide +kernel
theorem dX11_letter_42 : decode cX11_letter 42 = .ok (.iconst 1, 1) := by decide +kernel
theorem dX11_letter_43 : decode cX11_letter 43 = .ok (.iadd, 1) := by decide +kernel
theorem dX11_letter_44 : decode cX11_letter 44 = .ok (.putfield 73, 3) := by decide +kernel
theorem dX11_letter_47 : decode cX11_letter 47 = .ok (.aload_n 0, 1) := by decide +kernel
theorem dX11_letter_48 : decode cX11_letter 48 = .ok (.getfield 73, 3) := by decide +kernel
theorem dX11_letter_51 : decode cX11_letter 51 = .ok (.ireturn, 1) := by decide +kernel
theorem dX11_blank_0 : decode cX11_blank 0 = .ok (.aload_n 0, 1) := by decide +kernel
theorem dX11_blank_1 : decode cX11_blank 1 = .ok (.getfield 73, 3) := by decide +kernel
theorem dX11_blank_4 : decode cX11_blank 4 = .ok (.istore_n 1, 1) := by decide +kernel
theorem dX11_blank_5 : decode cX11_blank 5 = .ok (.aload_n 0, 1) := by decide +kernel
theorem dX11_blank_6 : decode cX11_blank 6 = .ok (.iconst 0, 1) := by decide +kernel
theorem dX11_blank_7 : decode cX11_blank 7 = .ok (.putfield 73, 3) := by decide +kernel
theorem dX11_blank_10 : decode cX11_blank 10 = .ok (.iload_n 1, 1) := by decide +kernel
theorem dX11_blank_11 : decode cX11_blank 11 = .ok (.ireturn, 1) := by decide +kernel
theorem dX11_kindBy_0 : decode cX11_kindBy 0 = .ok (.iload_n 0, 1) := by decide +kernel
theorem dX11_kindBy_1 : decode cX11_kindBy 1 = .ok (.lookupswitch 61 #[(42, 55), (43, 53), (100, 59), (101, 57), (116, 51)], 51) := by decide +kernel
theorem dX11_kindBy_52 : decode cX11_kindBy 52 = .ok (.iconst 0, 1) := by decide +kernel
theorem dX11_kindBy_53 : decode cX11_kindBy 53 = .ok (.ireturn, 1) := by decide +kernel
theorem dX11_kindBy_54 : decode cX11_kindBy 54 = .ok (.iconst 1, 1) := by decide +kernel
theorem dX11_kindBy_55 : decode cX11_kindBy 55 = .ok (.ireturn, 1) := by decide +kernel
theorem dX11_kindBy_56 : decode cX11_kindBy 56 = .ok (.iconst 2, 1) := by decide +kernel
theorem dX11_kindBy_57 : decode cX11_kindBy 57 = .ok (.ireturn, 1) := by decide +kernel
theorem dX11_kindBy_58 : decode cX11_kindBy 58 = .ok (.iconst 3, 1) := by decide +kernel
theorem dX11_kindBy_59 : decode cX11_kindBy 59 = .ok (.ireturn, 1) := by decide +kernel
theorem dX11_kindBy_60 : decode cX11_kindBy 60 = .ok (.iconst 4, 1) := by decide +kernel
theorem dX11_kindBy_61 : decode cX11_kindBy 61 = .ok (.ireturn, 1) := by decide +kernel
theorem dX11_kindBy_62 : decode cX11_kindBy 62 = .ok (.ldc 54, 2) := by decide +kernel
theorem dX11_kindBy_64 : decode cX11_kindBy 64 = .ok (.ireturn, 1) := by decide +kernel
theorem dX11_signsOf_0 : decode cX11_signsOf 0 = .ok (.iload_n 0, 1) := by decide +kernel
theorem dX11_signsOf_1 : decode cX11_signsOf 1 = .ok (.tableswitch 41 0 4 #[35, 41, 41, 37, 39], 35) := by decide +kernel
theorem dX11_signsOf_36 : decode cX11_signsOf 36 = .ok (.iconst 4, 1) := by decide +kernel
theorem dX11_signsOf_37 : decode cX11_signsOf 37 = .ok (.ireturn, 1) := by decide +kernel
theorem dX11_signsOf_38 : decode cX11_signsOf 38 = .ok (.iconst 3, 1) := by decide +kernel
theorem dX11_signsOf_39 : decode cX11_signsOf 39 = .ok (.ireturn, 1) := by decide +kernel
theorem dX11_signsOf_40 : decode cX11_signsOf 40 = .ok (.iconst 1, 1) := by decide +kernel
theorem dX11_signsOf_41 : decode cX11_signsOf 41 = .ok (.ireturn, 1) := by decide +kernel
theorem dX11_signsOf_42 : decode cX11_signsOf 42 = .ok (.iconst 2, 1) := by decide +kernel
theorem dX11_signsOf_43 : decode cX11_signsOf 43 = .ok (.ireturn, 1) := by decide +kernel
theorem dX11_valueOf_0 : decode cX11_valueOf 0 = .ok (.iload_n 0, 1) := by decide +kernel
theorem dX11_valueOf_1 : decode cX11_valueOf 1 = .ok (.bipush 48, 2) := by decide +kernel
theorem dX11_valueOf_3 : decode cX11_valueOf 3 = .ok (.bipush 57, 2) := by decide +kernel
theorem dX11_valueOf_5 : decode cX11_valueOf 5 = .ok (.invokestatic 68, 3) := by decide +kernel
theorem dX11_valueOf_8 : decode cX11_valueOf 8 = .ok (.ifCond .eq 10, 3) := by decide +kernel
theorem dX11_valueOf_11 : decode cX11_valueOf 11 = .ok (.iload_n 0, 1) := by decide +kernel
theorem dX11_valueOf_12 : decode cX11_valueOf 12 = .ok (.bipush 48, 2) := by decide +kernel
theorem dX11_valueOf_14 : decode cX11_valueOf 14 = .ok (.isub, 1) := by decide +kernel
theorem dX11_valueOf_15 : decode cX11_valueOf 15 = .ok (.goto 23, 3) := by decide +kernel
theorem dX11_valueOf_18 : decode cX11_valueOf 18 = .ok (.iload_n 0, 1) := by decide +kernel
theorem dX11_valueOf_19 : decode cX11_valueOf 19 = .ok (.bipush 97, 2) := by decide +kernel
theorem dX11_valueOf_21 : decode cX11_valueOf 21 = .ok (.bipush 105, 2) := by decide +kernel
theorem dX11_valueOf_23 : decode cX11_valueOf 23 = .ok (.invokestatic 68, 3) := by decide +kernel
theorem dX11_valueOf_26 : decode cX11_valueOf 26 = .ok (.ifCond .eq 10, 3) := by decide +kernel
theorem dX11_valueOf_29 : decode cX11_valueOf 29 = .ok (.bipush 96, 2) := by decide +kernel
theorem dX11_valueOf_31 : decode cX11_valueOf 31 = .ok (.iload_n 0, 1) := by decide +kernel
theorem dX11_valueOf_32 : decode cX11_valueOf 32 = .ok (.isub, 1) := by decide +kernel
theorem dX11_valueOf_33 : decode cX11_valueOf 33 = .ok (.goto 5, 3) := by decide +kernel
theorem dX11_valueOf_36 : decode cX11_valueOf 36 = .ok (.ldc 54, 2) := by decide +kernel
theorem dX11_valueOf_38 : decode cX11_valueOf 38 = .ok (.ireturn, 1) := by decide +kernel
theorem dX11_fitsSign_0 : decode cX11_fitsSign 0 = .ok (.aload_n 0, 1) := by decide +kernel
theorem dX11_fitsSign_1 : decode cX11_fitsSign 1 = .ok (.getfield 23, 3) := by decide +kernel
theorem dX11_fitsSign_4 : decode cX11_fitsSign 4 = .ok (.aload_n 0, 1) := by decide +kernel
theorem dX11_fitsSign_5 : decode cX11_fitsSign 5 = .ok (.getfield 77, 3) := by decide +kernel
theorem dX11_fitsSign_8 : decode cX11_fitsSign 8 = .ok (.iconst 1, 1) := by decide +kernel
theorem dX11_fitsSign_9 : decode cX11_fitsSign 9 = .ok (.isub, 1) := by decide +kernel
theorem dX11_fitsSign_10 : decode cX11_fitsSign 10 = .ok (.iaload, 1) := by decide +kernel
theorem dX11_fitsSign_11 : decode cX11_fitsSign 11 = .ok (.istore_n 2, 1) := by decide +kernel
theorem dX11_fitsSign_12 : decode cX11_fitsSign 12 = .ok (.iload_n 2, 1) := by decide +kernel
theorem dX11_fitsSign_13 : decode cX11_fitsSign 13 = .ok (.ifCond .ne 18, 3) := by decide +kernel
theorem dX11_fitsSign_16 : decode cX11_fitsSign 16 = .ok (.iload_n 1, 1) := by decide +kernel
theorem dX11_fitsSign_17 : decode cX11_fitsSign 17 = .ok (.invokestatic 80, 3) := by decide +kernel
theorem dX11_fitsSign_20 : decode cX11_fitsSign 20 = .ok (.ldc 54, 2) := by decide +kernel
theorem dX11_fitsSign_22 : decode cX11_fitsSign 22 = .ok (.if_icmp .eq 7, 3) := by decide +kernel
theorem dX11_fitsSign_25 : decode cX11_fitsSign 25 = .ok (.iconst 1, 1) := by decide +kernel
theorem dX11_fitsSign_26 : decode cX11_fitsSign 26 = .ok (.goto 4, 3) := by decide +kernel
theorem dX11_fitsSign_29 : decode cX11_fitsSign 29 = .ok (.iconst 0, 1) := by decide +kernel
theorem dX11_fitsSign_30 : decode cX11_fitsSign 30 = .ok (.ireturn, 1) := by decide +kernel
theorem dX11_fitsSign_31 : decode cX11_fitsSign 31 = .ok (.iload_n 2, 1) := by decide +kernel
theorem dX11_fitsSign_32 : decode cX11_fitsSign 32 = .ok (.iconst 3, 1) := by decide +kernel
theorem dX11_fitsSign_33 : decode cX11_fitsSign 33 = .ok (.if_icmp .ne 20, 3) := by decide +kernel
theorem dX11_fitsSign_36 : decode cX11_fitsSign 36 = .ok (.aload_n 0, 1) := by decide +kernel
theorem dX11_fitsSign_37 : decode cX11_fitsSign 37 = .ok (.getfield 84, 3) := by decide +kernel
theorem dX11_fitsSign_40 : decode cX11_fitsSign 40 = .ok (.iconst 1, 1) := by decide +kernel
theorem dX11_fitsSign_41 : decode cX11_fitsSign 41 = .ok (.if_icmp .ne 12, 3) := by decide +kernel
theorem dX11_fitsSign_44 : decode cX11_fitsSign 44 = .ok (.iload_n 1, 1) := by decide +kernel
theorem dX11_fitsSign_45 : decode cX11_fitsSign 45 = .ok (.bipush 49, 2) := by decide +kernel
theorem dX11_fitsSign_47 : decode cX11_fitsSign 47 = .ok (.bipush 53, 2) := by decide +kernel
theorem dX11_fitsSign_49 : decode cX11_fitsSign 49 = .ok (.invokestatic 68, 3) := by decide +kernel
theorem dX11_fitsSign_52 : decode cX11_fitsSign 52 = .ok (.ireturn, 1) := by decide +kernel
theorem dX11_fitsSign_53 : decode cX11_fitsSign 53 = .ok (.iload_n 2, 1) := by decide +kernel
theorem dX11_fitsSign_54 : decode cX11_fitsSign 54 = .ok (.iconst 3, 1) := by decide +kernel
theorem dX11_fitsSign_55 : decode cX11_fitsSign 55 = .ok (.if_icmp .ne 20, 3) := by decide +kernel
theorem dX11_fitsSign_58 : decode cX11_fitsSign 58 = .ok (.aload_n 0, 1) := by decide +kernel
theorem dX11_fitsSign_59 : decode cX11_fitsSign 59 = .ok (.getfield 84, 3) := by decide +kernel
theorem dX11_fitsSign_62 : decode cX11_fitsSign 62 = .ok (.iconst 2, 1) := by decide +kernel
theorem dX11_fitsSign_63 : decode cX11_fitsSign 63 = .ok (.if_icmp .ne 12, 3) := by decide +kernel
theorem dX11_fitsSign_66 : decode cX11_fitsSign 66 = .ok (.iload_n 1, 1) := by decide +kernel
theorem dX11_fitsSign_67 : decode cX11_fitsSign 67 = .ok (.bipush 48, 2) := by decide +kernel
theorem dX11_fitsSign_69 : decode cX11_fitsSign 69 = .ok (.bipush 57, 2) := by decide +kernel
theorem dX11_fitsSign_71 : decode cX11_fitsSign 71 = .ok (.invokestatic 68, 3) := by decide +kernel
theorem dX11_fitsSign_74 : decode cX11_fitsSign 74 = .ok (.ireturn, 1) := by decide +kernel
theorem dX11_fitsSign_75 : decode cX11_fitsSign 75 = .ok (.iload_n 1, 1) := by decide +kernel
theorem dX11_fitsSign_76 : decode cX11_fitsSign 76 = .ok (.bipush 48, 2) := by decide +kernel
theorem dX11_fitsSign_78 : decode cX11_fitsSign 78 = .ok (.bipush 48, 2) := by decide +kernel
theorem dX11_fitsSign_80 : decode cX11_fitsSign 80 = .ok (.aload_n 0, 1) := by decide +kernel
theorem dX11_fitsSign_81 : decode cX11_fitsSign 81 = .ok (.getfield 77, 3) := by decide +kernel
theorem dX11_fitsSign_84 : decode cX11_fitsSign 84 = .ok (.iadd, 1) := by decide +kernel
theorem dX11_fitsSign_85 : decode cX11_fitsSign 85 = .ok (.iconst 2, 1) := by decide +kernel
theorem dX11_fitsSign_86 : decode cX11_fitsSign 86 = .ok (.isub, 1) := by decide +kernel
theorem dX11_fitsSign_87 : decode cX11_fitsSign 87 = .ok (.invokestatic 68, 3) := by decide +kernel
theorem dX11_fitsSign_90 : decode cX11_fitsSign 90 = .ok (.ireturn, 1) := by decide +kernel
theorem dX11_isDone_0 : decode cX11_isDone 0 = .ok (.aload_n 0, 1) := by decide +kernel
theorem dX11_isDone_1 : decode cX11_isDone 1 = .ok (.getfield 77, 3) := by decide +kernel
theorem dX11_isDone_4 : decode cX11_isDone 4 = .ok (.ifCond .le 28, 3) := by decide +kernel
theorem dX11_isDone_7 : decode cX11_isDone 7 = .ok (.aload_n 0, 1) := by decide +kernel
theorem dX11_isDone_8 : decode cX11_isDone 8 = .ok (.getfield 84, 3) := by decide +kernel
theorem dX11_isDone_11 : decode cX11_isDone 11 = .ok (.aload_n 0, 1) := by decide +kernel
theorem dX11_isDone_12 : decode cX11_isDone 12 = .ok (.getfield 23, 3) := by decide +kernel
theorem dX11_isDone_15 : decode cX11_isDone 15 = .ok (.aload_n 0, 1) := by decide +kernel
theorem dX11_isDone_16 : decode cX11_isDone 16 = .ok (.getfield 77, 3) := by decide +kernel
theorem dX11_isDone_19 : decode cX11_isDone 19 = .ok (.iconst 1, 1) := by decide +kernel
theorem dX11_isDone_20 : decode cX11_isDone 20 = .ok (.isub, 1) := by decide +kernel
theorem dX11_isDone_21 : decode cX11_isDone 21 = .ok (.iaload, 1) := by decide +kernel
theorem dX11_isDone_22 : decode cX11_isDone 22 = .ok (.invokestatic 87, 3) := by decide +kernel
theorem dX11_isDone_25 : decode cX11_isDone 25 = .ok (.if_icmp .ne 7, 3) := by decide +kernel
theorem dX11_isDone_28 : decode cX11_isDone 28 = .ok (.iconst 1, 1) := by decide +kernel
theorem dX11_isDone_29 : decode cX11_isDone 29 = .ok (.goto 4, 3) := by decide +kernel
theorem dX11_isDone_32 : decode cX11_isDone 32 = .ok (.iconst 0, 1) := by decide +kernel
theorem dX11_isDone_33 : decode cX11_isDone 33 = .ok (.ireturn, 1) := by decide +kernel
theorem dX11_takes_0 : decode cX11_takes 0 = .ok (.aload_n 0, 1) := by decide +kernel
theorem dX11_takes_1 : decode cX11_takes 1 = .ok (.getfield 90, 3) := by decide +kernel
theorem dX11_takes_4 : decode cX11_takes 4 = .ok (.ifCond .eq 9, 3) := by decide +kernel
theorem dX11_takes_7 : decode cX11_takes 7 = .ok (.aload_n 0, 1) := by decide +kernel
theorem dX11_takes_8 : decode cX11_takes 8 = .ok (.iload_n 1, 1) := by decide +kernel
theorem dX11_takes_9 : decode cX11_takes 9 = .ok (.invokevirtual 94, 3) := by decide +kernel
theorem dX11_takes_12 : decode cX11_takes 12 = .ok (.ireturn, 1) := by decide +kernel
theorem dX11_takes_13 : decode cX11_takes 13 = .ok (.aload_n 0, 1) := by decide +kernel
theorem dX11_takes_14 : decode cX11_takes 14 = .ok (.invokevirtual 98, 3) := by decide +kernel
theorem dX11_takes_17 : decode cX11_takes 17 = .ok (.ifCond .eq 32, 3) := by decide +kernel
theorem dX11_takes_20 : decode cX11_takes 20 = .ok (.aload_n 0, 1) := by decide +kernel
theorem dX11_takes_21 : decode cX11_takes 21 = .ok (.iload_n 1, 1) := by decide +kernel
theorem dX11_takes_22 : decode cX11_takes 22 = .ok (.bipush 59, 2) := by decide +kernel
theorem dX11_takes_24 : decode cX11_takes 24 = .ok (.if_icmp .ne 16, 3) := by decide +kernel
theorem dX11_takes_27 : decode cX11_takes 27 = .ok (.aload_n 0, 1) := by decide +kernel
theorem dX11_takes_28 : decode cX11_takes 28 = .ok (.getfield 77, 3) := by decide +kernel
theorem dX11_takes_31 : decode cX11_takes 31 = .ok (.bipush 8, 2) := by decide +kernel
theorem dX11_takes_33 : decode cX11_takes 33 = .ok (.if_icmp .ge 7, 3) := by decide +kernel
theorem dX11_takes_36 : decode cX11_takes 36 = .ok (.iconst 1, 1) := by decide +kernel
theorem dX11_takes_37 : decode cX11_takes 37 = .ok (.goto 4, 3) := by decide +kernel
theorem dX11_takes_40 : decode cX11_takes 40 = .ok (.iconst 0, 1) := by decide +kernel
theorem dX11_takes_41 : decode cX11_takes 41 = .ok (.putfield 90, 3) := by decide +kernel
theorem dX11_takes_44 : decode cX11_takes 44 = .ok (.aload_n 0, 1) := by decide +kernel
theorem dX11_takes_45 : decode cX11_takes 45 = .ok (.getfield 90, 3) := by decide +kernel
theorem dX11_takes_48 : decode cX11_takes 48 = .ok (.ireturn, 1) := by decide +kernel
theorem dX11_takes_49 : decode cX11_takes 49 = .ok (.aload_n 0, 1) := by decide +kernel
theorem dX11_takes_50 : decode cX11_takes 50 = .ok (.iload_n 1, 1) := by decide +kernel
theorem dX11_takes_51 : decode cX11_takes 51 = .ok (.invokevirtual 102, 3) := by decide +kernel
theorem dX11_takes_54 : decode cX11_takes 54 = .ok (.ifCond .ne 5, 3) := by decide +kernel
theorem dX11_takes_57 : decode cX11_takes 57 = .ok (.iconst 0, 1) := by decide +kernel
theorem dX11_takes_58 : decode cX11_takes 58 = .ok (.ireturn, 1) := by decide +kernel
theorem dX11_takes_59 : decode cX11_takes 59 = .ok (.aload_n 0, 1) := by decide +kernel
theorem dX11_takes_60 : decode cX11_takes 60 = .ok (.getfield 26, 3) := by decide +kernel
theorem dX11_takes_63 : decode cX11_takes 63 = .ok (.iconst 4, 1) := by decide +kernel
theorem dX11_takes_64 : decode cX11_takes 64 = .ok (.aload_n 0, 1) := by decide +kernel
theorem dX11_takes_65 : decode cX11_takes 65 = .ok (.getfield 77, 3) := by decide +kernel
theorem dX11_takes_68 : decode cX11_takes 68 = .ok (.imul, 1) := by decide +kernel
theorem dX11_takes_69 : decode cX11_takes 69 = .ok (.iconst 4, 1) := by decide +kernel
theorem dX11_takes_70 : decode cX11_takes 70 = .ok (.isub, 1) := by decide +kernel
theorem dX11_takes_71 : decode cX11_takes 71 = .ok (.aload_n 0, 1) := by decide +kernel
theorem dX11_takes_72 : decode cX11_takes 72 = .ok (.getfield 84, 3) := by decide +kernel
theorem dX11_takes_75 : decode cX11_takes 75 = .ok (.iadd, 1) := by decide +kernel
theorem dX11_takes_76 : decode cX11_takes 76 = .ok (.iload_n 1, 1) := by decide +kernel
theorem dX11_takes_77 : decode cX11_takes 77 = .ok (.invokestatic 80, 3) := by decide +kernel
theorem dX11_takes_80 : decode cX11_takes 80 = .ok (.iastore, 1) := by decide +kernel
theorem dX11_takes_81 : decode cX11_takes 81 = .ok (.aload_n 0, 1) := by decide +kernel
theorem dX11_takes_82 : decode cX11_takes 82 = .ok (.dup, 1) := by decide +kernel
theorem dX11_takes_83 : decode cX11_takes 83 = .ok (.getfield 84, 3) := by decide +kernel
theorem dX11_takes_86 : decode cX11_takes 86 = .ok (.iconst 1, 1) := by decide +kernel
theorem dX11_takes_87 : decode cX11_takes 87 = .ok (.iadd, 1) := by decide +kernel
theorem dX11_takes_88 : decode cX11_takes 88 = .ok (.putfield 84, 3) := by decide +kernel
theorem dX11_takes_91 : decode cX11_takes 91 = .ok (.iconst 1, 1) := by decide +kernel
theorem dX11_takes_92 : decode cX11_takes 92 = .ok (.ireturn, 1) := by decide +kernel
theorem dX11_takesKind_0 : decode cX11_takesKind 0 = .ok (.iload_n 1, 1) := by decide +kernel
theorem dX11_takesKind_1 : decode cX11_takesKind 1 = .ok (.invokestatic 105, 3) := by decide +kernel
theorem dX11_takesKind_4 : decode cX11_takesKind 4 = .ok (.istore_n 2, 1) := by decide +kernel
theorem dX11_takesKind_5 : decode cX11_takesKind 5 = .ok (.iload_n 2, 1) := by decide +kernel
theorem dX11_takesKind_6 : decode cX11_takesKind 6 = .ok (.ldc 54, 2) := by decide +kernel
theorem dX11_takesKind_8 : decode cX11_takesKind 8 = .ok (.if_icmp .eq 14, 3) := by decide +kernel
theorem dX11_takesKind_11 : decode cX11_takesKind 11 = .ok (.iload_n 2, 1) := by decide +kernel
theorem dX11_takesKind_12 : decode cX11_takesKind 12 = .ok (.ifCond .eq 12, 3) := by decide +kernel
theorem dX11_takesKind_15 : decode cX11_takesKind 15 = .ok (.aload_n 0, 1) := by decide +kernel
theorem dX11_takesKind_16 : decode cX11_takesKind 16 = .ok (.getfield 77, 3) := by decide +kernel
theorem dX11_takesKind_19 : decode cX11_takesKind 19 = .ok (.ifCond .ne 5, 3) := by decide +kernel
theorem dX11_takesKind_22 : decode cX11_takesKind 22 = .ok (.iconst 0, 1) := by decide +kernel
theorem dX11_takesKind_23 : decode cX11_takesKind 23 = .ok (.ireturn, 1) := by decide +kernel
theorem dX11_takesKind_24 : decode cX11_takesKind 24 = .ok (.aload_n 0, 1) := by decide +kernel
theorem dX11_takesKind_25 : decode cX11_takesKind 25 = .ok (.getfield 23, 3) := by decide +kernel
theorem dX11_takesKind_28 : decode cX11_takesKind 28 = .ok (.aload_n 0, 1) := by decide +kernel
theorem dX11_takesKind_29 : decode cX11_takesKind 29 = .ok (.getfield 77, 3) := by decide +kernel
theorem dX11_takesKind_32 : decode cX11_takesKind 32 = .ok (.iload_n 2, 1) := by decide +kernel
theorem dX11_takesKind_33 : decode cX11_takesKind 33 = .ok (.iastore, 1) := by decide +kernel
theorem dX11_takesKind_34 : decode cX11_takesKind 34 = .ok (.iconst 0, 1) := by decide +kernel
theorem dX11_takesKind_35 : decode cX11_takesKind 35 = .ok (.istore_n 3, 1) := by decide +kernel
theorem dX11_takesKind_36 : decode cX11_takesKind 36 = .ok (.iload_n 3, 1) := by decide +kernel
theorem dX11_takesKind_37 : decode cX11_takesKind 37 = .ok (.iconst 4, 1) := by decide +kernel
theorem dX11_takesKind_38 : decode cX11_takesKind 38 = .ok (.if_icmp .ge 24, 3) := by decide +kernel
theorem dX11_takesKind_41 : decode cX11_takesKind 41 = .ok (.aload_n 0, 1) := by decide +kernel
theorem dX11_takesKind_42 : decode cX11_takesKind 42 = .ok (.getfield 26, 3) := by decide +kernel
theorem dX11_takesKind_45 : decode cX11_takesKind 45 = .ok (.iconst 4, 1) := by decide +kernel
theorem dX11_takesKind_46 : decode cX11_takesKind 46 = .ok (.aload_n 0, 1) := by decide +kernel
theorem dX11_takesKind_47 : decode cX11_takesKind 47 = .ok (.getfield 77, 3) := by decide +kernel
theorem dX11_takesKind_50 : decode cX11_takesKind 50 = .ok (.imul, 1) := by decide +kernel
theorem dX11_takesKind_51 : decode cX11_takesKind 51 = .ok (.iload_n 3, 1) := by decide +kernel
theorem dX11_takesKind_52 : decode cX11_takesKind 52 = .ok (.iadd, 1) := by decide +kernel
theorem dX11_takesKind_53 : decode cX11_takesKind 53 = .ok (.ldc 54, 2) := by decide +kernel
theorem dX11_takesKind_55 : decode cX11_takesKind 55 = .ok (.iastore, 1) := by decide +kernel
theorem dX11_takesKind_56 : decode cX11_takesKind 56 = .ok (.iinc 3 1, 3) := by decide +kernel
theorem dX11_takesKind_59 : decode cX11_takesKind 59 = .ok (.goto (-23), 3) := by decide +kernel
theorem dX11_takesKind_62 : decode cX11_takesKind 62 = .ok (.aload_n 0, 1) := by decide +kernel
theorem dX11_takesKind_63 : decode cX11_takesKind 63 = .ok (.dup, 1) := by decide +kernel
theorem dX11_takesKind_64 : decode cX11_takesKind 64 = .ok (.getfield 77, 3) := by decide +kernel
theorem dX11_takesKind_67 : decode cX11_takesKind 67 = .ok (.iconst 1, 1) := by decide +kernel
theorem dX11_takesKind_68 : decode cX11_takesKind 68 = .ok (.iadd, 1) := by decide +kernel
theorem dX11_takesKind_69 : decode cX11_takesKind 69 = .ok (.putfield 77, 3) := by decide +kernel
theorem dX11_takesKind_72 : decode cX11_takesKind 72 = .ok (.aload_n 0, 1) := by decide +kernel
theorem dX11_takesKind_73 : decode cX11_takesKind 73 = .ok (.iconst 0, 1) := by decide +kernel
theorem dX11_takesKind_74 : decode cX11_takesKind 74 = .ok (.putfield 84, 3) := by decide +kernel
theorem dX11_takesKind_77 : decode cX11_takesKind 77 = .ok (.aload_n 0, 1) := by decide +kernel
theorem dX11_takesKind_78 : decode cX11_takesKind 78 = .ok (.iconst 0, 1) := by decide +kernel
theorem dX11_takesKind_79 : decode cX11_takesKind 79 = .ok (.putfield 90, 3) := by decide +kernel
theorem dX11_takesKind_82 : decode cX11_takesKind 82 = .ok (.iconst 1, 1) := by decide +kernel
theorem dX11_takesKind_83 : decode cX11_takesKind 83 = .ok (.ireturn, 1) := by decide +kernel
theorem dX11_read_0 : decode cX11_read 0 = .ok (.aload_n 0, 1) := by decide +kernel
theorem dX11_read_1 : decode cX11_read 1 = .ok (.iconst 0, 1) := by decide +kernel
theorem dX11_read_2 : decode cX11_read 2 = .ok (.putfield 77, 3) := by decide +kernel
theorem dX11_read_5 : decode cX11_read 5 = .ok (.aload_n 0, 1) := by decide +kernel
theorem dX11_read_6 : decode cX11_read 6 = .ok (.iconst 0, 1) := by decide +kernel
theorem dX11_read_7 : decode cX11_read 7 = .ok (.putfield 84, 3) := by decide +kernel
theorem dX11_read_10 : decode cX11_read 10 = .ok (.aload_n 0, 1) := by decide +kernel
theorem dX11_read_11 : decode cX11_read 11 = .ok (.iconst 1, 1) := by decide +kernel
theorem dX11_read_12 : decode cX11_read 12 = .ok (.putfield 90, 3) := by decide +kernel
theorem dX11_read_15 : decode cX11_read 15 = .ok (.iconst 0, 1) := by decide +kernel
theorem dX11_read_16 : decode cX11_read 16 = .ok (.istore_n 1, 1) := by decide +kernel
theorem dX11_read_17 : decode cX11_read 17 = .ok (.iload_n 1, 1) := by decide +kernel
theorem dX11_read_18 : decode cX11_read 18 = .ok (.aload_n 0, 1) := by decide +kernel
theorem dX11_read_19 : decode cX11_read 19 = .ok (.getfield 73, 3) := by decide +kernel
theorem dX11_read_22 : decode cX11_read 22 = .ok (.if_icmp .ge 22, 3) := by decide +kernel
theorem dX11_read_25 : decode cX11_read 25 = .ok (.aload_n 0, 1) := by decide +kernel
theorem dX11_read_26 : decode cX11_read 26 = .ok (.aload_n 0, 1) := by decide +kernel
theorem dX11_read_27 : decode cX11_read 27 = .ok (.getfield 19, 3) := by decide +kernel
theorem dX11_read_30 : decode cX11_read 30 = .ok (.iload_n 1, 1) := by decide +kernel
theorem dX11_read_31 : decode cX11_read 31 = .ok (.baload, 1) := by decide +kernel
theorem dX11_read_32 : decode cX11_read 32 = .ok (.invokevirtual 108, 3) := by decide +kernel
theorem dX11_read_35 : decode cX11_read 35 = .ok (.ifCond .eq 9, 3) := by decide +kernel
theorem dX11_read_38 : decode cX11_read 38 = .ok (.iinc 1 1, 3) := by decide +kernel
theorem dX11_read_41 : decode cX11_read 41 = .ok (.goto (-24), 3) := by decide +kernel
theorem dX11_read_44 : decode cX11_read 44 = .ok (.iload_n 1, 1) := by decide +kernel
theorem dX11_read_45 : decode cX11_read 45 = .ok (.ireturn, 1) := by decide +kernel
theorem dX11_fault_0 : decode cX11_fault 0 = .ok (.aload_n 0, 1) := by decide +kernel
theorem dX11_fault_1 : decode cX11_fault 1 = .ok (.invokevirtual 111, 3) := by decide +kernel
theorem dX11_fault_4 : decode cX11_fault 4 = .ok (.ireturn, 1) := by decide +kernel
theorem dX11_rows_0 : decode cX11_rows 0 = .ok (.aload_n 0, 1) := by decide +kernel
theorem dX11_rows_1 : decode cX11_rows 1 = .ok (.invokevirtual 111, 3) := by decide +kernel
theorem dX11_rows_4 : decode cX11_rows 4 = .ok (.aload_n 0, 1) := by decide +kernel
theorem dX11_rows_5 : decode cX11_rows 5 = .ok (.getfield 73, 3) := by decide +kernel
theorem dX11_rows_8 : decode cX11_rows 8 = .ok (.if_icmp .lt 17, 3) := by decide +kernel
theorem dX11_rows_11 : decode cX11_rows 11 = .ok (.aload_n 0, 1) := by decide +kernel
theorem dX11_rows_12 : decode cX11_rows 12 = .ok (.getfield 90, 3) := by decide +kernel
theorem dX11_rows_15 : decode cX11_rows 15 = .ok (.ifCond .ne 10, 3) := by decide +kernel
theorem dX11_rows_18 : decode cX11_rows 18 = .ok (.aload_n 0, 1) := by decide +kernel
theorem dX11_rows_19 : decode cX11_rows 19 = .ok (.invokevirtual 98, 3) := by decide +kernel
theorem dX11_rows_22 : decode cX11_rows 22 = .ok (.ifCond .ne 6, 3) := by decide +kernel
theorem dX11_rows_25 : decode cX11_rows 25 = .ok (.ldc 115, 2) := by decide +kernel
theorem dX11_rows_27 : decode cX11_rows 27 = .ok (.ireturn, 1) := by decide +kernel
theorem dX11_rows_28 : decode cX11_rows 28 = .ok (.aload_n 0, 1) := by decide +kernel
theorem dX11_rows_29 : decode cX11_rows 29 = .ok (.aload_n 0, 1) := by decide +kernel
theorem dX11_rows_30 : decode cX11_rows 30 = .ok (.getfield 77, 3) := by decide +kernel
theorem dX11_rows_33 : decode cX11_rows 33 = .ok (.putfield 116, 3) := by decide +kernel
theorem dX11_rows_36 : decode cX11_rows 36 = .ok (.iconst 0, 1) := by decide +kernel
theorem dX11_rows_37 : decode cX11_rows 37 = .ok (.istore_n 1, 1) := by decide +kernel
theorem dX11_rows_38 : decode cX11_rows 38 = .ok (.iload_n 1, 1) := by decide +kernel
theorem dX11_rows_39 : decode cX11_rows 39 = .ok (.aload_n 0, 1) := by decide +kernel
theorem dX11_rows_40 : decode cX11_rows 40 = .ok (.getfield 77, 3) := by decide +kernel
theorem dX11_rows_43 : decode cX11_rows 43 = .ok (.if_icmp .ge 21, 3) := by decide +kernel
theorem dX11_rows_46 : decode cX11_rows 46 = .ok (.aload_n 0, 1) := by decide +kernel
theorem dX11_rows_47 : decode cX11_rows 47 = .ok (.getfield 7, 3) := by decide +kernel
theorem dX11_rows_50 : decode cX11_rows 50 = .ok (.iload_n 1, 1) := by decide +kernel
theorem dX11_rows_51 : decode cX11_rows 51 = .ok (.aload_n 0, 1) := by decide +kernel
theorem dX11_rows_52 : decode cX11_rows 52 = .ok (.getfield 23, 3) := by decide +kernel
theorem dX11_rows_55 : decode cX11_rows 55 = .ok (.iload_n 1, 1) := by decide +kernel
theorem dX11_rows_56 : decode cX11_rows 56 = .ok (.iaload, 1) := by decide +kernel
theorem dX11_rows_57 : decode cX11_rows 57 = .ok (.iastore, 1) := by decide +kernel
theorem dX11_rows_58 : decode cX11_rows 58 = .ok (.iinc 1 1, 3) := by decide +kernel
theorem dX11_rows_61 : decode cX11_rows 61 = .ok (.goto (-23), 3) := by decide +kernel
theorem dX11_rows_64 : decode cX11_rows 64 = .ok (.iconst 0, 1) := by decide +kernel
theorem dX11_rows_65 : decode cX11_rows 65 = .ok (.istore_n 1, 1) := by decide +kernel
theorem dX11_rows_66 : decode cX11_rows 66 = .ok (.iload_n 1, 1) := by decide +kernel
theorem dX11_rows_67 : decode cX11_rows 67 = .ok (.iconst 4, 1) := by decide +kernel
theorem dX11_rows_68 : decode cX11_rows 68 = .ok (.aload_n 0, 1) := by decide +kernel
theorem dX11_rows_69 : decode cX11_rows 69 = .ok (.getfield 77, 3) := by decide +kernel
theorem dX11_rows_72 : decode cX11_rows 72 = .ok (.imul, 1) := by decide +kernel
theorem dX11_rows_73 : decode cX11_rows 73 = .ok (.if_icmp .ge 21, 3) := by decide +kernel
theorem dX11_rows_76 : decode cX11_rows 76 = .ok (.aload_n 0, 1) := by decide +kernel
theorem dX11_rows_77 : decode cX11_rows 77 = .ok (.getfield 13, 3) := by decide +kernel
theorem dX11_rows_80 : decode cX11_rows 80 = .ok (.iload_n 1, 1) := by decide +kernel
theorem dX11_rows_81 : decode cX11_rows 81 = .ok (.aload_n 0, 1) := by decide +kernel
theorem dX11_rows_82 : decode cX11_rows 82 = .ok (.getfield 26, 3) := by decide +kernel
theorem dX11_rows_85 : decode cX11_rows 85 = .ok (.iload_n 1, 1) := by decide +kernel
theorem dX11_rows_86 : decode cX11_rows 86 = .ok (.iaload, 1) := by decide +kernel
theorem dX11_rows_87 : decode cX11_rows 87 = .ok (.iastore, 1) := by decide +kernel
theorem dX11_rows_88 : decode cX11_rows 88 = .ok (.iinc 1 1, 3) := by decide +kernel
theorem dX11_rows_91 : decode cX11_rows 91 = .ok (.goto (-25), 3) := by decide +kernel
theorem dX11_rows_94 : decode cX11_rows 94 = .ok (.aload_n 0, 1) := by decide +kernel
theorem dX11_rows_95 : decode cX11_rows 95 = .ok (.dup, 1) := by decide +kernel
theorem dX11_rows_96 : decode cX11_rows 96 = .ok (.getfield 119, 3) := by decide +kernel
theorem dX11_rows_99 : decode cX11_rows 99 = .ok (.iconst 1, 1) := by decide +kernel
theorem dX11_rows_100 : decode cX11_rows 100 = .ok (.iadd, 1) := by decide +kernel
theorem dX11_rows_101 : decode cX11_rows 101 = .ok (.putfield 119, 3) := by decide +kernel
theorem dX11_rows_104 : decode cX11_rows 104 = .ok (.aload_n 0, 1) := by decide +kernel
theorem dX11_rows_105 : decode cX11_rows 105 = .ok (.iconst 0, 1) := by decide +kernel
theorem dX11_rows_106 : decode cX11_rows 106 = .ok (.putfield 73, 3) := by decide +kernel
theorem dX11_rows_109 : decode cX11_rows 109 = .ok (.aload_n 0, 1) := by decide +kernel
theorem dX11_rows_110 : decode cX11_rows 110 = .ok (.invokevirtual 122, 3) := by decide +kernel
theorem dX11_rows_113 : decode cX11_rows 113 = .ok (.aload_n 0, 1) := by decide +kernel
theorem dX11_rows_114 : decode cX11_rows 114 = .ok (.getfield 116, 3) := by decide +kernel
theorem dX11_rows_117 : decode cX11_rows 117 = .ok (.ireturn, 1) := by decide +kernel
theorem dX11_changes_0 : decode cX11_changes 0 = .ok (.aload_n 0, 1) := by decide +kernel
theorem dX11_changes_1 : decode cX11_changes 1 = .ok (.iconst 0, 1) := by decide +kernel
theorem dX11_changes_2 : decode cX11_changes 2 = .ok (.putfield 125, 3) := by decide +kernel
theorem dX11_changes_5 : decode cX11_changes 5 = .ok (.aload_n 0, 1) := by decide +kernel
theorem dX11_changes_6 : decode cX11_changes 6 = .ok (.iconst 0, 1) := by decide +kernel
theorem dX11_changes_7 : decode cX11_changes 7 = .ok (.putfield 128, 3) := by decide +kernel
theorem dX11_changes_10 : decode cX11_changes 10 = .ok (.return_, 1) := by decide +kernel
theorem dX11_termAt_0 : decode cX11_termAt 0 = .ok (.iload_n 2, 1) := by decide +kernel
theorem dX11_termAt_1 : decode cX11_termAt 1 = .ok (.sipush 200, 3) := by decide +kernel
theorem dX11_termAt_4 : decode cX11_termAt 4 = .ok (.if_icmp .le 8, 3) := by decide +kernel
theorem dX11_termAt_7 : decode cX11_termAt 7 = .ok (.ldc 131, 2) := by decide +kernel
theorem dX11_termAt_9 : decode cX11_termAt 9 = .ok (.goto 15, 3) := by decide +kernel
theorem dX11_termAt_12 : decode cX11_termAt 12 = .ok (.aload_n 0, 1) := by decide +kernel
theorem dX11_termAt_13 : decode cX11_termAt 13 = .ok (.getfield 29, 3) := by decide +kernel
theorem dX11_termAt_16 : decode cX11_termAt 16 = .ok (.sipush 201, 3) := by decide +kernel
theorem dX11_termAt_19 : decode cX11_termAt 19 = .ok (.iload_n 1, 1) := by decide +kernel
theorem dX11_termAt_20 : decode cX11_termAt 20 = .ok (.imul, 1) := by decide +kernel
theorem dX11_termAt_21 : decode cX11_termAt 21 = .ok (.iload_n 2, 1) := by decide +kernel
theorem dX11_termAt_22 : decode cX11_termAt 22 = .ok (.iadd, 1) := by decide +kernel
theorem dX11_termAt_23 : decode cX11_termAt 23 = .ok (.iaload, 1) := by decide +kernel
theorem dX11_termAt_24 : decode cX11_termAt 24 = .ok (.ireturn, 1) := by decide +kernel
theorem dX11_near_0 : decode cX11_near 0 = .ok (.lload_n 0, 1) := by decide +kernel
theorem dX11_near_1 : decode cX11_near 1 = .ok (.ldc2_w 132, 3) := by decide +kernel
theorem dX11_near_4 : decode cX11_near 4 = .ok (.lcmp, 1) := by decide +kernel
theorem dX11_near_5 : decode cX11_near 5 = .ok (.ifCond .gt 11, 3) := by decide +kernel
theorem dX11_near_8 : decode cX11_near 8 = .ok (.lload_n 0, 1) := by decide +kernel
theorem dX11_near_9 : decode cX11_near 9 = .ok (.ldc2_w 134, 3) := by decide +kernel
theorem dX11_near_12 : decode cX11_near 12 = .ok (.lcmp, 1) := by decide +kernel
theorem dX11_near_13 : decode cX11_near 13 = .ok (.ifCond .ge 8, 3) := by decide +kernel
theorem dX11_near_16 : decode cX11_near 16 = .ok (.ldc 131, 2) := by decide +kernel
theorem dX11_near_18 : decode cX11_near 18 = .ok (.goto 5, 3) := by decide +kernel
theorem dX11_near_21 : decode cX11_near 21 = .ok (.lload_n 0, 1) := by decide +kernel
theorem dX11_near_22 : decode cX11_near 22 = .ok (.l2i, 1) := by decide +kernel
theorem dX11_near_23 : decode cX11_near 23 = .ok (.ireturn, 1) := by decide +kernel
theorem dX11_toldTerm_0 : decode cX11_toldTerm 0 = .ok (.iload_n 2, 1) := by decide +kernel
theorem dX11_toldTerm_1 : decode cX11_toldTerm 1 = .ok (.iconst 2, 1) := by decide +kernel
theorem dX11_toldTerm_2 : decode cX11_toldTerm 2 = .ok (.if_icmp .ge 16, 3) := by decide +kernel
theorem dX11_toldTerm_5 : decode cX11_toldTerm 5 = .ok (.aload_n 0, 1) := by decide +kernel
theorem dX11_toldTerm_6 : decode cX11_toldTerm 6 = .ok (.getfield 13, 3) := by decide +kernel
theorem dX11_toldTerm_9 : decode cX11_toldTerm 9 = .ok (.iconst 4, 1) := by decide +kernel
theorem dX11_toldTerm_10 : decode cX11_toldTerm 10 = .ok (.iload_n 1, 1) := by decide +kernel
theorem dX11_toldTerm_11 : decode cX11_toldTerm 11 = .ok (.imul, 1) := by decide +kernel
theorem dX11_toldTerm_12 : decode cX11_toldTerm 12 = .ok (.iconst 2, 1) := by decide +kernel
theorem dX11_toldTerm_13 : decode cX11_toldTerm 13 = .ok (.iadd, 1) := by decide +kernel
theorem dX11_toldTerm_14 : decode cX11_toldTerm 14 = .ok (.iload_n 2, 1) := by decide +kernel
theorem dX11_toldTerm_15 : decode cX11_toldTerm 15 = .ok (.iadd, 1) := by decide +kernel
theorem dX11_toldTerm_16 : decode cX11_toldTerm 16 = .ok (.iaload, 1) := by decide +kernel
theorem dX11_toldTerm_17 : decode cX11_toldTerm 17 = .ok (.ireturn, 1) := by decide +kernel
theorem dX11_toldTerm_18 : decode cX11_toldTerm 18 = .ok (.aload_n 0, 1) := by decide +kernel
theorem dX11_toldTerm_19 : decode cX11_toldTerm 19 = .ok (.iload_n 1, 1) := by decide +kernel
theorem dX11_toldTerm_20 : decode cX11_toldTerm 20 = .ok (.iload_n 2, 1) := by decide +kernel
theorem dX11_toldTerm_21 : decode cX11_toldTerm 21 = .ok (.iconst 1, 1) := by decide +kernel
theorem dX11_toldTerm_22 : decode cX11_toldTerm 22 = .ok (.isub, 1) := by decide +kernel
theorem dX11_toldTerm_23 : decode cX11_toldTerm 23 = .ok (.invokevirtual 136, 3) := by decide +kernel
theorem dX11_toldTerm_26 : decode cX11_toldTerm 26 = .ok (.istore_n 3, 1) := by decide +kernel
theorem dX11_toldTerm_27 : decode cX11_toldTerm 27 = .ok (.aload_n 0, 1) := by decide +kernel
theorem dX11_toldTerm_28 : decode cX11_toldTerm 28 = .ok (.iload_n 1, 1) := by decide +kernel
theorem dX11_toldTerm_29 : decode cX11_toldTerm 29 = .ok (.iload_n 2, 1) := by decide +kernel
theorem dX11_toldTerm_30 : decode cX11_toldTerm 30 = .ok (.iconst 2, 1) := by decide +kernel
theorem dX11_toldTerm_31 : decode cX11_toldTerm 31 = .ok (.isub, 1) := by decide +kernel
theorem dX11_toldTerm_32 : decode cX11_toldTerm 32 = .ok (.invokevirtual 136, 3) := by decide +kernel
theorem dX11_toldTerm_35 : decode cX11_toldTerm 35 = .ok (.istore 4, 2) := by decide +kernel
theorem dX11_toldTerm_37 : decode cX11_toldTerm 37 = .ok (.iload_n 3, 1) := by decide +kernel
theorem dX11_toldTerm_38 : decode cX11_toldTerm 38 = .ok (.ldc 131, 2) := by decide +kernel
theorem dX11_toldTerm_40 : decode cX11_toldTerm 40 = .ok (.if_icmp .eq 10, 3) := by decide +kernel
theorem dX11_toldTerm_43 : decode cX11_toldTerm 43 = .ok (.iload 4, 2) := by decide +kernel
theorem dX11_toldTerm_45 : decode cX11_toldTerm 45 = .ok (.ldc 131, 2) := by decide +kernel
theorem dX11_toldTerm_47 : decode cX11_toldTerm 47 = .ok (.if_icmp .ne 8, 3) := by decide +kernel
theorem dX11_toldTerm_50 : decode cX11_toldTerm 50 = .ok (.ldc 131, 2) := by decide +kernel
theorem dX11_toldTerm_52 : decode cX11_toldTerm 52 = .ok (.goto 34, 3) := by decide +kernel
theorem dX11_toldTerm_55 : decode cX11_toldTerm 55 = .ok (.aload_n 0, 1) := by decide +kernel
theorem dX11_toldTerm_56 : decode cX11_toldTerm 56 = .ok (.getfield 13, 3) := by decide +kernel
theorem dX11_toldTerm_59 : decode cX11_toldTerm 59 = .ok (.iconst 4, 1) := by decide +kernel
theorem dX11_toldTerm_60 : decode cX11_toldTerm 60 = .ok (.iload_n 1, 1) := by decide +kernel
theorem dX11_toldTerm_61 : decode cX11_toldTerm 61 = .ok (.imul, 1) := by decide +kernel
theorem dX11_toldTerm_62 : decode cX11_toldTerm 62 = .ok (.iaload, 1) := by decide +kernel
theorem dX11_toldTerm_63 : decode cX11_toldTerm 63 = .ok (.i2l, 1) := by decide +kernel
theorem dX11_toldTerm_64 : decode cX11_toldTerm 64 = .ok (.iload_n 3, 1) := by decide +kernel
theorem dX11_toldTerm_65 : decode cX11_toldTerm 65 = .ok (.i2l, 1) := by decide +kernel
theorem dX11_toldTerm_66 : decode cX11_toldTerm 66 = .ok (.lmul, 1) := by decide +kernel
theorem dX11_toldTerm_67 : decode cX11_toldTerm 67 = .ok (.aload_n 0, 1) := by decide +kernel
theorem dX11_toldTerm_68 : decode cX11_toldTerm 68 = .ok (.getfield 13, 3) := by decide +kernel
theorem dX11_toldTerm_71 : decode cX11_toldTerm 71 = .ok (.iconst 4, 1) := by decide +kernel
theorem dX11_toldTerm_72 : decode cX11_toldTerm 72 = .ok (.iload_n 1, 1) := by decide +kernel
theorem dX11_toldTerm_73 : decode cX11_toldTerm 73 = .ok (.imul, 1) := by decide +kernel
theorem dX11_toldTerm_74 : decode cX11_toldTerm 74 = .ok (.iconst 1, 1) := by decide +kernel
theorem dX11_toldTerm_75 : decode cX11_toldTerm 75 = .ok (.iadd, 1) := by decide +kernel
theorem dX11_toldTerm_76 : decode cX11_toldTerm 76 = .ok (.iaload, 1) := by decide +kernel
theorem dX11_toldTerm_77 : decode cX11_toldTerm 77 = .ok (.i2l, 1) := by decide +kernel
theorem dX11_toldTerm_78 : decode cX11_toldTerm 78 = .ok (.iload 4, 2) := by decide +kernel
theorem dX11_toldTerm_80 : decode cX11_toldTerm 80 = .ok (.i2l, 1) := by decide +kernel
theorem dX11_toldTerm_81 : decode cX11_toldTerm 81 = .ok (.lmul, 1) := by decide +kernel
theorem dX11_toldTerm_82 : decode cX11_toldTerm 82 = .ok (.ladd, 1) := by decide +kernel
theorem dX11_toldTerm_83 : decode cX11_toldTerm 83 = .ok (.invokestatic 140, 3) := by decide +kernel
theorem dX11_toldTerm_86 : decode cX11_toldTerm 86 = .ok (.ireturn, 1) := by decide +kernel
theorem dX11_bothTerm_0 : decode cX11_bothTerm 0 = .ok (.aload_n 0, 1) := by decide +kernel
theorem dX11_bothTerm_1 : decode cX11_bothTerm 1 = .ok (.aload_n 0, 1) := by decide +kernel
theorem dX11_bothTerm_2 : decode cX11_bothTerm 2 = .ok (.getfield 13, 3) := by decide +kernel
theorem dX11_bothTerm_5 : decode cX11_bothTerm 5 = .ok (.iconst 4, 1) := by decide +kernel
theorem dX11_bothTerm_6 : decode cX11_bothTerm 6 = .ok (.iload_n 1, 1) := by decide +kernel
theorem dX11_bothTerm_7 : decode cX11_bothTerm 7 = .ok (.imul, 1) := by decide +kernel
theorem dX11_bothTerm_8 : decode cX11_bothTerm 8 = .ok (.iaload, 1) := by decide +kernel
theorem dX11_bothTerm_9 : decode cX11_bothTerm 9 = .ok (.iload_n 2, 1) := by decide +kernel
theorem dX11_bothTerm_10 : decode cX11_bothTerm 10 = .ok (.invokevirtual 136, 3) := by decide +kernel
theorem dX11_bothTerm_13 : decode cX11_bothTerm 13 = .ok (.istore_n 3, 1) := by decide +kernel
theorem dX11_bothTerm_14 : decode cX11_bothTerm 14 = .ok (.aload_n 0, 1) := by decide +kernel
theorem dX11_bothTerm_15 : decode cX11_bothTerm 15 = .ok (.aload_n 0, 1) := by decide +kernel
theorem dX11_bothTerm_16 : decode cX11_bothTerm 16 = .ok (.getfield 13, 3) := by decide +kernel
theorem dX11_bothTerm_19 : decode cX11_bothTerm 19 = .ok (.iconst 4, 1) := by decide +kernel
theorem dX11_bothTerm_20 : decode cX11_bothTerm 20 = .ok (.iload_n 1, 1) := by decide +kernel
theorem dX11_bothTerm_21 : decode cX11_bothTerm 21 = .ok (.imul, 1) := by decide +kernel
theorem dX11_bothTerm_22 : decode cX11_bothTerm 22 = .ok (.iconst 1, 1) := by decide +kernel
theorem dX11_bothTerm_23 : decode cX11_bothTerm 23 = .ok (.iadd, 1) := by decide +kernel
theorem dX11_bothTerm_24 : decode cX11_bothTerm 24 = .ok (.iaload, 1) := by decide +kernel
theorem dX11_bothTerm_25 : decode cX11_bothTerm 25 = .ok (.iload_n 2, 1) := by decide +kernel
theorem dX11_bothTerm_26 : decode cX11_bothTerm 26 = .ok (.invokevirtual 136, 3) := by decide +kernel
theorem dX11_bothTerm_29 : decode cX11_bothTerm 29 = .ok (.istore 4, 2) := by decide +kernel
theorem dX11_bothTerm_31 : decode cX11_bothTerm 31 = .ok (.iload_n 3, 1) := by decide +kernel
theorem dX11_bothTerm_32 : decode cX11_bothTerm 32 = .ok (.ldc 131, 2) := by decide +kernel
theorem dX11_bothTerm_34 : decode cX11_bothTerm 34 = .ok (.if_icmp .eq 10, 3) := by decide +kernel
theorem dX11_bothTerm_37 : decode cX11_bothTerm 37 = .ok (.iload 4, 2) := by decide +kernel
theorem dX11_bothTerm_39 : decode cX11_bothTerm 39 = .ok (.ldc 131, 2) := by decide +kernel
theorem dX11_bothTerm_41 : decode cX11_bothTerm 41 = .ok (.if_icmp .ne 6, 3) := by decide +kernel
theorem dX11_bothTerm_44 : decode cX11_bothTerm 44 = .ok (.ldc 131, 2) := by decide +kernel
theorem dX11_bothTerm_46 : decode cX11_bothTerm 46 = .ok (.ireturn, 1) := by decide +kernel
theorem dX11_bothTerm_47 : decode cX11_bothTerm 47 = .ok (.aload_n 0, 1) := by decide +kernel
theorem dX11_bothTerm_48 : decode cX11_bothTerm 48 = .ok (.getfield 7, 3) := by decide +kernel
theorem dX11_bothTerm_51 : decode cX11_bothTerm 51 = .ok (.iload_n 1, 1) := by decide +kernel
theorem dX11_bothTerm_52 : decode cX11_bothTerm 52 = .ok (.iaload, 1) := by decide +kernel
theorem dX11_bothTerm_53 : decode cX11_bothTerm 53 = .ok (.iconst 1, 1) := by decide +kernel
theorem dX11_bothTerm_54 : decode cX11_bothTerm 54 = .ok (.if_icmp .ne 12, 3) := by decide +kernel
theorem dX11_bothTerm_57 : decode cX11_bothTerm 57 = .ok (.iload_n 3, 1) := by decide +kernel
theorem dX11_bothTerm_58 : decode cX11_bothTerm 58 = .ok (.i2l, 1) := by decide +kernel
theorem dX11_bothTerm_59 : decode cX11_bothTerm 59 = .ok (.iload 4, 2) := by decide +kernel
theorem dX11_bothTerm_61 : decode cX11_bothTerm 61 = .ok (.i2l, 1) := by decide +kernel
theorem dX11_bothTerm_62 : decode cX11_bothTerm 62 = .ok (.ladd, 1) := by decide +kernel
theorem dX11_bothTerm_63 : decode cX11_bothTerm 63 = .ok (.goto 9, 3) := by decide +kernel
theorem dX11_bothTerm_66 : decode cX11_bothTerm 66 = .ok (.iload_n 3, 1) := by decide +kernel
theorem dX11_bothTerm_67 : decode cX11_bothTerm 67 = .ok (.i2l, 1) := by decide +kernel
theorem dX11_bothTerm_68 : decode cX11_bothTerm 68 = .ok (.iload 4, 2) := by decide +kernel
theorem dX11_bothTerm_70 : decode cX11_bothTerm 70 = .ok (.i2l, 1) := by decide +kernel
theorem dX11_bothTerm_71 : decode cX11_bothTerm 71 = .ok (.lmul, 1) := by decide +kernel
theorem dX11_bothTerm_72 : decode cX11_bothTerm 72 = .ok (.invokestatic 140, 3) := by decide +kernel
theorem dX11_bothTerm_75 : decode cX11_bothTerm 75 = .ok (.ireturn, 1) := by decide +kernel
theorem dX11_stepTerm_0 : decode cX11_stepTerm 0 = .ok (.aload_n 0, 1) := by decide +kernel
theorem dX11_stepTerm_1 : decode cX11_stepTerm 1 = .ok (.aload_n 0, 1) := by decide +kernel
theorem dX11_stepTerm_2 : decode cX11_stepTerm 2 = .ok (.getfield 13, 3) := by decide +kernel
theorem dX11_stepTerm_5 : decode cX11_stepTerm 5 = .ok (.iconst 4, 1) := by decide +kernel
theorem dX11_stepTerm_6 : decode cX11_stepTerm 6 = .ok (.iload_n 1, 1) := by decide +kernel
theorem dX11_stepTerm_7 : decode cX11_stepTerm 7 = .ok (.imul, 1) := by decide +kernel
theorem dX11_stepTerm_8 : decode cX11_stepTerm 8 = .ok (.iaload, 1) := by decide +kernel
theorem dX11_stepTerm_9 : decode cX11_stepTerm 9 = .ok (.iload_n 2, 1) := by decide +kernel
theorem dX11_stepTerm_10 : decode cX11_stepTerm 10 = .ok (.invokevirtual 136, 3) := by decide +kernel
theorem dX11_stepTerm_13 : decode cX11_stepTerm 13 = .ok (.istore_n 3, 1) := by decide +kernel
theorem dX11_stepTerm_14 : decode cX11_stepTerm 14 = .ok (.aload_n 0, 1) := by decide +kernel
theorem dX11_stepTerm_15 : decode cX11_stepTerm 15 = .ok (.aload_n 0, 1) := by decide +kernel
theorem dX11_stepTerm_16 : decode cX11_stepTerm 16 = .ok (.getfield 13, 3) := by decide +kernel
theorem dX11_stepTerm_19 : decode cX11_stepTerm 19 = .ok (.iconst 4, 1) := by decide +kernel
theorem dX11_stepTerm_20 : decode cX11_stepTerm 20 = .ok (.iload_n 1, 1) := by decide +kernel
theorem dX11_stepTerm_21 : decode cX11_stepTerm 21 = .ok (.imul, 1) := by decide +kernel
theorem dX11_stepTerm_22 : decode cX11_stepTerm 22 = .ok (.iaload, 1) := by decide +kernel
theorem dX11_stepTerm_23 : decode cX11_stepTerm 23 = .ok (.iload_n 2, 1) := by decide +kernel
theorem dX11_stepTerm_24 : decode cX11_stepTerm 24 = .ok (.iconst 1, 1) := by decide +kernel
theorem dX11_stepTerm_25 : decode cX11_stepTerm 25 = .ok (.iadd, 1) := by decide +kernel
theorem dX11_stepTerm_26 : decode cX11_stepTerm 26 = .ok (.invokevirtual 136, 3) := by decide +kernel
theorem dX11_stepTerm_29 : decode cX11_stepTerm 29 = .ok (.istore 4, 2) := by decide +kernel
theorem dX11_stepTerm_31 : decode cX11_stepTerm 31 = .ok (.iload_n 3, 1) := by decide +kernel
theorem dX11_stepTerm_32 : decode cX11_stepTerm 32 = .ok (.ldc 131, 2) := by decide +kernel
theorem dX11_stepTerm_34 : decode cX11_stepTerm 34 = .ok (.if_icmp .eq 10, 3) := by decide +kernel
theorem dX11_stepTerm_37 : decode cX11_stepTerm 37 = .ok (.iload 4, 2) := by decide +kernel
theorem dX11_stepTerm_39 : decode cX11_stepTerm 39 = .ok (.ldc 131, 2) := by decide +kernel
theorem dX11_stepTerm_41 : decode cX11_stepTerm 41 = .ok (.if_icmp .ne 8, 3) := by decide +kernel
theorem dX11_stepTerm_44 : decode cX11_stepTerm 44 = .ok (.ldc 131, 2) := by decide +kernel
theorem dX11_stepTerm_46 : decode cX11_stepTerm 46 = .ok (.goto 12, 3) := by decide +kernel
theorem dX11_stepTerm_49 : decode cX11_stepTerm 49 = .ok (.iload 4, 2) := by decide +kernel
theorem dX11_stepTerm_51 : decode cX11_stepTerm 51 = .ok (.i2l, 1) := by decide +kernel
theorem dX11_stepTerm_52 : decode cX11_stepTerm 52 = .ok (.iload_n 3, 1) := by decide +kernel
theorem dX11_stepTerm_53 : decode cX11_stepTerm 53 = .ok (.i2l, 1) := by decide +kernel
theorem dX11_stepTerm_54 : decode cX11_stepTerm 54 = .ok (.lsub, 1) := by decide +kernel
theorem dX11_stepTerm_55 : decode cX11_stepTerm 55 = .ok (.invokestatic 140, 3) := by decide +kernel
theorem dX11_stepTerm_58 : decode cX11_stepTerm 58 = .ok (.ireturn, 1) := by decide +kernel
theorem dX11_madeTerm_0 : decode cX11_madeTerm 0 = .ok (.aload_n 0, 1) := by decide +kernel
theorem dX11_madeTerm_1 : decode cX11_madeTerm 1 = .ok (.getfield 7, 3) := by decide +kernel
theorem dX11_madeTerm_4 : decode cX11_madeTerm 4 = .ok (.iload_n 1, 1) := by decide +kernel
theorem dX11_madeTerm_5 : decode cX11_madeTerm 5 = .ok (.iaload, 1) := by decide +kernel
theorem dX11_madeTerm_6 : decode cX11_madeTerm 6 = .ok (.tableswitch 84 0 4 #[34, 84, 84, 41, 77], 34) := by decide +kernel
theorem dX11_madeTerm_40 : decode cX11_madeTerm 40 = .ok (.aload_n 0, 1) := by decide +kernel
theorem dX11_madeTerm_41 : decode cX11_madeTerm 41 = .ok (.iload_n 1, 1) := by decide +kernel
theorem dX11_madeTerm_42 : decode cX11_madeTerm 42 = .ok (.iload_n 2, 1) := by decide +kernel
theorem dX11_madeTerm_43 : decode cX11_madeTerm 43 = .ok (.invokevirtual 144, 3) := by decide +kernel
theorem dX11_madeTerm_46 : decode cX11_madeTerm 46 = .ok (.ireturn, 1) := by decide +kernel
theorem dX11_madeTerm_47 : decode cX11_madeTerm 47 = .ok (.aload_n 0, 1) := by decide +kernel
theorem dX11_madeTerm_48 : decode cX11_madeTerm 48 = .ok (.aload_n 0, 1) := by decide +kernel
theorem dX11_madeTerm_49 : decode cX11_madeTerm 49 = .ok (.getfield 13, 3) := by decide +kernel
theorem dX11_madeTerm_52 : decode cX11_madeTerm 52 = .ok (.iconst 4, 1) := by decide +kernel
theorem dX11_madeTerm_53 : decode cX11_madeTerm 53 = .ok (.iload_n 1, 1) := by decide +kernel
theorem dX11_madeTerm_54 : decode cX11_madeTerm 54 = .ok (.imul, 1) := by decide +kernel
theorem dX11_madeTerm_55 : decode cX11_madeTerm 55 = .ok (.iaload, 1) := by decide +kernel
theorem dX11_madeTerm_56 : decode cX11_madeTerm 56 = .ok (.aload_n 0, 1) := by decide +kernel
theorem dX11_madeTerm_57 : decode cX11_madeTerm 57 = .ok (.getfield 13, 3) := by decide +kernel
theorem dX11_madeTerm_60 : decode cX11_madeTerm 60 = .ok (.iconst 4, 1) := by decide +kernel
theorem dX11_madeTerm_61 : decode cX11_madeTerm 61 = .ok (.iload_n 1, 1) := by decide +kernel
theorem dX11_madeTerm_62 : decode cX11_madeTerm 62 = .ok (.imul, 1) := by decide +kernel
theorem dX11_madeTerm_63 : decode cX11_madeTerm 63 = .ok (.iconst 1, 1) := by decide +kernel
theorem dX11_madeTerm_64 : decode cX11_madeTerm 64 = .ok (.iadd, 1) := by decide +kernel
theorem dX11_madeTerm_65 : decode cX11_madeTerm 65 = .ok (.iaload, 1) := by decide +kernel
theorem dX11_madeTerm_66 : decode cX11_madeTerm 66 = .ok (.iload_n 2, 1) := by decide +kernel
theorem dX11_madeTerm_67 : decode cX11_madeTerm 67 = .ok (.imul, 1) := by decide +kernel
theorem dX11_madeTerm_68 : decode cX11_madeTerm 68 = .ok (.aload_n 0, 1) := by decide +kernel
theorem dX11_madeTerm_69 : decode cX11_madeTerm 69 = .ok (.getfield 13, 3) := by decide +kernel
theorem dX11_madeTerm_72 : decode cX11_madeTerm 72 = .ok (.iconst 4, 1) := by decide +kernel
theorem dX11_madeTerm_73 : decode cX11_madeTerm 73 = .ok (.iload_n 1, 1) := by decide +kernel
theorem dX11_madeTerm_74 : decode cX11_madeTerm 74 = .ok (.imul, 1) := by decide +kernel
theorem dX11_madeTerm_75 : decode cX11_madeTerm 75 = .ok (.iconst 2, 1) := by decide +kernel
theorem dX11_madeTerm_76 : decode cX11_madeTerm 76 = .ok (.iadd, 1) := by decide +kernel
theorem dX11_madeTerm_77 : decode cX11_madeTerm 77 = .ok (.iaload, 1) := by decide +kernel
theorem dX11_madeTerm_78 : decode cX11_madeTerm 78 = .ok (.iadd, 1) := by decide +kernel
theorem dX11_madeTerm_79 : decode cX11_madeTerm 79 = .ok (.invokevirtual 136, 3) := by decide +kernel
theorem dX11_madeTerm_82 : decode cX11_madeTerm 82 = .ok (.ireturn, 1) := by decide +kernel
theorem dX11_madeTerm_83 : decode cX11_madeTerm 83 = .ok (.aload_n 0, 1) := by decide +kernel
theorem dX11_madeTerm_84 : decode cX11_madeTerm 84 = .ok (.iload_n 1, 1) := by decide +kernel
theorem dX11_madeTerm_85 : decode cX11_madeTerm 85 = .ok (.iload_n 2, 1) := by decide +kernel
theorem dX11_madeTerm_86 : decode cX11_madeTerm 86 = .ok (.invokevirtual 147, 3) := by decide +kernel
theorem dX11_madeTerm_89 : decode cX11_madeTerm 89 = .ok (.ireturn, 1) := by decide +kernel
theorem dX11_madeTerm_90 : decode cX11_madeTerm 90 = .ok (.aload_n 0, 1) := by decide +kernel
theorem dX11_madeTerm_91 : decode cX11_madeTerm 91 = .ok (.iload_n 1, 1) := by decide +kernel
theorem dX11_madeTerm_92 : decode cX11_madeTerm 92 = .ok (.iload_n 2, 1) := by decide +kernel
theorem dX11_madeTerm_93 : decode cX11_madeTerm 93 = .ok (.invokevirtual 150, 3) := by decide +kernel
theorem dX11_madeTerm_96 : decode cX11_madeTerm 96 = .ok (.ireturn, 1) := by decide +kernel
theorem dX11_layTerms_0 : decode cX11_layTerms 0 = .ok (.iconst 0, 1) := by decide +kernel
theorem dX11_layTerms_1 : decode cX11_layTerms 1 = .ok (.istore_n 1, 1) := by decide +kernel
theorem dX11_layTerms_2 : decode cX11_layTerms 2 = .ok (.iload_n 1, 1) := by decide +kernel
theorem dX11_layTerms_3 : decode cX11_layTerms 3 = .ok (.aload_n 0, 1) := by decide +kernel
theorem dX11_layTerms_4 : decode cX11_layTerms 4 = .ok (.getfield 116, 3) := by decide +kernel
theorem dX11_layTerms_7 : decode cX11_layTerms 7 = .ok (.sipush 201, 3) := by decide +kernel
theorem dX11_layTerms_10 : decode cX11_layTerms 10 = .ok (.imul, 1) := by decide +kernel
theorem dX11_layTerms_11 : decode cX11_layTerms 11 = .ok (.if_icmp .ge 36, 3) := by decide +kernel
theorem dX11_layTerms_14 : decode cX11_layTerms 14 = .ok (.aload_n 0, 1) := by decide +kernel
theorem dX11_layTerms_15 : decode cX11_layTerms 15 = .ok (.getfield 125, 3) := by decide +kernel
theorem dX11_layTerms_18 : decode cX11_layTerms 18 = .ok (.ifCond .ne 29, 3) := by decide +kernel
theorem dX11_layTerms_21 : decode cX11_layTerms 21 = .ok (.aload_n 0, 1) := by decide +kernel
theorem dX11_layTerms_22 : decode cX11_layTerms 22 = .ok (.getfield 29, 3) := by decide +kernel
theorem dX11_layTerms_25 : decode cX11_layTerms 25 = .ok (.iload_n 1, 1) := by decide +kernel
theorem dX11_layTerms_26 : decode cX11_layTerms 26 = .ok (.aload_n 0, 1) := by decide +kernel
theorem dX11_layTerms_27 : decode cX11_layTerms 27 = .ok (.iload_n 1, 1) := by decide +kernel
theorem dX11_layTerms_28 : decode cX11_layTerms 28 = .ok (.sipush 201, 3) := by decide +kernel
theorem dX11_layTerms_31 : decode cX11_layTerms 31 = .ok (.idiv, 1) := by decide +kernel
theorem dX11_layTerms_32 : decode cX11_layTerms 32 = .ok (.iload_n 1, 1) := by decide +kernel
theorem dX11_layTerms_33 : decode cX11_layTerms 33 = .ok (.sipush 201, 3) := by decide +kernel
theorem dX11_layTerms_36 : decode cX11_layTerms 36 = .ok (.irem, 1) := by decide +kernel
theorem dX11_layTerms_37 : decode cX11_layTerms 37 = .ok (.invokevirtual 153, 3) := by decide +kernel
theorem dX11_layTerms_40 : decode cX11_layTerms 40 = .ok (.iastore, 1) := by decide +kernel
theorem dX11_layTerms_41 : decode cX11_layTerms 41 = .ok (.iinc 1 1, 3) := by decide +kernel
theorem dX11_layTerms_44 : decode cX11_layTerms 44 = .ok (.goto (-42), 3) := by decide +kernel
theorem dX11_layTerms_47 : decode cX11_layTerms 47 = .ok (.aload_n 0, 1) := by decide +kernel
theorem dX11_layTerms_48 : decode cX11_layTerms 48 = .ok (.iconst 1, 1) := by decide +kernel
theorem dX11_layTerms_49 : decode cX11_layTerms 49 = .ok (.putfield 125, 3) := by decide +kernel
theorem dX11_layTerms_52 : decode cX11_layTerms 52 = .ok (.return_, 1) := by decide +kernel
theorem dX11_termOf_0 : decode cX11_termOf 0 = .ok (.aload_n 0, 1) := by decide +kernel
theorem dX11_termOf_1 : decode cX11_termOf 1 = .ok (.invokevirtual 156, 3) := by decide +kernel
theorem dX11_termOf_4 : decode cX11_termOf 4 = .ok (.aload_n 0, 1) := by decide +kernel
theorem dX11_termOf_5 : decode cX11_termOf 5 = .ok (.iload_n 1, 1) := by decide +kernel
theorem dX11_termOf_6 : decode cX11_termOf 6 = .ok (.iload_n 2, 1) := by decide +kernel
theorem dX11_termOf_7 : decode cX11_termOf 7 = .ok (.invokevirtual 136, 3) := by decide +kernel
theorem dX11_termOf_10 : decode cX11_termOf 10 = .ok (.ireturn, 1) := by decide +kernel
theorem dX11_restAt_0 : decode cX11_restAt 0 = .ok (.lload_n 2, 1) := by decide +kernel
theorem dX11_restAt_1 : decode cX11_restAt 1 = .ok (.aload_n 0, 1) := by decide +kernel
theorem dX11_restAt_2 : decode cX11_restAt 2 = .ok (.getfield 32, 3) := by decide +kernel
theorem dX11_restAt_5 : decode cX11_restAt 5 = .ok (.iload_n 1, 1) := by decide +kernel
theorem dX11_restAt_6 : decode cX11_restAt 6 = .ok (.iaload, 1) := by decide +kernel
theorem dX11_restAt_7 : decode cX11_restAt 7 = .ok (.i2l, 1) := by decide +kernel
theorem dX11_restAt_8 : decode cX11_restAt 8 = .ok (.lcmp, 1) := by decide +kernel
theorem dX11_restAt_9 : decode cX11_restAt 9 = .ok (.ifCond .ge 7, 3) := by decide +kernel
theorem dX11_restAt_12 : decode cX11_restAt 12 = .ok (.lload_n 2, 1) := by decide +kernel
theorem dX11_restAt_13 : decode cX11_restAt 13 = .ok (.goto 28, 3) := by decide +kernel
theorem dX11_restAt_16 : decode cX11_restAt 16 = .ok (.aload_n 0, 1) := by decide +kernel
theorem dX11_restAt_17 : decode cX11_restAt 17 = .ok (.getfield 32, 3) := by decide +kernel
theorem dX11_restAt_20 : decode cX11_restAt 20 = .ok (.iload_n 1, 1) := by decide +kernel
theorem dX11_restAt_21 : decode cX11_restAt 21 = .ok (.iaload, 1) := by decide +kernel
theorem dX11_restAt_22 : decode cX11_restAt 22 = .ok (.i2l, 1) := by decide +kernel
theorem dX11_restAt_23 : decode cX11_restAt 23 = .ok (.lload_n 2, 1) := by decide +kernel
theorem dX11_restAt_24 : decode cX11_restAt 24 = .ok (.aload_n 0, 1) := by decide +kernel
theorem dX11_restAt_25 : decode cX11_restAt 25 = .ok (.getfield 32, 3) := by decide +kernel
theorem dX11_restAt_28 : decode cX11_restAt 28 = .ok (.iload_n 1, 1) := by decide +kernel
theorem dX11_restAt_29 : decode cX11_restAt 29 = .ok (.iaload, 1) := by decide +kernel
theorem dX11_restAt_30 : decode cX11_restAt 30 = .ok (.i2l, 1) := by decide +kernel
theorem dX11_restAt_31 : decode cX11_restAt 31 = .ok (.lsub, 1) := by decide +kernel
theorem dX11_restAt_32 : decode cX11_restAt 32 = .ok (.aload_n 0, 1) := by decide +kernel
theorem dX11_restAt_33 : decode cX11_restAt 33 = .ok (.getfield 35, 3) := by decide +kernel
theorem dX11_restAt_36 : decode cX11_restAt 36 = .ok (.iload_n 1, 1) := by decide +kernel
theorem dX11_restAt_37 : decode cX11_restAt 37 = .ok (.iaload, 1) := by decide +kernel
theorem dX11_restAt_38 : decode cX11_restAt 38 = .ok (.i2l, 1) := by decide +kernel
theorem dX11_restAt_39 : decode cX11_restAt 39 = .ok (.lrem, 1) := by decide +kernel
theorem dX11_restAt_40 : decode cX11_restAt 40 = .ok (.ladd, 1) := by decide +kernel
theorem dX11_restAt_41 : decode cX11_restAt 41 = .ok (.lstore 4, 2) := by decide +kernel
theorem dX11_restAt_43 : decode cX11_restAt 43 = .ok (.aload_n 0, 1) := by decide +kernel
theorem dX11_restAt_44 : decode cX11_restAt 44 = .ok (.getfield 38, 3) := by decide +kernel
theorem dX11_restAt_47 : decode cX11_restAt 47 = .ok (.sipush 512, 3) := by decide +kernel
theorem dX11_restAt_50 : decode cX11_restAt 50 = .ok (.iload_n 1, 1) := by decide +kernel
theorem dX11_restAt_51 : decode cX11_restAt 51 = .ok (.imul, 1) := by decide +kernel
theorem dX11_restAt_52 : decode cX11_restAt 52 = .ok (.lload 4, 2) := by decide +kernel
theorem dX11_restAt_54 : decode cX11_restAt 54 = .ok (.l2i, 1) := by decide +kernel
theorem dX11_restAt_55 : decode cX11_restAt 55 = .ok (.iadd, 1) := by decide +kernel
theorem dX11_restAt_56 : decode cX11_restAt 56 = .ok (.baload, 1) := by decide +kernel
theorem dX11_restAt_57 : decode cX11_restAt 57 = .ok (.ireturn, 1) := by decide +kernel
theorem dX11_common_0 : decode cX11_common 0 = .ok (.iload_n 0, 1) := by decide +kernel
theorem dX11_common_1 : decode cX11_common 1 = .ok (.istore_n 2, 1) := by decide +kernel
theorem dX11_common_2 : decode cX11_common 2 = .ok (.iload_n 1, 1) := by decide +kernel
theorem dX11_common_3 : decode cX11_common 3 = .ok (.istore_n 3, 1) := by decide +kernel
theorem dX11_common_4 : decode cX11_common 4 = .ok (.iload_n 3, 1) := by decide +kernel
theorem dX11_common_5 : decode cX11_common 5 = .ok (.ifCond .eq 16, 3) := by decide +kernel
theorem dX11_common_8 : decode cX11_common 8 = .ok (.iload_n 2, 1) := by decide +kernel
theorem dX11_common_9 : decode cX11_common 9 = .ok (.iload_n 3, 1) := by decide +kernel
theorem dX11_common_10 : decode cX11_common 10 = .ok (.irem, 1) := by decide +kernel
theorem dX11_common_11 : decode cX11_common 11 = .ok (.istore 4, 2) := by decide +kernel
theorem dX11_common_13 : decode cX11_common 13 = .ok (.iload_n 3, 1) := by decide +kernel
theorem dX11_common_14 : decode cX11_common 14 = .ok (.istore_n 2, 1) := by decide +kernel
theorem dX11_common_15 : decode cX11_common 15 = .ok (.iload 4, 2) := by decide +kernel
theorem dX11_common_17 : decode cX11_common 17 = .ok (.istore_n 3, 1) := by decide +kernel
theorem dX11_common_18 : decode cX11_common 18 = .ok (.goto (-14), 3) := by decide +kernel
theorem dX11_common_21 : decode cX11_common 21 = .ok (.iload_n 2, 1) := by decide +kernel
theorem dX11_common_22 : decode cX11_common 22 = .ok (.ireturn, 1) := by decide +kernel
theorem dX11_mod_0 : decode cX11_mod 0 = .ok (.iload_n 0, 1) := by decide +kernel
theorem dX11_mod_1 : decode cX11_mod 1 = .ok (.iload_n 1, 1) := by decide +kernel
theorem dX11_mod_2 : decode cX11_mod 2 = .ok (.irem, 1) := by decide +kernel
theorem dX11_mod_3 : decode cX11_mod 3 = .ok (.iload_n 1, 1) := by decide +kernel
theorem dX11_mod_4 : decode cX11_mod 4 = .ok (.iadd, 1) := by decide +kernel
theorem dX11_mod_5 : decode cX11_mod 5 = .ok (.iload_n 1, 1) := by decide +kernel
theorem dX11_mod_6 : decode cX11_mod 6 = .ok (.irem, 1) := by decide +kernel
theorem dX11_mod_7 : decode cX11_mod 7 = .ok (.ireturn, 1) := by decide +kernel
theorem dX11_layTold_0 : decode cX11_layTold 0 = .ok (.iconst 0, 1) := by decide +kernel
theorem dX11_layTold_1 : decode cX11_layTold 1 = .ok (.istore_n 3, 1) := by decide +kernel
theorem dX11_layTold_2 : decode cX11_layTold 2 = .ok (.iload_n 3, 1) := by decide +kernel
theorem dX11_layTold_3 : decode cX11_layTold 3 = .ok (.iload_n 2, 1) := by decide +kernel
theorem dX11_layTold_4 : decode cX11_layTold 4 = .ok (.iload_n 2, 1) := by decide +kernel
theorem dX11_layTold_5 : decode cX11_layTold 5 = .ok (.imul, 1) := by decide +kernel
theorem dX11_layTold_6 : decode cX11_layTold 6 = .ok (.if_icmp .ge 17, 3) := by decide +kernel
theorem dX11_layTold_9 : decode cX11_layTold 9 = .ok (.aload_n 0, 1) := by decide +kernel
theorem dX11_layTold_10 : decode cX11_layTold 10 = .ok (.getfield 41, 3) := by decide +kernel
theorem dX11_layTold_13 : decode cX11_layTold 13 = .ok (.iload_n 3, 1) := by decide +kernel
theorem dX11_layTold_14 : decode cX11_layTold 14 = .ok (.ldc 54, 2) := by decide +kernel
theorem dX11_layTold_16 : decode cX11_layTold 16 = .ok (.iastore, 1) := by decide +kernel
theorem dX11_layTold_17 : decode cX11_layTold 17 = .ok (.iinc 3 1, 3) := by decide +kernel
theorem dX11_layTold_20 : decode cX11_layTold 20 = .ok (.goto (-18), 3) := by decide +kernel
theorem dX11_layTold_23 : decode cX11_layTold 23 = .ok (.aload_n 0, 1) := by decide +kernel
theorem dX11_layTold_24 : decode cX11_layTold 24 = .ok (.getfield 13, 3) := by decide +kernel
theorem dX11_layTold_27 : decode cX11_layTold 27 = .ok (.iconst 4, 1) := by decide +kernel
theorem dX11_layTold_28 : decode cX11_layTold 28 = .ok (.iload_n 1, 1) := by decide +kernel
theorem dX11_layTold_29 : decode cX11_layTold 29 = .ok (.imul, 1) := by decide +kernel
theorem dX11_layTold_30 : decode cX11_layTold 30 = .ok (.iconst 2, 1) := by decide +kernel
theorem dX11_layTold_31 : decode cX11_layTold 31 = .ok (.iadd, 1) := by decide +kernel
theorem dX11_layTold_32 : decode cX11_layTold 32 = .ok (.iaload, 1) := by decide +kernel
theorem dX11_layTold_33 : decode cX11_layTold 33 = .ok (.iload_n 2, 1) := by decide +kernel
theorem dX11_layTold_34 : decode cX11_layTold 34 = .ok (.invokestatic 159, 3) := by decide +kernel
theorem dX11_layTold_37 : decode cX11_layTold 37 = .ok (.istore_n 3, 1) := by decide +kernel
theorem dX11_layTold_38 : decode cX11_layTold 38 = .ok (.aload_n 0, 1) := by decide +kernel
theorem dX11_layTold_39 : decode cX11_layTold 39 = .ok (.getfield 13, 3) := by decide +kernel
theorem dX11_layTold_42 : decode cX11_layTold 42 = .ok (.iconst 4, 1) := by decide +kernel
theorem dX11_layTold_43 : decode cX11_layTold 43 = .ok (.iload_n 1, 1) := by decide +kernel
theorem dX11_layTold_44 : decode cX11_layTold 44 = .ok (.imul, 1) := by decide +kernel
theorem dX11_layTold_45 : decode cX11_layTold 45 = .ok (.iconst 3, 1) := by decide +kernel
theorem dX11_layTold_46 : decode cX11_layTold 46 = .ok (.iadd, 1) := by decide +kernel
theorem dX11_layTold_47 : decode cX11_layTold 47 = .ok (.iaload, 1) := by decide +kernel
theorem dX11_layTold_48 : decode cX11_layTold 48 = .ok (.iload_n 2, 1) := by decide +kernel
theorem dX11_layTold_49 : decode cX11_layTold 49 = .ok (.invokestatic 159, 3) := by decide +kernel
theorem dX11_layTold_52 : decode cX11_layTold 52 = .ok (.istore 4, 2) := by decide +kernel
theorem dX11_layTold_54 : decode cX11_layTold 54 = .ok (.iconst 0, 1) := by decide +kernel
theorem dX11_layTold_55 : decode cX11_layTold 55 = .ok (.istore 5, 2) := by decide +kernel
theorem dX11_layTold_57 : decode cX11_layTold 57 = .ok (.aload_n 0, 1) := by decide +kernel
theorem dX11_layTold_58 : decode cX11_layTold 58 = .ok (.getfield 41, 3) := by decide +kernel
theorem dX11_layTold_61 : decode cX11_layTold 61 = .ok (.iload_n 2, 1) := by decide +kernel
theorem dX11_layTold_62 : decode cX11_layTold 62 = .ok (.iload_n 3, 1) := by decide +kernel
theorem dX11_layTold_63 : decode cX11_layTold 63 = .ok (.imul, 1) := by decide +kernel
theorem dX11_layTold_64 : decode cX11_layTold 64 = .ok (.iload 4, 2) := by decide +kernel
theorem dX11_layTold_66 : decode cX11_layTold 66 = .ok (.iadd, 1) := by decide +kernel
theorem dX11_layTold_67 : decode cX11_layTold 67 = .ok (.iaload, 1) := by decide +kernel
theorem dX11_layTold_68 : decode cX11_layTold 68 = .ok (.ldc 54, 2) := by decide +kernel
theorem dX11_layTold_70 : decode cX11_layTold 70 = .ok (.if_icmp .ne 74, 3) := by decide +kernel
theorem dX11_layTold_73 : decode cX11_layTold 73 = .ok (.aload_n 0, 1) := by decide +kernel
theorem dX11_layTold_74 : decode cX11_layTold 74 = .ok (.getfield 41, 3) := by decide +kernel
theorem dX11_layTold_77 : decode cX11_layTold 77 = .ok (.iload_n 2, 1) := by decide +kernel
theorem dX11_layTold_78 : decode cX11_layTold 78 = .ok (.iload_n 3, 1) := by decide +kernel
theorem dX11_layTold_79 : decode cX11_layTold 79 = .ok (.imul, 1) := by decide +kernel
theorem dX11_layTold_80 : decode cX11_layTold 80 = .ok (.iload 4, 2) := by decide +kernel
theorem dX11_layTold_82 : decode cX11_layTold 82 = .ok (.iadd, 1) := by decide +kernel
theorem dX11_layTold_83 : decode cX11_layTold 83 = .ok (.iload 5, 2) := by decide +kernel
theorem dX11_layTold_85 : decode cX11_layTold 85 = .ok (.iastore, 1) := by decide +kernel
theorem dX11_layTold_86 : decode cX11_layTold 86 = .ok (.aload_n 0, 1) := by decide +kernel
theorem dX11_layTold_87 : decode cX11_layTold 87 = .ok (.getfield 38, 3) := by decide +kernel
theorem dX11_layTold_90 : decode cX11_layTold 90 = .ok (.sipush 512, 3) := by decide +kernel
theorem dX11_layTold_93 : decode cX11_layTold 93 = .ok (.iload_n 1, 1) := by decide +kernel
theorem dX11_layTold_94 : decode cX11_layTold 94 = .ok (.imul, 1) := by decide +kernel
theorem dX11_layTold_95 : decode cX11_layTold 95 = .ok (.iload 5, 2) := by decide +kernel
theorem dX11_layTold_97 : decode cX11_layTold 97 = .ok (.iadd, 1) := by decide +kernel
theorem dX11_layTold_98 : decode cX11_layTold 98 = .ok (.iload_n 3, 1) := by decide +kernel
theorem dX11_layTold_99 : decode cX11_layTold 99 = .ok (.i2b, 1) := by decide +kernel
theorem dX11_layTold_100 : decode cX11_layTold 100 = .ok (.bastore, 1) := by decide +kernel
theorem dX11_layTold_101 : decode cX11_layTold 101 = .ok (.aload_n 0, 1) := by decide +kernel
theorem dX11_layTold_102 : decode cX11_layTold 102 = .ok (.getfield 13, 3) := by decide +kernel
theorem dX11_layTold_105 : decode cX11_layTold 105 = .ok (.iconst 4, 1) := by decide +kernel
theorem dX11_layTold_106 : decode cX11_layTold 106 = .ok (.iload_n 1, 1) := by decide +kernel
theorem dX11_layTold_107 : decode cX11_layTold 107 = .ok (.imul, 1) := by decide +kernel
theorem dX11_layTold_108 : decode cX11_layTold 108 = .ok (.iaload, 1) := by decide +kernel
theorem dX11_layTold_109 : decode cX11_layTold 109 = .ok (.iload 4, 2) := by decide +kernel
theorem dX11_layTold_111 : decode cX11_layTold 111 = .ok (.imul, 1) := by decide +kernel
theorem dX11_layTold_112 : decode cX11_layTold 112 = .ok (.aload_n 0, 1) := by decide +kernel
theorem dX11_layTold_113 : decode cX11_layTold 113 = .ok (.getfield 13, 3) := by decide +kernel
theorem dX11_layTold_116 : decode cX11_layTold 116 = .ok (.iconst 4, 1) := by decide +kernel
theorem dX11_layTold_117 : decode cX11_layTold 117 = .ok (.iload_n 1, 1) := by decide +kernel
theorem dX11_layTold_118 : decode cX11_layTold 118 = .ok (.imul, 1) := by decide +kernel
theorem dX11_layTold_119 : decode cX11_layTold 119 = .ok (.iconst 1, 1) := by decide +kernel
theorem dX11_layTold_120 : decode cX11_layTold 120 = .ok (.iadd, 1) := by decide +kernel
theorem dX11_layTold_121 : decode cX11_layTold 121 = .ok (.iaload, 1) := by decide +kernel
theorem dX11_layTold_122 : decode cX11_layTold 122 = .ok (.iload_n 3, 1) := by decide +kernel
theorem dX11_layTold_123 : decode cX11_layTold 123 = .ok (.imul, 1) := by decide +kernel
theorem dX11_layTold_124 : decode cX11_layTold 124 = .ok (.iadd, 1) := by decide +kernel
theorem dX11_layTold_125 : decode cX11_layTold 125 = .ok (.iload_n 2, 1) := by decide +kernel
theorem dX11_layTold_126 : decode cX11_layTold 126 = .ok (.invokestatic 159, 3) := by decide +kernel
theorem dX11_layTold_129 : decode cX11_layTold 129 = .ok (.istore 6, 2) := by decide +kernel
theorem dX11_layTold_131 : decode cX11_layTold 131 = .ok (.iload 4, 2) := by decide +kernel
theorem dX11_layTold_133 : decode cX11_layTold 133 = .ok (.istore_n 3, 1) := by decide +kernel
theorem dX11_layTold_134 : decode cX11_layTold 134 = .ok (.iload 6, 2) := by decide +kernel
theorem dX11_layTold_136 : decode cX11_layTold 136 = .ok (.istore 4, 2) := by decide +kernel
theorem dX11_layTold_138 : decode cX11_layTold 138 = .ok (.iinc 5 1, 3) := by decide +kernel
theorem dX11_layTold_141 : decode cX11_layTold 141 = .ok (.goto (-84), 3) := by decide +kernel
theorem dX11_layTold_144 : decode cX11_layTold 144 = .ok (.aload_n 0, 1) := by decide +kernel
theorem dX11_layTold_145 : decode cX11_layTold 145 = .ok (.getfield 32, 3) := by decide +kernel
theorem dX11_layTold_148 : decode cX11_layTold 148 = .ok (.iload_n 1, 1) := by decide +kernel
theorem dX11_layTold_149 : decode cX11_layTold 149 = .ok (.aload_n 0, 1) := by decide +kernel
theorem dX11_layTold_150 : decode cX11_layTold 150 = .ok (.getfield 41, 3) := by decide +kernel
theorem dX11_layTold_153 : decode cX11_layTold 153 = .ok (.iload_n 2, 1) := by decide +kernel
theorem dX11_layTold_154 : decode cX11_layTold 154 = .ok (.iload_n 3, 1) := by decide +kernel
theorem dX11_layTold_155 : decode cX11_layTold 155 = .ok (.imul, 1) := by decide +kernel
theorem dX11_layTold_156 : decode cX11_layTold 156 = .ok (.iload 4, 2) := by decide +kernel
theorem dX11_layTold_158 : decode cX11_layTold 158 = .ok (.iadd, 1) := by decide +kernel
theorem dX11_layTold_159 : decode cX11_layTold 159 = .ok (.iaload, 1) := by decide +kernel
theorem dX11_layTold_160 : decode cX11_layTold 160 = .ok (.iastore, 1) := by decide +kernel
theorem dX11_layTold_161 : decode cX11_layTold 161 = .ok (.aload_n 0, 1) := by decide +kernel
theorem dX11_layTold_162 : decode cX11_layTold 162 = .ok (.getfield 35, 3) := by decide +kernel
theorem dX11_layTold_165 : decode cX11_layTold 165 = .ok (.iload_n 1, 1) := by decide +kernel
theorem dX11_layTold_166 : decode cX11_layTold 166 = .ok (.iload 5, 2) := by decide +kernel
theorem dX11_layTold_168 : decode cX11_layTold 168 = .ok (.aload_n 0, 1) := by decide +kernel
theorem dX11_layTold_169 : decode cX11_layTold 169 = .ok (.getfield 32, 3) := by decide +kernel
theorem dX11_layTold_172 : decode cX11_layTold 172 = .ok (.iload_n 1, 1) := by decide +kernel
theorem dX11_layTold_173 : decode cX11_layTold 173 = .ok (.iaload, 1) := by decide +kernel
theorem dX11_layTold_174 : decode cX11_layTold 174 = .ok (.isub, 1) := by decide +kernel
theorem dX11_layTold_175 : decode cX11_layTold 175 = .ok (.iastore, 1) := by decide +kernel
theorem dX11_layTold_176 : decode cX11_layTold 176 = .ok (.return_, 1) := by decide +kernel
theorem dX11_madeRest_0 : decode cX11_madeRest 0 = .ok (.aload_n 0, 1) := by decide +kernel
theorem dX11_madeRest_1 : decode cX11_madeRest 1 = .ok (.getfield 13, 3) := by decide +kernel
theorem dX11_madeRest_4 : decode cX11_madeRest 4 = .ok (.iconst 4, 1) := by decide +kernel
theorem dX11_madeRest_5 : decode cX11_madeRest 5 = .ok (.iload_n 1, 1) := by decide +kernel
theorem dX11_madeRest_6 : decode cX11_madeRest 6 = .ok (.imul, 1) := by decide +kernel
theorem dX11_madeRest_7 : decode cX11_madeRest 7 = .ok (.iaload, 1) := by decide +kernel
theorem dX11_madeRest_8 : decode cX11_madeRest 8 = .ok (.istore 4, 2) := by decide +kernel
theorem dX11_madeRest_10 : decode cX11_madeRest 10 = .ok (.aload_n 0, 1) := by decide +kernel
theorem dX11_madeRest_11 : decode cX11_madeRest 11 = .ok (.getfield 7, 3) := by decide +kernel
theorem dX11_madeRest_14 : decode cX11_madeRest 14 = .ok (.iload_n 1, 1) := by decide +kernel
theorem dX11_madeRest_15 : decode cX11_madeRest 15 = .ok (.iaload, 1) := by decide +kernel
theorem dX11_madeRest_16 : decode cX11_madeRest 16 = .ok (.tableswitch 115 1 3 #[28, 56, 84], 28) := by decide +kernel
theorem dX11_madeRest_44 : decode cX11_madeRest 44 = .ok (.aload_n 0, 1) := by decide +kernel
theorem dX11_madeRest_45 : decode cX11_madeRest 45 = .ok (.iload 4, 2) := by decide +kernel
theorem dX11_madeRest_47 : decode cX11_madeRest 47 = .ok (.iload_n 2, 1) := by decide +kernel
theorem dX11_madeRest_48 : decode cX11_madeRest 48 = .ok (.i2l, 1) := by decide +kernel
theorem dX11_madeRest_49 : decode cX11_madeRest 49 = .ok (.invokevirtual 162, 3) := by decide +kernel
theorem dX11_madeRest_52 : decode cX11_madeRest 52 = .ok (.aload_n 0, 1) := by decide +kernel
theorem dX11_madeRest_53 : decode cX11_madeRest 53 = .ok (.aload_n 0, 1) := by decide +kernel
theorem dX11_madeRest_54 : decode cX11_madeRest 54 = .ok (.getfield 13, 3) := by decide +kernel
theorem dX11_madeRest_57 : decode cX11_madeRest 57 = .ok (.iconst 4, 1) := by decide +kernel
theorem dX11_madeRest_58 : decode cX11_madeRest 58 = .ok (.iload_n 1, 1) := by decide +kernel
theorem dX11_madeRest_59 : decode cX11_madeRest 59 = .ok (.imul, 1) := by decide +kernel
theorem dX11_madeRest_60 : decode cX11_madeRest 60 = .ok (.iconst 1, 1) := by decide +kernel
theorem dX11_madeRest_61 : decode cX11_madeRest 61 = .ok (.iadd, 1) := by decide +kernel
theorem dX11_madeRest_62 : decode cX11_madeRest 62 = .ok (.iaload, 1) := by decide +kernel
theorem dX11_madeRest_63 : decode cX11_madeRest 63 = .ok (.iload_n 2, 1) := by decide +kernel
theorem dX11_madeRest_64 : decode cX11_madeRest 64 = .ok (.i2l, 1) := by decide +kernel
theorem dX11_madeRest_65 : decode cX11_madeRest 65 = .ok (.invokevirtual 162, 3) := by decide +kernel
theorem dX11_madeRest_68 : decode cX11_madeRest 68 = .ok (.iadd, 1) := by decide +kernel
theorem dX11_madeRest_69 : decode cX11_madeRest 69 = .ok (.iload_n 3, 1) := by decide +kernel
theorem dX11_madeRest_70 : decode cX11_madeRest 70 = .ok (.irem, 1) := by decide +kernel
theorem dX11_madeRest_71 : decode cX11_madeRest 71 = .ok (.ireturn, 1) := by decide +kernel
theorem dX11_madeRest_72 : decode cX11_madeRest 72 = .ok (.aload_n 0, 1) := by decide +kernel
theorem dX11_madeRest_73 : decode cX11_madeRest 73 = .ok (.iload 4, 2) := by decide +kernel
theorem dX11_madeRest_75 : decode cX11_madeRest 75 = .ok (.iload_n 2, 1) := by decide +kernel
theorem dX11_madeRest_76 : decode cX11_madeRest 76 = .ok (.i2l, 1) := by decide +kernel
theorem dX11_madeRest_77 : decode cX11_madeRest 77 = .ok (.invokevirtual 162, 3) := by decide +kernel
theorem dX11_madeRest_80 : decode cX11_madeRest 80 = .ok (.aload_n 0, 1) := by decide +kernel
theorem dX11_madeRest_81 : decode cX11_madeRest 81 = .ok (.aload_n 0, 1) := by decide +kernel
theorem dX11_madeRest_82 : decode cX11_madeRest 82 = .ok (.getfield 13, 3) := by decide +kernel
theorem dX11_madeRest_85 : decode cX11_madeRest 85 = .ok (.iconst 4, 1) := by decide +kernel
theorem dX11_madeRest_86 : decode cX11_madeRest 86 = .ok (.iload_n 1, 1) := by decide +kernel
theorem dX11_madeRest_87 : decode cX11_madeRest 87 = .ok (.imul, 1) := by decide +kernel
theorem dX11_madeRest_88 : decode cX11_madeRest 88 = .ok (.iconst 1, 1) := by decide +kernel
theorem dX11_madeRest_89 : decode cX11_madeRest 89 = .ok (.iadd, 1) := by decide +kernel
theorem dX11_madeRest_90 : decode cX11_madeRest 90 = .ok (.iaload, 1) := by decide +kernel
theorem dX11_madeRest_91 : decode cX11_madeRest 91 = .ok (.iload_n 2, 1) := by decide +kernel
theorem dX11_madeRest_92 : decode cX11_madeRest 92 = .ok (.i2l, 1) := by decide +kernel
theorem dX11_madeRest_93 : decode cX11_madeRest 93 = .ok (.invokevirtual 162, 3) := by decide +kernel
theorem dX11_madeRest_96 : decode cX11_madeRest 96 = .ok (.imul, 1) := by decide +kernel
theorem dX11_madeRest_97 : decode cX11_madeRest 97 = .ok (.iload_n 3, 1) := by decide +kernel
theorem dX11_madeRest_98 : decode cX11_madeRest 98 = .ok (.irem, 1) := by decide +kernel
theorem dX11_madeRest_99 : decode cX11_madeRest 99 = .ok (.ireturn, 1) := by decide +kernel
theorem dX11_madeRest_100 : decode cX11_madeRest 100 = .ok (.aload_n 0, 1) := by decide +kernel
theorem dX11_madeRest_101 : decode cX11_madeRest 101 = .ok (.iload 4, 2) := by decide +kernel
theorem dX11_madeRest_103 : decode cX11_madeRest 103 = .ok (.aload_n 0, 1) := by decide +kernel
theorem dX11_madeRest_104 : decode cX11_madeRest 104 = .ok (.getfield 13, 3) := by decide +kernel
theorem dX11_madeRest_107 : decode cX11_madeRest 107 = .ok (.iconst 4, 1) := by decide +kernel
theorem dX11_madeRest_108 : decode cX11_madeRest 108 = .ok (.iload_n 1, 1) := by decide +kernel
theorem dX11_madeRest_109 : decode cX11_madeRest 109 = .ok (.imul, 1) := by decide +kernel
theorem dX11_madeRest_110 : decode cX11_madeRest 110 = .ok (.iconst 1, 1) := by decide +kernel
theorem dX11_madeRest_111 : decode cX11_madeRest 111 = .ok (.iadd, 1) := by decide +kernel
theorem dX11_madeRest_112 : decode cX11_madeRest 112 = .ok (.iaload, 1) := by decide +kernel
theorem dX11_madeRest_113 : decode cX11_madeRest 113 = .ok (.iload_n 2, 1) := by decide +kernel
theorem dX11_madeRest_114 : decode cX11_madeRest 114 = .ok (.imul, 1) := by decide +kernel
theorem dX11_madeRest_115 : decode cX11_madeRest 115 = .ok (.aload_n 0, 1) := by decide +kernel
theorem dX11_madeRest_116 : decode cX11_madeRest 116 = .ok (.getfield 13, 3) := by decide +kernel
theorem dX11_madeRest_119 : decode cX11_madeRest 119 = .ok (.iconst 4, 1) := by decide +kernel
theorem dX11_madeRest_120 : decode cX11_madeRest 120 = .ok (.iload_n 1, 1) := by decide +kernel
theorem dX11_madeRest_121 : decode cX11_madeRest 121 = .ok (.imul, 1) := by decide +kernel
theorem dX11_madeRest_122 : decode cX11_madeRest 122 = .ok (.iconst 2, 1) := by decide +kernel
theorem dX11_madeRest_123 : decode cX11_madeRest 123 = .ok (.iadd, 1) := by decide +kernel
theorem dX11_madeRest_124 : decode cX11_madeRest 124 = .ok (.iaload, 1) := by decide +kernel
theorem dX11_madeRest_125 : decode cX11_madeRest 125 = .ok (.iadd, 1) := by decide +kernel
theorem dX11_madeRest_126 : decode cX11_madeRest 126 = .ok (.i2l, 1) := by decide +kernel
theorem dX11_madeRest_127 : decode cX11_madeRest 127 = .ok (.invokevirtual 162, 3) := by decide +kernel
theorem dX11_madeRest_130 : decode cX11_madeRest 130 = .ok (.ireturn, 1) := by decide +kernel
theorem dX11_madeRest_131 : decode cX11_madeRest 131 = .ok (.aload_n 0, 1) := by decide +kernel
theorem dX11_madeRest_132 : decode cX11_madeRest 132 = .ok (.iload 4, 2) := by decide +kernel
theorem dX11_madeRest_134 : decode cX11_madeRest 134 = .ok (.iload_n 2, 1) := by decide +kernel
theorem dX11_madeRest_135 : decode cX11_madeRest 135 = .ok (.iconst 1, 1) := by decide +kernel
theorem dX11_madeRest_136 : decode cX11_madeRest 136 = .ok (.iadd, 1) := by decide +kernel
theorem dX11_madeRest_137 : decode cX11_madeRest 137 = .ok (.i2l, 1) := by decide +kernel
theorem dX11_madeRest_138 : decode cX11_madeRest 138 = .ok (.invokevirtual 162, 3) := by decide +kernel
theorem dX11_madeRest_141 : decode cX11_madeRest 141 = .ok (.aload_n 0, 1) := by decide +kernel
theorem dX11_madeRest_142 : decode cX11_madeRest 142 = .ok (.iload 4, 2) := by decide +kernel
theorem dX11_madeRest_144 : decode cX11_madeRest 144 = .ok (.iload_n 2, 1) := by decide +kernel
theorem dX11_madeRest_145 : decode cX11_madeRest 145 = .ok (.i2l, 1) := by decide +kernel
theorem dX11_madeRest_146 : decode cX11_madeRest 146 = .ok (.invokevirtual 162, 3) := by decide +kernel
theorem dX11_madeRest_149 : decode cX11_madeRest 149 = .ok (.isub, 1) := by decide +kernel
theorem dX11_madeRest_150 : decode cX11_madeRest 150 = .ok (.iload_n 3, 1) := by decide +kernel
theorem dX11_madeRest_151 : decode cX11_madeRest 151 = .ok (.invokestatic 159, 3) := by decide +kernel
theorem dX11_madeRest_154 : decode cX11_madeRest 154 = .ok (.ireturn, 1) := by decide +kernel
theorem dX11_layTurn_0 : decode cX11_layTurn 0 = .ok (.aload_n 0, 1) := by decide +kernel
theorem dX11_layTurn_1 : decode cX11_layTurn 1 = .ok (.getfield 13, 3) := by decide +kernel
theorem dX11_layTurn_4 : decode cX11_layTurn 4 = .ok (.iconst 4, 1) := by decide +kernel
theorem dX11_layTurn_5 : decode cX11_layTurn 5 = .ok (.iload_n 1, 1) := by decide +kernel
theorem dX11_layTurn_6 : decode cX11_layTurn 6 = .ok (.imul, 1) := by decide +kernel
theorem dX11_layTurn_7 : decode cX11_layTurn 7 = .ok (.iaload, 1) := by decide +kernel
theorem dX11_layTurn_8 : decode cX11_layTurn 8 = .ok (.istore_n 2, 1) := by decide +kernel
theorem dX11_layTurn_9 : decode cX11_layTurn 9 = .ok (.aload_n 0, 1) := by decide +kernel
theorem dX11_layTurn_10 : decode cX11_layTurn 10 = .ok (.getfield 7, 3) := by decide +kernel
theorem dX11_layTurn_13 : decode cX11_layTurn 13 = .ok (.iload_n 1, 1) := by decide +kernel
theorem dX11_layTurn_14 : decode cX11_layTurn 14 = .ok (.iaload, 1) := by decide +kernel
theorem dX11_layTurn_15 : decode cX11_layTurn 15 = .ok (.iconst 1, 1) := by decide +kernel
theorem dX11_layTurn_16 : decode cX11_layTurn 16 = .ok (.if_icmp .eq 13, 3) := by decide +kernel
theorem dX11_layTurn_19 : decode cX11_layTurn 19 = .ok (.aload_n 0, 1) := by decide +kernel
theorem dX11_layTurn_20 : decode cX11_layTurn 20 = .ok (.getfield 7, 3) := by decide +kernel
theorem dX11_layTurn_23 : decode cX11_layTurn 23 = .ok (.iload_n 1, 1) := by decide +kernel
theorem dX11_layTurn_24 : decode cX11_layTurn 24 = .ok (.iaload, 1) := by decide +kernel
theorem dX11_layTurn_25 : decode cX11_layTurn 25 = .ok (.iconst 2, 1) := by decide +kernel
theorem dX11_layTurn_26 : decode cX11_layTurn 26 = .ok (.if_icmp .ne 16, 3) := by decide +kernel
theorem dX11_layTurn_29 : decode cX11_layTurn 29 = .ok (.aload_n 0, 1) := by decide +kernel
theorem dX11_layTurn_30 : decode cX11_layTurn 30 = .ok (.getfield 13, 3) := by decide +kernel
theorem dX11_layTurn_33 : decode cX11_layTurn 33 = .ok (.iconst 4, 1) := by decide +kernel
theorem dX11_layTurn_34 : decode cX11_layTurn 34 = .ok (.iload_n 1, 1) := by decide +kernel
theorem dX11_layTurn_35 : decode cX11_layTurn 35 = .ok (.imul, 1) := by decide +kernel
theorem dX11_layTurn_36 : decode cX11_layTurn 36 = .ok (.iconst 1, 1) := by decide +kernel
theorem dX11_layTurn_37 : decode cX11_layTurn 37 = .ok (.iadd, 1) := by decide +kernel
theorem dX11_layTurn_38 : decode cX11_layTurn 38 = .ok (.iaload, 1) := by decide +kernel
theorem dX11_layTurn_39 : decode cX11_layTurn 39 = .ok (.goto 4, 3) := by decide +kernel
theorem dX11_layTurn_42 : decode cX11_layTurn 42 = .ok (.iload_n 2, 1) := by decide +kernel
theorem dX11_layTurn_43 : decode cX11_layTurn 43 = .ok (.istore_n 3, 1) := by decide +kernel
theorem dX11_layTurn_44 : decode cX11_layTurn 44 = .ok (.aload_n 0, 1) := by decide +kernel
theorem dX11_layTurn_45 : decode cX11_layTurn 45 = .ok (.getfield 32, 3) := by decide +kernel
theorem dX11_layTurn_48 : decode cX11_layTurn 48 = .ok (.iload_n 1, 1) := by decide +kernel
theorem dX11_layTurn_49 : decode cX11_layTurn 49 = .ok (.aload_n 0, 1) := by decide +kernel
theorem dX11_layTurn_50 : decode cX11_layTurn 50 = .ok (.getfield 32, 3) := by decide +kernel
theorem dX11_layTurn_53 : decode cX11_layTurn 53 = .ok (.iload_n 2, 1) := by decide +kernel
theorem dX11_layTurn_54 : decode cX11_layTurn 54 = .ok (.iaload, 1) := by decide +kernel
theorem dX11_layTurn_55 : decode cX11_layTurn 55 = .ok (.aload_n 0, 1) := by decide +kernel
theorem dX11_layTurn_56 : decode cX11_layTurn 56 = .ok (.getfield 32, 3) := by decide +kernel
theorem dX11_layTurn_59 : decode cX11_layTurn 59 = .ok (.iload_n 3, 1) := by decide +kernel
theorem dX11_layTurn_60 : decode cX11_layTurn 60 = .ok (.iaload, 1) := by decide +kernel
theorem dX11_layTurn_61 : decode cX11_layTurn 61 = .ok (.if_icmp .le 12, 3) := by decide +kernel
theorem dX11_layTurn_64 : decode cX11_layTurn 64 = .ok (.aload_n 0, 1) := by decide +kernel
theorem dX11_layTurn_65 : decode cX11_layTurn 65 = .ok (.getfield 32, 3) := by decide +kernel
theorem dX11_layTurn_68 : decode cX11_layTurn 68 = .ok (.iload_n 2, 1) := by decide +kernel
theorem dX11_layTurn_69 : decode cX11_layTurn 69 = .ok (.iaload, 1) := by decide +kernel
theorem dX11_layTurn_70 : decode cX11_layTurn 70 = .ok (.goto 9, 3) := by decide +kernel
theorem dX11_layTurn_73 : decode cX11_layTurn 73 = .ok (.aload_n 0, 1) := by decide +kernel
theorem dX11_layTurn_74 : decode cX11_layTurn 74 = .ok (.getfield 32, 3) := by decide +kernel
theorem dX11_layTurn_77 : decode cX11_layTurn 77 = .ok (.iload_n 3, 1) := by decide +kernel
theorem dX11_layTurn_78 : decode cX11_layTurn 78 = .ok (.iaload, 1) := by decide +kernel
theorem dX11_layTurn_79 : decode cX11_layTurn 79 = .ok (.iastore, 1) := by decide +kernel
theorem dX11_layTurn_80 : decode cX11_layTurn 80 = .ok (.aload_n 0, 1) := by decide +kernel
theorem dX11_layTurn_81 : decode cX11_layTurn 81 = .ok (.getfield 35, 3) := by decide +kernel
theorem dX11_layTurn_84 : decode cX11_layTurn 84 = .ok (.iload_n 1, 1) := by decide +kernel
theorem dX11_layTurn_85 : decode cX11_layTurn 85 = .ok (.aload_n 0, 1) := by decide +kernel
theorem dX11_layTurn_86 : decode cX11_layTurn 86 = .ok (.getfield 35, 3) := by decide +kernel
theorem dX11_layTurn_89 : decode cX11_layTurn 89 = .ok (.iload_n 2, 1) := by decide +kernel
theorem dX11_layTurn_90 : decode cX11_layTurn 90 = .ok (.iaload, 1) := by decide +kernel
theorem dX11_layTurn_91 : decode cX11_layTurn 91 = .ok (.aload_n 0, 1) := by decide +kernel
theorem dX11_layTurn_92 : decode cX11_layTurn 92 = .ok (.getfield 35, 3) := by decide +kernel
theorem dX11_layTurn_95 : decode cX11_layTurn 95 = .ok (.iload_n 2, 1) := by decide +kernel
theorem dX11_layTurn_96 : decode cX11_layTurn 96 = .ok (.iaload, 1) := by decide +kernel
theorem dX11_layTurn_97 : decode cX11_layTurn 97 = .ok (.aload_n 0, 1) := by decide +kernel
theorem dX11_layTurn_98 : decode cX11_layTurn 98 = .ok (.getfield 35, 3) := by decide +kernel
theorem dX11_layTurn_101 : decode cX11_layTurn 101 = .ok (.iload_n 3, 1) := by decide +kernel
theorem dX11_layTurn_102 : decode cX11_layTurn 102 = .ok (.iaload, 1) := by decide +kernel
theorem dX11_layTurn_103 : decode cX11_layTurn 103 = .ok (.invokestatic 166, 3) := by decide +kernel
theorem dX11_layTurn_106 : decode cX11_layTurn 106 = .ok (.idiv, 1) := by decide +kernel
theorem dX11_layTurn_107 : decode cX11_layTurn 107 = .ok (.aload_n 0, 1) := by decide +kernel
theorem dX11_layTurn_108 : decode cX11_layTurn 108 = .ok (.getfield 35, 3) := by decide +kernel
theorem dX11_layTurn_111 : decode cX11_layTurn 111 = .ok (.iload_n 3, 1) := by decide +kernel
theorem dX11_layTurn_112 : decode cX11_layTurn 112 = .ok (.iaload, 1) := by decide +kernel
theorem dX11_layTurn_113 : decode cX11_layTurn 113 = .ok (.imul, 1) := by decide +kernel
theorem dX11_layTurn_114 : decode cX11_layTurn 114 = .ok (.iastore, 1) := by decide +kernel
theorem dX11_layTurn_115 : decode cX11_layTurn 115 = .ok (.aload_n 0, 1) := by decide +kernel
theorem dX11_layTurn_116 : decode cX11_layTurn 116 = .ok (.getfield 7, 3) := by decide +kernel
theorem dX11_layTurn_119 : decode cX11_layTurn 119 = .ok (.iload_n 1, 1) := by decide +kernel
theorem dX11_layTurn_120 : decode cX11_layTurn 120 = .ok (.iaload, 1) := by decide +kernel
theorem dX11_layTurn_121 : decode cX11_layTurn 121 = .ok (.iconst 3, 1) := by decide +kernel
theorem dX11_layTurn_122 : decode cX11_layTurn 122 = .ok (.if_icmp .ne 95, 3) := by decide +kernel
theorem dX11_layTurn_125 : decode cX11_layTurn 125 = .ok (.aload_n 0, 1) := by decide +kernel
theorem dX11_layTurn_126 : decode cX11_layTurn 126 = .ok (.getfield 32, 3) := by decide +kernel
theorem dX11_layTurn_129 : decode cX11_layTurn 129 = .ok (.iload_n 2, 1) := by decide +kernel
theorem dX11_layTurn_130 : decode cX11_layTurn 130 = .ok (.iaload, 1) := by decide +kernel
theorem dX11_layTurn_131 : decode cX11_layTurn 131 = .ok (.aload_n 0, 1) := by decide +kernel
theorem dX11_layTurn_132 : decode cX11_layTurn 132 = .ok (.getfield 13, 3) := by decide +kernel
theorem dX11_layTurn_135 : decode cX11_layTurn 135 = .ok (.iconst 4, 1) := by decide +kernel
theorem dX11_layTurn_136 : decode cX11_layTurn 136 = .ok (.iload_n 1, 1) := by decide +kernel
theorem dX11_layTurn_137 : decode cX11_layTurn 137 = .ok (.imul, 1) := by decide +kernel
theorem dX11_layTurn_138 : decode cX11_layTurn 138 = .ok (.iconst 2, 1) := by decide +kernel
theorem dX11_layTurn_139 : decode cX11_layTurn 139 = .ok (.iadd, 1) := by decide +kernel
theorem dX11_layTurn_140 : decode cX11_layTurn 140 = .ok (.iaload, 1) := by decide +kernel
theorem dX11_layTurn_141 : decode cX11_layTurn 141 = .ok (.isub, 1) := by decide +kernel
theorem dX11_layTurn_142 : decode cX11_layTurn 142 = .ok (.istore 4, 2) := by decide +kernel
theorem dX11_layTurn_144 : decode cX11_layTurn 144 = .ok (.aload_n 0, 1) := by decide +kernel
theorem dX11_layTurn_145 : decode cX11_layTurn 145 = .ok (.getfield 32, 3) := by decide +kernel
theorem dX11_layTurn_148 : decode cX11_layTurn 148 = .ok (.iload_n 1, 1) := by decide +kernel
theorem dX11_layTurn_149 : decode cX11_layTurn 149 = .ok (.iload 4, 2) := by decide +kernel
theorem dX11_layTurn_151 : decode cX11_layTurn 151 = .ok (.ifCond .gt 7, 3) := by decide +kernel
theorem dX11_layTurn_154 : decode cX11_layTurn 154 = .ok (.iconst 0, 1) := by decide +kernel
theorem dX11_layTurn_155 : decode cX11_layTurn 155 = .ok (.goto 29, 3) := by decide +kernel
theorem dX11_layTurn_158 : decode cX11_layTurn 158 = .ok (.iload 4, 2) := by decide +kernel
theorem dX11_layTurn_160 : decode cX11_layTurn 160 = .ok (.aload_n 0, 1) := by decide +kernel
theorem dX11_layTurn_161 : decode cX11_layTurn 161 = .ok (.getfield 13, 3) := by decide +kernel
theorem dX11_layTurn_164 : decode cX11_layTurn 164 = .ok (.iconst 4, 1) := by decide +kernel
theorem dX11_layTurn_165 : decode cX11_layTurn 165 = .ok (.iload_n 1, 1) := by decide +kernel
theorem dX11_layTurn_166 : decode cX11_layTurn 166 = .ok (.imul, 1) := by decide +kernel
theorem dX11_layTurn_167 : decode cX11_layTurn 167 = .ok (.iconst 1, 1) := by decide +kernel
theorem dX11_layTurn_168 : decode cX11_layTurn 168 = .ok (.iadd, 1) := by decide +kernel
theorem dX11_layTurn_169 : decode cX11_layTurn 169 = .ok (.iaload, 1) := by decide +kernel
theorem dX11_layTurn_170 : decode cX11_layTurn 170 = .ok (.iadd, 1) := by decide +kernel
theorem dX11_layTurn_171 : decode cX11_layTurn 171 = .ok (.iconst 1, 1) := by decide +kernel
theorem dX11_layTurn_172 : decode cX11_layTurn 172 = .ok (.isub, 1) := by decide +kernel
theorem dX11_layTurn_173 : decode cX11_layTurn 173 = .ok (.aload_n 0, 1) := by decide +kernel
theorem dX11_layTurn_174 : decode cX11_layTurn 174 = .ok (.getfield 13, 3) := by decide +kernel
theorem dX11_layTurn_177 : decode cX11_layTurn 177 = .ok (.iconst 4, 1) := by decide +kernel
theorem dX11_layTurn_178 : decode cX11_layTurn 178 = .ok (.iload_n 1, 1) := by decide +kernel
theorem dX11_layTurn_179 : decode cX11_layTurn 179 = .ok (.imul, 1) := by decide +kernel
theorem dX11_layTurn_180 : decode cX11_layTurn 180 = .ok (.iconst 1, 1) := by decide +kernel
theorem dX11_layTurn_181 : decode cX11_layTurn 181 = .ok (.iadd, 1) := by decide +kernel
theorem dX11_layTurn_182 : decode cX11_layTurn 182 = .ok (.iaload, 1) := by decide +kernel
theorem dX11_layTurn_183 : decode cX11_layTurn 183 = .ok (.idiv, 1) := by decide +kernel
theorem dX11_layTurn_184 : decode cX11_layTurn 184 = .ok (.iastore, 1) := by decide +kernel
theorem dX11_layTurn_185 : decode cX11_layTurn 185 = .ok (.aload_n 0, 1) := by decide +kernel
theorem dX11_layTurn_186 : decode cX11_layTurn 186 = .ok (.getfield 35, 3) := by decide +kernel
theorem dX11_layTurn_189 : decode cX11_layTurn 189 = .ok (.iload_n 1, 1) := by decide +kernel
theorem dX11_layTurn_190 : decode cX11_layTurn 190 = .ok (.aload_n 0, 1) := by decide +kernel
theorem dX11_layTurn_191 : decode cX11_layTurn 191 = .ok (.getfield 35, 3) := by decide +kernel
theorem dX11_layTurn_194 : decode cX11_layTurn 194 = .ok (.iload_n 2, 1) := by decide +kernel
theorem dX11_layTurn_195 : decode cX11_layTurn 195 = .ok (.iaload, 1) := by decide +kernel
theorem dX11_layTurn_196 : decode cX11_layTurn 196 = .ok (.aload_n 0, 1) := by decide +kernel
theorem dX11_layTurn_197 : decode cX11_layTurn 197 = .ok (.getfield 35, 3) := by decide +kernel
theorem dX11_layTurn_200 : decode cX11_layTurn 200 = .ok (.iload_n 2, 1) := by decide +kernel
theorem dX11_layTurn_201 : decode cX11_layTurn 201 = .ok (.iaload, 1) := by decide +kernel
theorem dX11_layTurn_202 : decode cX11_layTurn 202 = .ok (.aload_n 0, 1) := by decide +kernel
theorem dX11_layTurn_203 : decode cX11_layTurn 203 = .ok (.getfield 13, 3) := by decide +kernel
theorem dX11_layTurn_206 : decode cX11_layTurn 206 = .ok (.iconst 4, 1) := by decide +kernel
theorem dX11_layTurn_207 : decode cX11_layTurn 207 = .ok (.iload_n 1, 1) := by decide +kernel
theorem dX11_layTurn_208 : decode cX11_layTurn 208 = .ok (.imul, 1) := by decide +kernel
theorem dX11_layTurn_209 : decode cX11_layTurn 209 = .ok (.iconst 1, 1) := by decide +kernel
theorem dX11_layTurn_210 : decode cX11_layTurn 210 = .ok (.iadd, 1) := by decide +kernel
theorem dX11_layTurn_211 : decode cX11_layTurn 211 = .ok (.iaload, 1) := by decide +kernel
theorem dX11_layTurn_212 : decode cX11_layTurn 212 = .ok (.invokestatic 166, 3) := by decide +kernel
theorem dX11_layTurn_215 : decode cX11_layTurn 215 = .ok (.idiv, 1) := by decide +kernel
theorem dX11_layTurn_216 : decode cX11_layTurn 216 = .ok (.iastore, 1) := by decide +kernel
theorem dX11_layTurn_217 : decode cX11_layTurn 217 = .ok (.return_, 1) := by decide +kernel
theorem dX11_layRest_0 : decode cX11_layRest 0 = .ok (.aload_n 0, 1) := by decide +kernel
theorem dX11_layRest_1 : decode cX11_layRest 1 = .ok (.getfield 7, 3) := by decide +kernel
theorem dX11_layRest_4 : decode cX11_layRest 4 = .ok (.iload_n 1, 1) := by decide +kernel
theorem dX11_layRest_5 : decode cX11_layRest 5 = .ok (.iaload, 1) := by decide +kernel
theorem dX11_layRest_6 : decode cX11_layRest 6 = .ok (.ifCond .ne 10, 3) := by decide +kernel
theorem dX11_layRest_9 : decode cX11_layRest 9 = .ok (.aload_n 0, 1) := by decide +kernel
theorem dX11_layRest_10 : decode cX11_layRest 10 = .ok (.iload_n 1, 1) := by decide +kernel
theorem dX11_layRest_11 : decode cX11_layRest 11 = .ok (.iload_n 2, 1) := by decide +kernel
theorem dX11_layRest_12 : decode cX11_layRest 12 = .ok (.invokevirtual 169, 3) := by decide +kernel
theorem dX11_layRest_15 : decode cX11_layRest 15 = .ok (.return_, 1) := by decide +kernel
theorem dX11_layRest_16 : decode cX11_layRest 16 = .ok (.aload_n 0, 1) := by decide +kernel
theorem dX11_layRest_17 : decode cX11_layRest 17 = .ok (.iload_n 1, 1) := by decide +kernel
theorem dX11_layRest_18 : decode cX11_layRest 18 = .ok (.invokevirtual 173, 3) := by decide +kernel
theorem dX11_layRest_21 : decode cX11_layRest 21 = .ok (.iconst 0, 1) := by decide +kernel
theorem dX11_layRest_22 : decode cX11_layRest 22 = .ok (.istore_n 3, 1) := by decide +kernel
theorem dX11_layRest_23 : decode cX11_layRest 23 = .ok (.iload_n 3, 1) := by decide +kernel
theorem dX11_layRest_24 : decode cX11_layRest 24 = .ok (.aload_n 0, 1) := by decide +kernel
theorem dX11_layRest_25 : decode cX11_layRest 25 = .ok (.getfield 32, 3) := by decide +kernel
theorem dX11_layRest_28 : decode cX11_layRest 28 = .ok (.iload_n 1, 1) := by decide +kernel
theorem dX11_layRest_29 : decode cX11_layRest 29 = .ok (.iaload, 1) := by decide +kernel
theorem dX11_layRest_30 : decode cX11_layRest 30 = .ok (.aload_n 0, 1) := by decide +kernel
theorem dX11_layRest_31 : decode cX11_layRest 31 = .ok (.getfield 35, 3) := by decide +kernel
theorem dX11_layRest_34 : decode cX11_layRest 34 = .ok (.iload_n 1, 1) := by decide +kernel
theorem dX11_layRest_35 : decode cX11_layRest 35 = .ok (.iaload, 1) := by decide +kernel
theorem dX11_layRest_36 : decode cX11_layRest 36 = .ok (.iadd, 1) := by decide +kernel
theorem dX11_layRest_37 : decode cX11_layRest 37 = .ok (.if_icmp .ge 29, 3) := by decide +kernel
theorem dX11_layRest_40 : decode cX11_layRest 40 = .ok (.aload_n 0, 1) := by decide +kernel
theorem dX11_layRest_41 : decode cX11_layRest 41 = .ok (.getfield 38, 3) := by decide +kernel
theorem dX11_layRest_44 : decode cX11_layRest 44 = .ok (.sipush 512, 3) := by decide +kernel
theorem dX11_layRest_47 : decode cX11_layRest 47 = .ok (.iload_n 1, 1) := by decide +kernel
theorem dX11_layRest_48 : decode cX11_layRest 48 = .ok (.imul, 1) := by decide +kernel
theorem dX11_layRest_49 : decode cX11_layRest 49 = .ok (.iload_n 3, 1) := by decide +kernel
theorem dX11_layRest_50 : decode cX11_layRest 50 = .ok (.iadd, 1) := by decide +kernel
theorem dX11_layRest_51 : decode cX11_layRest 51 = .ok (.aload_n 0, 1) := by decide +kernel
theorem dX11_layRest_52 : decode cX11_layRest 52 = .ok (.iload_n 1, 1) := by decide +kernel
theorem dX11_layRest_53 : decode cX11_layRest 53 = .ok (.iload_n 3, 1) := by decide +kernel
theorem dX11_layRest_54 : decode cX11_layRest 54 = .ok (.iload_n 2, 1) := by decide +kernel
theorem dX11_layRest_55 : decode cX11_layRest 55 = .ok (.invokevirtual 177, 3) := by decide +kernel
theorem dX11_layRest_58 : decode cX11_layRest 58 = .ok (.i2b, 1) := by decide +kernel
theorem dX11_layRest_59 : decode cX11_layRest 59 = .ok (.bastore, 1) := by decide +kernel
theorem dX11_layRest_60 : decode cX11_layRest 60 = .ok (.iinc 3 1, 3) := by decide +kernel
theorem dX11_layRest_63 : decode cX11_layRest 63 = .ok (.goto (-40), 3) := by decide +kernel
theorem dX11_layRest_66 : decode cX11_layRest 66 = .ok (.return_, 1) := by decide +kernel
theorem dX11_layRests_0 : decode cX11_layRests 0 = .ok (.aload_n 0, 1) := by decide +kernel
theorem dX11_layRests_1 : decode cX11_layRests 1 = .ok (.getfield 128, 3) := by decide +kernel
theorem dX11_layRests_4 : decode cX11_layRests 4 = .ok (.iload_n 1, 1) := by decide +kernel
theorem dX11_layRests_5 : decode cX11_layRests 5 = .ok (.if_icmp .ne 4, 3) := by decide +kernel
theorem dX11_layRests_8 : decode cX11_layRests 8 = .ok (.return_, 1) := by decide +kernel
theorem dX11_layRests_9 : decode cX11_layRests 9 = .ok (.aload_n 0, 1) := by decide +kernel
theorem dX11_layRests_10 : decode cX11_layRests 10 = .ok (.iload_n 1, 1) := by decide +kernel
theorem dX11_layRests_11 : decode cX11_layRests 11 = .ok (.putfield 128, 3) := by decide +kernel
theorem dX11_layRests_14 : decode cX11_layRests 14 = .ok (.iconst 0, 1) := by decide +kernel
theorem dX11_layRests_15 : decode cX11_layRests 15 = .ok (.istore_n 2, 1) := by decide +kernel
theorem dX11_layRests_16 : decode cX11_layRests 16 = .ok (.iload_n 2, 1) := by decide +kernel
theorem dX11_layRests_17 : decode cX11_layRests 17 = .ok (.aload_n 0, 1) := by decide +kernel
theorem dX11_layRests_18 : decode cX11_layRests 18 = .ok (.getfield 116, 3) := by decide +kernel
theorem dX11_layRests_21 : decode cX11_layRests 21 = .ok (.if_icmp .ge 15, 3) := by decide +kernel
theorem dX11_layRests_24 : decode cX11_layRests 24 = .ok (.aload_n 0, 1) := by decide +kernel
theorem dX11_layRests_25 : decode cX11_layRests 25 = .ok (.iload_n 2, 1) := by decide +kernel
theorem dX11_layRests_26 : decode cX11_layRests 26 = .ok (.iload_n 1, 1) := by decide +kernel
theorem dX11_layRests_27 : decode cX11_layRests 27 = .ok (.invokevirtual 181, 3) := by decide +kernel
theorem dX11_layRests_30 : decode cX11_layRests 30 = .ok (.iinc 2 1, 3) := by decide +kernel
theorem dX11_layRests_33 : decode cX11_layRests 33 = .ok (.goto (-17), 3) := by decide +kernel
theorem dX11_layRests_36 : decode cX11_layRests 36 = .ok (.return_, 1) := by decide +kernel
theorem dX11_comesAgain_0 : decode cX11_comesAgain 0 = .ok (.iconst 1, 1) := by decide +kernel
theorem dX11_comesAgain_1 : decode cX11_comesAgain 1 = .ok (.istore 4, 2) := by decide +kernel
theorem dX11_comesAgain_3 : decode cX11_comesAgain 3 = .ok (.iload_n 2, 1) := by decide +kernel
theorem dX11_comesAgain_4 : decode cX11_comesAgain 4 = .ok (.istore 5, 2) := by decide +kernel
theorem dX11_comesAgain_6 : decode cX11_comesAgain 6 = .ok (.iload 5, 2) := by decide +kernel
theorem dX11_comesAgain_8 : decode cX11_comesAgain 8 = .ok (.aload_n 0, 1) := by decide +kernel
theorem dX11_comesAgain_9 : decode cX11_comesAgain 9 = .ok (.getfield 32, 3) := by decide +kernel
theorem dX11_comesAgain_12 : decode cX11_comesAgain 12 = .ok (.iload_n 1, 1) := by decide +kernel
theorem dX11_comesAgain_13 : decode cX11_comesAgain 13 = .ok (.iaload, 1) := by decide +kernel
theorem dX11_comesAgain_14 : decode cX11_comesAgain 14 = .ok (.aload_n 0, 1) := by decide +kernel
theorem dX11_comesAgain_15 : decode cX11_comesAgain 15 = .ok (.getfield 35, 3) := by decide +kernel
theorem dX11_comesAgain_18 : decode cX11_comesAgain 18 = .ok (.iload_n 1, 1) := by decide +kernel
theorem dX11_comesAgain_19 : decode cX11_comesAgain 19 = .ok (.iaload, 1) := by decide +kernel
theorem dX11_comesAgain_20 : decode cX11_comesAgain 20 = .ok (.iadd, 1) := by decide +kernel
theorem dX11_comesAgain_21 : decode cX11_comesAgain 21 = .ok (.if_icmp .ge 42, 3) := by decide +kernel
theorem dX11_comesAgain_24 : decode cX11_comesAgain 24 = .ok (.iload 4, 2) := by decide +kernel
theorem dX11_comesAgain_26 : decode cX11_comesAgain 26 = .ok (.ifCond .eq 28, 3) := by decide +kernel
theorem dX11_comesAgain_29 : decode cX11_comesAgain 29 = .ok (.aload_n 0, 1) := by decide +kernel
theorem dX11_comesAgain_30 : decode cX11_comesAgain 30 = .ok (.iload_n 1, 1) := by decide +kernel
theorem dX11_comesAgain_31 : decode cX11_comesAgain 31 = .ok (.iload 5, 2) := by decide +kernel
theorem dX11_comesAgain_33 : decode cX11_comesAgain 33 = .ok (.i2l, 1) := by decide +kernel
theorem dX11_comesAgain_34 : decode cX11_comesAgain 34 = .ok (.invokevirtual 162, 3) := by decide +kernel
theorem dX11_comesAgain_37 : decode cX11_comesAgain 37 = .ok (.aload_n 0, 1) := by decide +kernel
theorem dX11_comesAgain_38 : decode cX11_comesAgain 38 = .ok (.iload_n 1, 1) := by decide +kernel
theorem dX11_comesAgain_39 : decode cX11_comesAgain 39 = .ok (.iload 5, 2) := by decide +kernel
theorem dX11_comesAgain_41 : decode cX11_comesAgain 41 = .ok (.iload_n 3, 1) := by decide +kernel
theorem dX11_comesAgain_42 : decode cX11_comesAgain 42 = .ok (.iadd, 1) := by decide +kernel
theorem dX11_comesAgain_43 : decode cX11_comesAgain 43 = .ok (.i2l, 1) := by decide +kernel
theorem dX11_comesAgain_44 : decode cX11_comesAgain 44 = .ok (.invokevirtual 162, 3) := by decide +kernel
theorem dX11_comesAgain_47 : decode cX11_comesAgain 47 = .ok (.if_icmp .ne 7, 3) := by decide +kernel
theorem dX11_comesAgain_50 : decode cX11_comesAgain 50 = .ok (.iconst 1, 1) := by decide +kernel
theorem dX11_comesAgain_51 : decode cX11_comesAgain 51 = .ok (.goto 4, 3) := by decide +kernel
theorem dX11_comesAgain_54 : decode cX11_comesAgain 54 = .ok (.iconst 0, 1) := by decide +kernel
theorem dX11_comesAgain_55 : decode cX11_comesAgain 55 = .ok (.istore 4, 2) := by decide +kernel
theorem dX11_comesAgain_57 : decode cX11_comesAgain 57 = .ok (.iinc 5 1, 3) := by decide +kernel
theorem dX11_comesAgain_60 : decode cX11_comesAgain 60 = .ok (.goto (-54), 3) := by decide +kernel
theorem dX11_comesAgain_63 : decode cX11_comesAgain 63 = .ok (.iload 4, 2) := by decide +kernel
theorem dX11_comesAgain_65 : decode cX11_comesAgain 65 = .ok (.ireturn, 1) := by decide +kernel
theorem dX11_lapOf_0 : decode cX11_lapOf 0 = .ok (.iconst 1, 1) := by decide +kernel
theorem dX11_lapOf_1 : decode cX11_lapOf 1 = .ok (.istore_n 2, 1) := by decide +kernel
theorem dX11_lapOf_2 : decode cX11_lapOf 2 = .ok (.aload_n 0, 1) := by decide +kernel
theorem dX11_lapOf_3 : decode cX11_lapOf 3 = .ok (.iload_n 1, 1) := by decide +kernel
theorem dX11_lapOf_4 : decode cX11_lapOf 4 = .ok (.aload_n 0, 1) := by decide +kernel
theorem dX11_lapOf_5 : decode cX11_lapOf 5 = .ok (.getfield 32, 3) := by decide +kernel
theorem dX11_lapOf_8 : decode cX11_lapOf 8 = .ok (.iload_n 1, 1) := by decide +kernel
theorem dX11_lapOf_9 : decode cX11_lapOf 9 = .ok (.iaload, 1) := by decide +kernel
theorem dX11_lapOf_10 : decode cX11_lapOf 10 = .ok (.iload_n 2, 1) := by decide +kernel
theorem dX11_lapOf_11 : decode cX11_lapOf 11 = .ok (.invokevirtual 184, 3) := by decide +kernel
theorem dX11_lapOf_14 : decode cX11_lapOf 14 = .ok (.ifCond .ne 9, 3) := by decide +kernel
theorem dX11_lapOf_17 : decode cX11_lapOf 17 = .ok (.iinc 2 1, 3) := by decide +kernel
theorem dX11_lapOf_20 : decode cX11_lapOf 20 = .ok (.goto (-18), 3) := by decide +kernel
theorem dX11_lapOf_23 : decode cX11_lapOf 23 = .ok (.iload_n 2, 1) := by decide +kernel
theorem dX11_lapOf_24 : decode cX11_lapOf 24 = .ok (.ireturn, 1) := by decide +kernel
theorem dX11_headOf_0 : decode cX11_headOf 0 = .ok (.aload_n 0, 1) := by decide +kernel
theorem dX11_headOf_1 : decode cX11_headOf 1 = .ok (.iload_n 1, 1) := by decide +kernel
theorem dX11_headOf_2 : decode cX11_headOf 2 = .ok (.invokevirtual 187, 3) := by decide +kernel
theorem dX11_headOf_5 : decode cX11_headOf 5 = .ok (.istore_n 2, 1) := by decide +kernel
theorem dX11_headOf_6 : decode cX11_headOf 6 = .ok (.iconst 0, 1) := by decide +kernel
theorem dX11_headOf_7 : decode cX11_headOf 7 = .ok (.istore_n 3, 1) := by decide +kernel
theorem dX11_headOf_8 : decode cX11_headOf 8 = .ok (.aload_n 0, 1) := by decide +kernel
theorem dX11_headOf_9 : decode cX11_headOf 9 = .ok (.iload_n 1, 1) := by decide +kernel
theorem dX11_headOf_10 : decode cX11_headOf 10 = .ok (.iload_n 3, 1) := by decide +kernel
theorem dX11_headOf_11 : decode cX11_headOf 11 = .ok (.iload_n 2, 1) := by decide +kernel
theorem dX11_headOf_12 : decode cX11_headOf 12 = .ok (.invokevirtual 184, 3) := by decide +kernel
theorem dX11_headOf_15 : decode cX11_headOf 15 = .ok (.ifCond .ne 9, 3) := by decide +kernel
theorem dX11_headOf_18 : decode cX11_headOf 18 = .ok (.iinc 3 1, 3) := by decide +kernel
theorem dX11_headOf_21 : decode cX11_headOf 21 = .ok (.goto (-13), 3) := by decide +kernel
theorem dX11_headOf_24 : decode cX11_headOf 24 = .ok (.iload_n 3, 1) := by decide +kernel
theorem dX11_headOf_25 : decode cX11_headOf 25 = .ok (.ireturn, 1) := by decide +kernel
theorem dX11_zerosOf_0 : decode cX11_zerosOf 0 = .ok (.aload_n 0, 1) := by decide +kernel
theorem dX11_zerosOf_1 : decode cX11_zerosOf 1 = .ok (.iload_n 1, 1) := by decide +kernel
theorem dX11_zerosOf_2 : decode cX11_zerosOf 2 = .ok (.invokevirtual 190, 3) := by decide +kernel
theorem dX11_zerosOf_5 : decode cX11_zerosOf 5 = .ok (.istore_n 2, 1) := by decide +kernel
theorem dX11_zerosOf_6 : decode cX11_zerosOf 6 = .ok (.aload_n 0, 1) := by decide +kernel
theorem dX11_zerosOf_7 : decode cX11_zerosOf 7 = .ok (.iload_n 1, 1) := by decide +kernel
theorem dX11_zerosOf_8 : decode cX11_zerosOf 8 = .ok (.invokevirtual 187, 3) := by decide +kernel
theorem dX11_zerosOf_11 : decode cX11_zerosOf 11 = .ok (.istore_n 3, 1) := by decide +kernel
theorem dX11_zerosOf_12 : decode cX11_zerosOf 12 = .ok (.iconst 0, 1) := by decide +kernel
theorem dX11_zerosOf_13 : decode cX11_zerosOf 13 = .ok (.istore 4, 2) := by decide +kernel
theorem dX11_zerosOf_15 : decode cX11_zerosOf 15 = .ok (.iload_n 2, 1) := by decide +kernel
theorem dX11_zerosOf_16 : decode cX11_zerosOf 16 = .ok (.istore 5, 2) := by decide +kernel
theorem dX11_zerosOf_18 : decode cX11_zerosOf 18 = .ok (.iload 5, 2) := by decide +kernel
theorem dX11_zerosOf_20 : decode cX11_zerosOf 20 = .ok (.iload_n 2, 1) := by decide +kernel
theorem dX11_zerosOf_21 : decode cX11_zerosOf 21 = .ok (.iload_n 3, 1) := by decide +kernel
theorem dX11_zerosOf_22 : decode cX11_zerosOf 22 = .ok (.iadd, 1) := by decide +kernel
theorem dX11_zerosOf_23 : decode cX11_zerosOf 23 = .ok (.if_icmp .ge 30, 3) := by decide +kernel
theorem dX11_zerosOf_26 : decode cX11_zerosOf 26 = .ok (.iload 4, 2) := by decide +kernel
theorem dX11_zerosOf_28 : decode cX11_zerosOf 28 = .ok (.aload_n 0, 1) := by decide +kernel
theorem dX11_zerosOf_29 : decode cX11_zerosOf 29 = .ok (.iload_n 1, 1) := by decide +kernel
theorem dX11_zerosOf_30 : decode cX11_zerosOf 30 = .ok (.iload 5, 2) := by decide +kernel
theorem dX11_zerosOf_32 : decode cX11_zerosOf 32 = .ok (.i2l, 1) := by decide +kernel
theorem dX11_zerosOf_33 : decode cX11_zerosOf 33 = .ok (.invokevirtual 162, 3) := by decide +kernel
theorem dX11_zerosOf_36 : decode cX11_zerosOf 36 = .ok (.ifCond .ne 7, 3) := by decide +kernel
theorem dX11_zerosOf_39 : decode cX11_zerosOf 39 = .ok (.iconst 1, 1) := by decide +kernel
theorem dX11_zerosOf_40 : decode cX11_zerosOf 40 = .ok (.goto 4, 3) := by decide +kernel
theorem dX11_zerosOf_43 : decode cX11_zerosOf 43 = .ok (.iconst 0, 1) := by decide +kernel
theorem dX11_zerosOf_44 : decode cX11_zerosOf 44 = .ok (.iadd, 1) := by decide +kernel
theorem dX11_zerosOf_45 : decode cX11_zerosOf 45 = .ok (.istore 4, 2) := by decide +kernel
theorem dX11_zerosOf_47 : decode cX11_zerosOf 47 = .ok (.iinc 5 1, 3) := by decide +kernel
theorem dX11_zerosOf_50 : decode cX11_zerosOf 50 = .ok (.goto (-32), 3) := by decide +kernel
theorem dX11_zerosOf_53 : decode cX11_zerosOf 53 = .ok (.iload 4, 2) := by decide +kernel
theorem dX11_zerosOf_55 : decode cX11_zerosOf 55 = .ok (.ireturn, 1) := by decide +kernel
theorem dX11_isRow_0 : decode cX11_isRow 0 = .ok (.iload_n 1, 1) := by decide +kernel
theorem dX11_isRow_1 : decode cX11_isRow 1 = .ok (.iconst 0, 1) := by decide +kernel
theorem dX11_isRow_2 : decode cX11_isRow 2 = .ok (.aload_n 0, 1) := by decide +kernel
theorem dX11_isRow_3 : decode cX11_isRow 3 = .ok (.getfield 116, 3) := by decide +kernel
theorem dX11_isRow_6 : decode cX11_isRow 6 = .ok (.iconst 1, 1) := by decide +kernel
theorem dX11_isRow_7 : decode cX11_isRow 7 = .ok (.isub, 1) := by decide +kernel
theorem dX11_isRow_8 : decode cX11_isRow 8 = .ok (.invokestatic 68, 3) := by decide +kernel
theorem dX11_isRow_11 : decode cX11_isRow 11 = .ok (.ireturn, 1) := by decide +kernel
theorem dX11_row_0 : decode cX11_row 0 = .ok (.aload_n 0, 1) := by decide +kernel
theorem dX11_row_1 : decode cX11_row 1 = .ok (.iload_n 1, 1) := by decide +kernel
theorem dX11_row_2 : decode cX11_row 2 = .ok (.invokevirtual 193, 3) := by decide +kernel
theorem dX11_row_5 : decode cX11_row 5 = .ok (.ifCond .ne 6, 3) := by decide +kernel
theorem dX11_row_8 : decode cX11_row 8 = .ok (.ldc 196, 2) := by decide +kernel
theorem dX11_row_10 : decode cX11_row 10 = .ok (.ireturn, 1) := by decide +kernel
theorem dX11_row_11 : decode cX11_row 11 = .ok (.iload_n 2, 1) := by decide +kernel
theorem dX11_row_12 : decode cX11_row 12 = .ok (.iconst 0, 1) := by decide +kernel
theorem dX11_row_13 : decode cX11_row 13 = .ok (.iconst 4, 1) := by decide +kernel
theorem dX11_row_14 : decode cX11_row 14 = .ok (.invokestatic 68, 3) := by decide +kernel
theorem dX11_row_17 : decode cX11_row 17 = .ok (.ifCond .ne 6, 3) := by decide +kernel
theorem dX11_row_20 : decode cX11_row 20 = .ok (.ldc 72, 2) := by decide +kernel
theorem dX11_row_22 : decode cX11_row 22 = .ok (.ireturn, 1) := by decide +kernel
theorem dX11_row_23 : decode cX11_row 23 = .ok (.iload_n 2, 1) := by decide +kernel
theorem dX11_row_24 : decode cX11_row 24 = .ok (.ifCond .ne 12, 3) := by decide +kernel
theorem dX11_row_27 : decode cX11_row 27 = .ok (.aload_n 0, 1) := by decide +kernel
theorem dX11_row_28 : decode cX11_row 28 = .ok (.getfield 7, 3) := by decide +kernel
theorem dX11_row_31 : decode cX11_row 31 = .ok (.iload_n 1, 1) := by decide +kernel
theorem dX11_row_32 : decode cX11_row 32 = .ok (.iaload, 1) := by decide +kernel
theorem dX11_row_33 : decode cX11_row 33 = .ok (.goto 15, 3) := by decide +kernel
theorem dX11_row_36 : decode cX11_row 36 = .ok (.aload_n 0, 1) := by decide +kernel
theorem dX11_row_37 : decode cX11_row 37 = .ok (.getfield 13, 3) := by decide +kernel
theorem dX11_row_40 : decode cX11_row 40 = .ok (.iconst 4, 1) := by decide +kernel
theorem dX11_row_41 : decode cX11_row 41 = .ok (.iload_n 1, 1) := by decide +kernel
theorem dX11_row_42 : decode cX11_row 42 = .ok (.imul, 1) := by decide +kernel
theorem dX11_row_43 : decode cX11_row 43 = .ok (.iload_n 2, 1) := by decide +kernel
theorem dX11_row_44 : decode cX11_row 44 = .ok (.iadd, 1) := by decide +kernel
theorem dX11_row_45 : decode cX11_row 45 = .ok (.iconst 1, 1) := by decide +kernel
theorem dX11_row_46 : decode cX11_row 46 = .ok (.isub, 1) := by decide +kernel
theorem dX11_row_47 : decode cX11_row 47 = .ok (.iaload, 1) := by decide +kernel
theorem dX11_row_48 : decode cX11_row 48 = .ok (.ireturn, 1) := by decide +kernel
theorem dX11_isSuch_0 : decode cX11_isSuch 0 = .ok (.iload_n 1, 1) := by decide +kernel
theorem dX11_isSuch_1 : decode cX11_isSuch 1 = .ok (.iconst 5, 1) := by decide +kernel
theorem dX11_isSuch_2 : decode cX11_isSuch 2 = .ok (.if_icmp .ne 21, 3) := by decide +kernel
theorem dX11_isSuch_5 : decode cX11_isSuch 5 = .ok (.iload_n 0, 1) := by decide +kernel
theorem dX11_isSuch_6 : decode cX11_isSuch 6 = .ok (.iconst 1, 1) := by decide +kernel
theorem dX11_isSuch_7 : decode cX11_isSuch 7 = .ok (.if_icmp .eq 8, 3) := by decide +kernel
theorem dX11_isSuch_10 : decode cX11_isSuch 10 = .ok (.iload_n 0, 1) := by decide +kernel
theorem dX11_isSuch_11 : decode cX11_isSuch 11 = .ok (.iconst 2, 1) := by decide +kernel
theorem dX11_isSuch_12 : decode cX11_isSuch 12 = .ok (.if_icmp .ne 7, 3) := by decide +kernel
theorem dX11_isSuch_15 : decode cX11_isSuch 15 = .ok (.iconst 1, 1) := by decide +kernel
theorem dX11_isSuch_16 : decode cX11_isSuch 16 = .ok (.goto 41, 3) := by decide +kernel
theorem dX11_isSuch_19 : decode cX11_isSuch 19 = .ok (.iconst 0, 1) := by decide +kernel
theorem dX11_isSuch_20 : decode cX11_isSuch 20 = .ok (.goto 37, 3) := by decide +kernel
theorem dX11_isSuch_23 : decode cX11_isSuch 23 = .ok (.iload_n 1, 1) := by decide +kernel
theorem dX11_isSuch_24 : decode cX11_isSuch 24 = .ok (.bipush 6, 2) := by decide +kernel
theorem dX11_isSuch_26 : decode cX11_isSuch 26 = .ok (.if_icmp .ne 21, 3) := by decide +kernel
theorem dX11_isSuch_29 : decode cX11_isSuch 29 = .ok (.iload_n 0, 1) := by decide +kernel
theorem dX11_isSuch_30 : decode cX11_isSuch 30 = .ok (.iconst 3, 1) := by decide +kernel
theorem dX11_isSuch_31 : decode cX11_isSuch 31 = .ok (.if_icmp .eq 8, 3) := by decide +kernel
theorem dX11_isSuch_34 : decode cX11_isSuch 34 = .ok (.iload_n 0, 1) := by decide +kernel
theorem dX11_isSuch_35 : decode cX11_isSuch 35 = .ok (.iconst 4, 1) := by decide +kernel
theorem dX11_isSuch_36 : decode cX11_isSuch 36 = .ok (.if_icmp .ne 7, 3) := by decide +kernel
theorem dX11_isSuch_39 : decode cX11_isSuch 39 = .ok (.iconst 1, 1) := by decide +kernel
theorem dX11_isSuch_40 : decode cX11_isSuch 40 = .ok (.goto 17, 3) := by decide +kernel
theorem dX11_isSuch_43 : decode cX11_isSuch 43 = .ok (.iconst 0, 1) := by decide +kernel
theorem dX11_isSuch_44 : decode cX11_isSuch 44 = .ok (.goto 13, 3) := by decide +kernel
theorem dX11_isSuch_47 : decode cX11_isSuch 47 = .ok (.iload_n 0, 1) := by decide +kernel
theorem dX11_isSuch_48 : decode cX11_isSuch 48 = .ok (.iload_n 1, 1) := by decide +kernel
theorem dX11_isSuch_49 : decode cX11_isSuch 49 = .ok (.if_icmp .ne 7, 3) := by decide +kernel
theorem dX11_isSuch_52 : decode cX11_isSuch 52 = .ok (.iconst 1, 1) := by decide +kernel
theorem dX11_isSuch_53 : decode cX11_isSuch 53 = .ok (.goto 4, 3) := by decide +kernel
theorem dX11_isSuch_56 : decode cX11_isSuch 56 = .ok (.iconst 0, 1) := by decide +kernel
theorem dX11_isSuch_57 : decode cX11_isSuch 57 = .ok (.ireturn, 1) := by decide +kernel
theorem dX11_as_0 : decode cX11_as 0 = .ok (.aload_n 0, 1) := by decide +kernel
theorem dX11_as_1 : decode cX11_as 1 = .ok (.iload_n 1, 1) := by decide +kernel
theorem dX11_as_2 : decode cX11_as 2 = .ok (.invokevirtual 193, 3) := by decide +kernel
theorem dX11_as_5 : decode cX11_as 5 = .ok (.ifCond .ne 6, 3) := by decide +kernel
theorem dX11_as_8 : decode cX11_as 8 = .ok (.ldc 196, 2) := by decide +kernel
theorem dX11_as_10 : decode cX11_as 10 = .ok (.ireturn, 1) := by decide +kernel
theorem dX11_as_11 : decode cX11_as 11 = .ok (.iload_n 2, 1) := by decide +kernel
theorem dX11_as_12 : decode cX11_as 12 = .ok (.iconst 0, 1) := by decide +kernel
theorem dX11_as_13 : decode cX11_as 13 = .ok (.bipush 6, 2) := by decide +kernel
theorem dX11_as_15 : decode cX11_as 15 = .ok (.invokestatic 68, 3) := by decide +kernel
theorem dX11_as_18 : decode cX11_as 18 = .ok (.ifCond .ne 8, 3) := by decide +kernel
theorem dX11_as_21 : decode cX11_as 21 = .ok (.ldc 72, 2) := by decide +kernel
theorem dX11_as_23 : decode cX11_as 23 = .ok (.goto 27, 3) := by decide +kernel
theorem dX11_as_26 : decode cX11_as 26 = .ok (.aload_n 0, 1) := by decide +kernel
theorem dX11_as_27 : decode cX11_as 27 = .ok (.getfield 7, 3) := by decide +kernel
theorem dX11_as_30 : decode cX11_as 30 = .ok (.iload_n 1, 1) := by decide +kernel
theorem dX11_as_31 : decode cX11_as 31 = .ok (.iaload, 1) := by decide +kernel
theorem dX11_as_32 : decode cX11_as 32 = .ok (.iload_n 2, 1) := by decide +kernel
theorem dX11_as_33 : decode cX11_as 33 = .ok (.invokestatic 197, 3) := by decide +kernel
theorem dX11_as_36 : decode cX11_as 36 = .ok (.ifCond .eq 12, 3) := by decide +kernel
theorem dX11_as_39 : decode cX11_as 39 = .ok (.aload_n 0, 1) := by decide +kernel
theorem dX11_as_40 : decode cX11_as 40 = .ok (.getfield 7, 3) := by decide +kernel
theorem dX11_as_43 : decode cX11_as 43 = .ok (.iload_n 1, 1) := by decide +kernel
theorem dX11_as_44 : decode cX11_as 44 = .ok (.iaload, 1) := by decide +kernel
theorem dX11_as_45 : decode cX11_as 45 = .ok (.goto 5, 3) := by decide +kernel
theorem dX11_as_48 : decode cX11_as 48 = .ok (.ldc 54, 2) := by decide +kernel
theorem dX11_as_50 : decode cX11_as 50 = .ok (.ireturn, 1) := by decide +kernel
theorem dX11_term_0 : decode cX11_term 0 = .ok (.aload_n 0, 1) := by decide +kernel
theorem dX11_term_1 : decode cX11_term 1 = .ok (.iload_n 1, 1) := by decide +kernel
theorem dX11_term_2 : decode cX11_term 2 = .ok (.invokevirtual 193, 3) := by decide +kernel
theorem dX11_term_5 : decode cX11_term 5 = .ok (.ifCond .ne 6, 3) := by decide +kernel
theorem dX11_term_8 : decode cX11_term 8 = .ok (.ldc 196, 2) := by decide +kernel
theorem dX11_term_10 : decode cX11_term 10 = .ok (.ireturn, 1) := by decide +kernel
theorem dX11_term_11 : decode cX11_term 11 = .ok (.iload_n 2, 1) := by decide +kernel
theorem dX11_term_12 : decode cX11_term 12 = .ok (.iconst 0, 1) := by decide +kernel
theorem dX11_term_13 : decode cX11_term 13 = .ok (.sipush 200, 3) := by decide +kernel
theorem dX11_term_16 : decode cX11_term 16 = .ok (.invokestatic 68, 3) := by decide +kernel
theorem dX11_term_19 : decode cX11_term 19 = .ok (.ifCond .eq 12, 3) := by decide +kernel
theorem dX11_term_22 : decode cX11_term 22 = .ok (.aload_n 0, 1) := by decide +kernel
theorem dX11_term_23 : decode cX11_term 23 = .ok (.iload_n 1, 1) := by decide +kernel
theorem dX11_term_24 : decode cX11_term 24 = .ok (.iload_n 2, 1) := by decide +kernel
theorem dX11_term_25 : decode cX11_term 25 = .ok (.invokevirtual 201, 3) := by decide +kernel
theorem dX11_term_28 : decode cX11_term 28 = .ok (.goto 5, 3) := by decide +kernel
theorem dX11_term_31 : decode cX11_term 31 = .ok (.ldc 72, 2) := by decide +kernel
theorem dX11_term_33 : decode cX11_term 33 = .ok (.ireturn, 1) := by decide +kernel
theorem dX11_byNow_0 : decode cX11_byNow 0 = .ok (.aload_n 0, 1) := by decide +kernel
theorem dX11_byNow_1 : decode cX11_byNow 1 = .ok (.iload_n 3, 1) := by decide +kernel
theorem dX11_byNow_2 : decode cX11_byNow 2 = .ok (.invokevirtual 204, 3) := by decide +kernel
theorem dX11_byNow_5 : decode cX11_byNow 5 = .ok (.aload_n 0, 1) := by decide +kernel
theorem dX11_byNow_6 : decode cX11_byNow 6 = .ok (.iload_n 1, 1) := by decide +kernel
theorem dX11_byNow_7 : decode cX11_byNow 7 = .ok (.iload_n 2, 1) := by decide +kernel
theorem dX11_byNow_8 : decode cX11_byNow 8 = .ok (.i2l, 1) := by decide +kernel
theorem dX11_byNow_9 : decode cX11_byNow 9 = .ok (.invokevirtual 162, 3) := by decide +kernel
theorem dX11_byNow_12 : decode cX11_byNow 12 = .ok (.ireturn, 1) := by decide +kernel
theorem dX11_by_0 : decode cX11_by 0 = .ok (.aload_n 0, 1) := by decide +kernel
theorem dX11_by_1 : decode cX11_by 1 = .ok (.iload_n 1, 1) := by decide +kernel
theorem dX11_by_2 : decode cX11_by 2 = .ok (.invokevirtual 193, 3) := by decide +kernel
theorem dX11_by_5 : decode cX11_by 5 = .ok (.ifCond .ne 6, 3) := by decide +kernel
theorem dX11_by_8 : decode cX11_by 8 = .ok (.ldc 196, 2) := by decide +kernel
theorem dX11_by_10 : decode cX11_by 10 = .ok (.ireturn, 1) := by decide +kernel
theorem dX11_by_11 : decode cX11_by 11 = .ok (.iload_n 2, 1) := by decide +kernel
theorem dX11_by_12 : decode cX11_by 12 = .ok (.ifCond .lt 23, 3) := by decide +kernel
theorem dX11_by_15 : decode cX11_by 15 = .ok (.iload_n 3, 1) := by decide +kernel
theorem dX11_by_16 : decode cX11_by 16 = .ok (.iconst 2, 1) := by decide +kernel
theorem dX11_by_17 : decode cX11_by 17 = .ok (.bipush 10, 2) := by decide +kernel
theorem dX11_by_19 : decode cX11_by 19 = .ok (.invokestatic 68, 3) := by decide +kernel
theorem dX11_by_22 : decode cX11_by 22 = .ok (.ifCond .eq 13, 3) := by decide +kernel
theorem dX11_by_25 : decode cX11_by 25 = .ok (.aload_n 0, 1) := by decide +kernel
theorem dX11_by_26 : decode cX11_by 26 = .ok (.iload_n 1, 1) := by decide +kernel
theorem dX11_by_27 : decode cX11_by 27 = .ok (.iload_n 2, 1) := by decide +kernel
theorem dX11_by_28 : decode cX11_by 28 = .ok (.iload_n 3, 1) := by decide +kernel
theorem dX11_by_29 : decode cX11_by 29 = .ok (.invokevirtual 207, 3) := by decide +kernel
theorem dX11_by_32 : decode cX11_by 32 = .ok (.goto 5, 3) := by decide +kernel
theorem dX11_by_35 : decode cX11_by 35 = .ok (.ldc 72, 2) := by decide +kernel
theorem dX11_by_37 : decode cX11_by 37 = .ok (.ireturn, 1) := by decide +kernel
theorem dX11_lapNow_0 : decode cX11_lapNow 0 = .ok (.aload_n 0, 1) := by decide +kernel
theorem dX11_lapNow_1 : decode cX11_lapNow 1 = .ok (.iload_n 2, 1) := by decide +kernel
theorem dX11_lapNow_2 : decode cX11_lapNow 2 = .ok (.invokevirtual 204, 3) := by decide +kernel
theorem dX11_lapNow_5 : decode cX11_lapNow 5 = .ok (.iload_n 3, 1) := by decide +kernel
theorem dX11_lapNow_6 : decode cX11_lapNow 6 = .ok (.ifCond .ne 11, 3) := by decide +kernel
theorem dX11_lapNow_9 : decode cX11_lapNow 9 = .ok (.aload_n 0, 1) := by decide +kernel
theorem dX11_lapNow_10 : decode cX11_lapNow 10 = .ok (.iload_n 1, 1) := by decide +kernel
theorem dX11_lapNow_11 : decode cX11_lapNow 11 = .ok (.invokevirtual 187, 3) := by decide +kernel
theorem dX11_lapNow_14 : decode cX11_lapNow 14 = .ok (.goto 21, 3) := by decide +kernel
theorem dX11_lapNow_17 : decode cX11_lapNow 17 = .ok (.iload_n 3, 1) := by decide +kernel
theorem dX11_lapNow_18 : decode cX11_lapNow 18 = .ok (.iconst 1, 1) := by decide +kernel
theorem dX11_lapNow_19 : decode cX11_lapNow 19 = .ok (.if_icmp .ne 11, 3) := by decide +kernel
theorem dX11_lapNow_22 : decode cX11_lapNow 22 = .ok (.aload_n 0, 1) := by decide +kernel
theorem dX11_lapNow_23 : decode cX11_lapNow 23 = .ok (.iload_n 1, 1) := by decide +kernel
theorem dX11_lapNow_24 : decode cX11_lapNow 24 = .ok (.invokevirtual 190, 3) := by decide +kernel
theorem dX11_lapNow_27 : decode cX11_lapNow 27 = .ok (.goto 8, 3) := by decide +kernel
theorem dX11_lapNow_30 : decode cX11_lapNow 30 = .ok (.aload_n 0, 1) := by decide +kernel
theorem dX11_lapNow_31 : decode cX11_lapNow 31 = .ok (.iload_n 1, 1) := by decide +kernel
theorem dX11_lapNow_32 : decode cX11_lapNow 32 = .ok (.invokevirtual 210, 3) := by decide +kernel
theorem dX11_lapNow_35 : decode cX11_lapNow 35 = .ok (.ireturn, 1) := by decide +kernel
theorem dX11_lap_0 : decode cX11_lap 0 = .ok (.aload_n 0, 1) := by decide +kernel
theorem dX11_lap_1 : decode cX11_lap 1 = .ok (.iload_n 1, 1) := by decide +kernel
theorem dX11_lap_2 : decode cX11_lap 2 = .ok (.invokevirtual 193, 3) := by decide +kernel
theorem dX11_lap_5 : decode cX11_lap 5 = .ok (.ifCond .ne 6, 3) := by decide +kernel
theorem dX11_lap_8 : decode cX11_lap 8 = .ok (.ldc 196, 2) := by decide +kernel
theorem dX11_lap_10 : decode cX11_lap 10 = .ok (.ireturn, 1) := by decide +kernel
theorem dX11_lap_11 : decode cX11_lap 11 = .ok (.iload_n 2, 1) := by decide +kernel
theorem dX11_lap_12 : decode cX11_lap 12 = .ok (.iconst 2, 1) := by decide +kernel
theorem dX11_lap_13 : decode cX11_lap 13 = .ok (.bipush 10, 2) := by decide +kernel
theorem dX11_lap_15 : decode cX11_lap 15 = .ok (.invokestatic 68, 3) := by decide +kernel
theorem dX11_lap_18 : decode cX11_lap 18 = .ok (.ifCond .eq 22, 3) := by decide +kernel
theorem dX11_lap_21 : decode cX11_lap 21 = .ok (.iload_n 3, 1) := by decide +kernel
theorem dX11_lap_22 : decode cX11_lap 22 = .ok (.iconst 0, 1) := by decide +kernel
theorem dX11_lap_23 : decode cX11_lap 23 = .ok (.iconst 2, 1) := by decide +kernel
theorem dX11_lap_24 : decode cX11_lap 24 = .ok (.invokestatic 68, 3) := by decide +kernel
theorem dX11_lap_27 : decode cX11_lap 27 = .ok (.ifCond .eq 13, 3) := by decide +kernel
theorem dX11_lap_30 : decode cX11_lap 30 = .ok (.aload_n 0, 1) := by decide +kernel
theorem dX11_lap_31 : decode cX11_lap 31 = .ok (.iload_n 1, 1) := by decide +kernel
theorem dX11_lap_32 : decode cX11_lap 32 = .ok (.iload_n 2, 1) := by decide +kernel
theorem dX11_lap_33 : decode cX11_lap 33 = .ok (.iload_n 3, 1) := by decide +kernel
theorem dX11_lap_34 : decode cX11_lap 34 = .ok (.invokevirtual 213, 3) := by decide +kernel
theorem dX11_lap_37 : decode cX11_lap 37 = .ok (.goto 5, 3) := by decide +kernel
theorem dX11_lap_40 : decode cX11_lap 40 = .ok (.ldc 72, 2) := by decide +kernel
theorem dX11_lap_42 : decode cX11_lap 42 = .ok (.ireturn, 1) := by decide +kernel
theorem dX11_layTable_0 : decode cX11_layTable 0 = .ok (.iconst 0, 1) := by decide +kernel
theorem dX11_layTable_1 : decode cX11_layTable 1 = .ok (.istore_n 3, 1) := by decide +kernel
theorem dX11_layTable_2 : decode cX11_layTable 2 = .ok (.iload_n 3, 1) := by decide +kernel
theorem dX11_layTable_3 : decode cX11_layTable 3 = .ok (.bipush 16, 2) := by decide +kernel
theorem dX11_layTable_5 : decode cX11_layTable 5 = .ok (.iload_n 2, 1) := by decide +kernel
theorem dX11_layTable_6 : decode cX11_layTable 6 = .ok (.isub, 1) := by decide +kernel
theorem dX11_layTable_7 : decode cX11_layTable 7 = .ok (.if_icmp .ge 70, 3) := by decide +kernel
theorem dX11_layTable_10 : decode cX11_layTable 10 = .ok (.iconst 0, 1) := by decide +kernel
theorem dX11_layTable_11 : decode cX11_layTable 11 = .ok (.istore 4, 2) := by decide +kernel
theorem dX11_layTable_13 : decode cX11_layTable 13 = .ok (.iload 4, 2) := by decide +kernel
theorem dX11_layTable_15 : decode cX11_layTable 15 = .ok (.iload_n 2, 1) := by decide +kernel
theorem dX11_layTable_16 : decode cX11_layTable 16 = .ok (.if_icmp .ge 35, 3) := by decide +kernel
theorem dX11_layTable_19 : decode cX11_layTable 19 = .ok (.aload_n 0, 1) := by decide +kernel
theorem dX11_layTable_20 : decode cX11_layTable 20 = .ok (.getfield 44, 3) := by decide +kernel
theorem dX11_layTable_23 : decode cX11_layTable 23 = .ok (.bipush 17, 2) := by decide +kernel
theorem dX11_layTable_25 : decode cX11_layTable 25 = .ok (.iload_n 3, 1) := by decide +kernel
theorem dX11_layTable_26 : decode cX11_layTable 26 = .ok (.imul, 1) := by decide +kernel
theorem dX11_layTable_27 : decode cX11_layTable 27 = .ok (.iload 4, 2) := by decide +kernel
theorem dX11_layTable_29 : decode cX11_layTable 29 = .ok (.iadd, 1) := by decide +kernel
theorem dX11_layTable_30 : decode cX11_layTable 30 = .ok (.aload_n 0, 1) := by decide +kernel
theorem dX11_layTable_31 : decode cX11_layTable 31 = .ok (.iload_n 1, 1) := by decide +kernel
theorem dX11_layTable_32 : decode cX11_layTable 32 = .ok (.iload_n 2, 1) := by decide +kernel
theorem dX11_layTable_33 : decode cX11_layTable 33 = .ok (.iload_n 3, 1) := by decide +kernel
theorem dX11_layTable_34 : decode cX11_layTable 34 = .ok (.iadd, 1) := by decide +kernel
theorem dX11_layTable_35 : decode cX11_layTable 35 = .ok (.iconst 1, 1) := by decide +kernel
theorem dX11_layTable_36 : decode cX11_layTable 36 = .ok (.isub, 1) := by decide +kernel
theorem dX11_layTable_37 : decode cX11_layTable 37 = .ok (.iload 4, 2) := by decide +kernel
theorem dX11_layTable_39 : decode cX11_layTable 39 = .ok (.isub, 1) := by decide +kernel
theorem dX11_layTable_40 : decode cX11_layTable 40 = .ok (.i2l, 1) := by decide +kernel
theorem dX11_layTable_41 : decode cX11_layTable 41 = .ok (.invokevirtual 162, 3) := by decide +kernel
theorem dX11_layTable_44 : decode cX11_layTable 44 = .ok (.iastore, 1) := by decide +kernel
theorem dX11_layTable_45 : decode cX11_layTable 45 = .ok (.iinc 4 1, 3) := by decide +kernel
theorem dX11_layTable_48 : decode cX11_layTable 48 = .ok (.goto (-35), 3) := by decide +kernel
theorem dX11_layTable_51 : decode cX11_layTable 51 = .ok (.aload_n 0, 1) := by decide +kernel
theorem dX11_layTable_52 : decode cX11_layTable 52 = .ok (.getfield 44, 3) := by decide +kernel
theorem dX11_layTable_55 : decode cX11_layTable 55 = .ok (.bipush 17, 2) := by decide +kernel
theorem dX11_layTable_57 : decode cX11_layTable 57 = .ok (.iload_n 3, 1) := by decide +kernel
theorem dX11_layTable_58 : decode cX11_layTable 58 = .ok (.imul, 1) := by decide +kernel
theorem dX11_layTable_59 : decode cX11_layTable 59 = .ok (.iload_n 2, 1) := by decide +kernel
theorem dX11_layTable_60 : decode cX11_layTable 60 = .ok (.iadd, 1) := by decide +kernel
theorem dX11_layTable_61 : decode cX11_layTable 61 = .ok (.aload_n 0, 1) := by decide +kernel
theorem dX11_layTable_62 : decode cX11_layTable 62 = .ok (.iload_n 1, 1) := by decide +kernel
theorem dX11_layTable_63 : decode cX11_layTable 63 = .ok (.iload_n 2, 1) := by decide +kernel
theorem dX11_layTable_64 : decode cX11_layTable 64 = .ok (.iload_n 3, 1) := by decide +kernel
theorem dX11_layTable_65 : decode cX11_layTable 65 = .ok (.iadd, 1) := by decide +kernel
theorem dX11_layTable_66 : decode cX11_layTable 66 = .ok (.i2l, 1) := by decide +kernel
theorem dX11_layTable_67 : decode cX11_layTable 67 = .ok (.invokevirtual 162, 3) := by decide +kernel
theorem dX11_layTable_70 : decode cX11_layTable 70 = .ok (.iastore, 1) := by decide +kernel
theorem dX11_layTable_71 : decode cX11_layTable 71 = .ok (.iinc 3 1, 3) := by decide +kernel
theorem dX11_layTable_74 : decode cX11_layTable 74 = .ok (.goto (-72), 3) := by decide +kernel
theorem dX11_layTable_77 : decode cX11_layTable 77 = .ok (.return_, 1) := by decide +kernel
theorem dX11_swapLines_0 : decode cX11_swapLines 0 = .ok (.iconst 0, 1) := by decide +kernel
theorem dX11_swapLines_1 : decode cX11_swapLines 1 = .ok (.istore_n 3, 1) := by decide +kernel
theorem dX11_swapLines_2 : decode cX11_swapLines 2 = .ok (.iload_n 3, 1) := by decide +kernel
theorem dX11_swapLines_3 : decode cX11_swapLines 3 = .ok (.bipush 17, 2) := by decide +kernel
theorem dX11_swapLines_5 : decode cX11_swapLines 5 = .ok (.if_icmp .ge 57, 3) := by decide +kernel
theorem dX11_swapLines_8 : decode cX11_swapLines 8 = .ok (.aload_n 0, 1) := by decide +kernel
theorem dX11_swapLines_9 : decode cX11_swapLines 9 = .ok (.getfield 44, 3) := by decide +kernel
theorem dX11_swapLines_12 : decode cX11_swapLines 12 = .ok (.bipush 17, 2) := by decide +kernel
theorem dX11_swapLines_14 : decode cX11_swapLines 14 = .ok (.iload_n 1, 1) := by decide +kernel
theorem dX11_swapLines_15 : decode cX11_swapLines 15 = .ok (.imul, 1) := by decide +kernel
theorem dX11_swapLines_16 : decode cX11_swapLines 16 = .ok (.iload_n 3, 1) := by decide +kernel
theorem dX11_swapLines_17 : decode cX11_swapLines 17 = .ok (.iadd, 1) := by decide +kernel
theorem dX11_swapLines_18 : decode cX11_swapLines 18 = .ok (.iaload, 1) := by decide +kernel
theorem dX11_swapLines_19 : decode cX11_swapLines 19 = .ok (.istore 4, 2) := by decide +kernel
theorem dX11_swapLines_21 : decode cX11_swapLines 21 = .ok (.aload_n 0, 1) := by decide +kernel
theorem dX11_swapLines_22 : decode cX11_swapLines 22 = .ok (.getfield 44, 3) := by decide +kernel
theorem dX11_swapLines_25 : decode cX11_swapLines 25 = .ok (.bipush 17, 2) := by decide +kernel
theorem dX11_swapLines_27 : decode cX11_swapLines 27 = .ok (.iload_n 1, 1) := by decide +kernel
theorem dX11_swapLines_28 : decode cX11_swapLines 28 = .ok (.imul, 1) := by decide +kernel
theorem dX11_swapLines_29 : decode cX11_swapLines 29 = .ok (.iload_n 3, 1) := by decide +kernel
theorem dX11_swapLines_30 : decode cX11_swapLines 30 = .ok (.iadd, 1) := by decide +kernel
theorem dX11_swapLines_31 : decode cX11_swapLines 31 = .ok (.aload_n 0, 1) := by decide +kernel
theorem dX11_swapLines_32 : decode cX11_swapLines 32 = .ok (.getfield 44, 3) := by decide +kernel
theorem dX11_swapLines_35 : decode cX11_swapLines 35 = .ok (.bipush 17, 2) := by decide +kernel
theorem dX11_swapLines_37 : decode cX11_swapLines 37 = .ok (.iload_n 2, 1) := by decide +kernel
theorem dX11_swapLines_38 : decode cX11_swapLines 38 = .ok (.imul, 1) := by decide +kernel
theorem dX11_swapLines_39 : decode cX11_swapLines 39 = .ok (.iload_n 3, 1) := by decide +kernel
theorem dX11_swapLines_40 : decode cX11_swapLines 40 = .ok (.iadd, 1) := by decide +kernel
theorem dX11_swapLines_41 : decode cX11_swapLines 41 = .ok (.iaload, 1) := by decide +kernel
theorem dX11_swapLines_42 : decode cX11_swapLines 42 = .ok (.iastore, 1) := by decide +kernel
theorem dX11_swapLines_43 : decode cX11_swapLines 43 = .ok (.aload_n 0, 1) := by decide +kernel
theorem dX11_swapLines_44 : decode cX11_swapLines 44 = .ok (.getfield 44, 3) := by decide +kernel
theorem dX11_swapLines_47 : decode cX11_swapLines 47 = .ok (.bipush 17, 2) := by decide +kernel
theorem dX11_swapLines_49 : decode cX11_swapLines 49 = .ok (.iload_n 2, 1) := by decide +kernel
theorem dX11_swapLines_50 : decode cX11_swapLines 50 = .ok (.imul, 1) := by decide +kernel
theorem dX11_swapLines_51 : decode cX11_swapLines 51 = .ok (.iload_n 3, 1) := by decide +kernel
theorem dX11_swapLines_52 : decode cX11_swapLines 52 = .ok (.iadd, 1) := by decide +kernel
theorem dX11_swapLines_53 : decode cX11_swapLines 53 = .ok (.iload 4, 2) := by decide +kernel
theorem dX11_swapLines_55 : decode cX11_swapLines 55 = .ok (.iastore, 1) := by decide +kernel
theorem dX11_swapLines_56 : decode cX11_swapLines 56 = .ok (.iinc 3 1, 3) := by decide +kernel
theorem dX11_swapLines_59 : decode cX11_swapLines 59 = .ok (.goto (-57), 3) := by decide +kernel
theorem dX11_swapLines_62 : decode cX11_swapLines 62 = .ok (.return_, 1) := by decide +kernel
theorem dX11_makeOne_0 : decode cX11_makeOne 0 = .ok (.iconst 1, 1) := by decide +kernel
theorem dX11_makeOne_1 : decode cX11_makeOne 1 = .ok (.istore 4, 2) := by decide +kernel
theorem dX11_makeOne_3 : decode cX11_makeOne 3 = .ok (.aload_n 0, 1) := by decide +kernel
theorem dX11_makeOne_4 : decode cX11_makeOne 4 = .ok (.getfield 44, 3) := by decide +kernel
theorem dX11_makeOne_7 : decode cX11_makeOne 7 = .ok (.bipush 17, 2) := by decide +kernel
theorem dX11_makeOne_9 : decode cX11_makeOne 9 = .ok (.iload_n 1, 1) := by decide +kernel
theorem dX11_makeOne_10 : decode cX11_makeOne 10 = .ok (.imul, 1) := by decide +kernel
theorem dX11_makeOne_11 : decode cX11_makeOne 11 = .ok (.iload_n 2, 1) := by decide +kernel
theorem dX11_makeOne_12 : decode cX11_makeOne 12 = .ok (.iadd, 1) := by decide +kernel
theorem dX11_makeOne_13 : decode cX11_makeOne 13 = .ok (.iaload, 1) := by decide +kernel
theorem dX11_makeOne_14 : decode cX11_makeOne 14 = .ok (.iload 4, 2) := by decide +kernel
theorem dX11_makeOne_16 : decode cX11_makeOne 16 = .ok (.imul, 1) := by decide +kernel
theorem dX11_makeOne_17 : decode cX11_makeOne 17 = .ok (.iload_n 3, 1) := by decide +kernel
theorem dX11_makeOne_18 : decode cX11_makeOne 18 = .ok (.irem, 1) := by decide +kernel
theorem dX11_makeOne_19 : decode cX11_makeOne 19 = .ok (.iconst 1, 1) := by decide +kernel
theorem dX11_makeOne_20 : decode cX11_makeOne 20 = .ok (.if_icmp .eq 9, 3) := by decide +kernel
theorem dX11_makeOne_23 : decode cX11_makeOne 23 = .ok (.iinc 4 1, 3) := by decide +kernel
theorem dX11_makeOne_26 : decode cX11_makeOne 26 = .ok (.goto (-23), 3) := by decide +kernel
theorem dX11_makeOne_29 : decode cX11_makeOne 29 = .ok (.iconst 0, 1) := by decide +kernel
theorem dX11_makeOne_30 : decode cX11_makeOne 30 = .ok (.istore 5, 2) := by decide +kernel
theorem dX11_makeOne_32 : decode cX11_makeOne 32 = .ok (.iload 5, 2) := by decide +kernel
theorem dX11_makeOne_34 : decode cX11_makeOne 34 = .ok (.bipush 17, 2) := by decide +kernel
theorem dX11_makeOne_36 : decode cX11_makeOne 36 = .ok (.if_icmp .ge 38, 3) := by decide +kernel
theorem dX11_makeOne_39 : decode cX11_makeOne 39 = .ok (.aload_n 0, 1) := by decide +kernel
theorem dX11_makeOne_40 : decode cX11_makeOne 40 = .ok (.getfield 44, 3) := by decide +kernel
theorem dX11_makeOne_43 : decode cX11_makeOne 43 = .ok (.bipush 17, 2) := by decide +kernel
theorem dX11_makeOne_45 : decode cX11_makeOne 45 = .ok (.iload_n 1, 1) := by decide +kernel
theorem dX11_makeOne_46 : decode cX11_makeOne 46 = .ok (.imul, 1) := by decide +kernel
theorem dX11_makeOne_47 : decode cX11_makeOne 47 = .ok (.iload 5, 2) := by decide +kernel
theorem dX11_makeOne_49 : decode cX11_makeOne 49 = .ok (.iadd, 1) := by decide +kernel
theorem dX11_makeOne_50 : decode cX11_makeOne 50 = .ok (.aload_n 0, 1) := by decide +kernel
theorem dX11_makeOne_51 : decode cX11_makeOne 51 = .ok (.getfield 44, 3) := by decide +kernel
theorem dX11_makeOne_54 : decode cX11_makeOne 54 = .ok (.bipush 17, 2) := by decide +kernel
theorem dX11_makeOne_56 : decode cX11_makeOne 56 = .ok (.iload_n 1, 1) := by decide +kernel
theorem dX11_makeOne_57 : decode cX11_makeOne 57 = .ok (.imul, 1) := by decide +kernel
theorem dX11_makeOne_58 : decode cX11_makeOne 58 = .ok (.iload 5, 2) := by decide +kernel
theorem dX11_makeOne_60 : decode cX11_makeOne 60 = .ok (.iadd, 1) := by decide +kernel
theorem dX11_makeOne_61 : decode cX11_makeOne 61 = .ok (.iaload, 1) := by decide +kernel
theorem dX11_makeOne_62 : decode cX11_makeOne 62 = .ok (.iload 4, 2) := by decide +kernel
theorem dX11_makeOne_64 : decode cX11_makeOne 64 = .ok (.imul, 1) := by decide +kernel
theorem dX11_makeOne_65 : decode cX11_makeOne 65 = .ok (.iload_n 3, 1) := by decide +kernel
theorem dX11_makeOne_66 : decode cX11_makeOne 66 = .ok (.irem, 1) := by decide +kernel
theorem dX11_makeOne_67 : decode cX11_makeOne 67 = .ok (.iastore, 1) := by decide +kernel
theorem dX11_makeOne_68 : decode cX11_makeOne 68 = .ok (.iinc 5 1, 3) := by decide +kernel
theorem dX11_makeOne_71 : decode cX11_makeOne 71 = .ok (.goto (-39), 3) := by decide +kernel
theorem dX11_makeOne_74 : decode cX11_makeOne 74 = .ok (.return_, 1) := by decide +kernel
theorem dX11_takeAway_0 : decode cX11_takeAway 0 = .ok (.aload_n 0, 1) := by decide +kernel
theorem dX11_takeAway_1 : decode cX11_takeAway 1 = .ok (.getfield 44, 3) := by decide +kernel
theorem dX11_takeAway_4 : decode cX11_takeAway 4 = .ok (.bipush 17, 2) := by decide +kernel
theorem dX11_takeAway_6 : decode cX11_takeAway 6 = .ok (.iload_n 1, 1) := by decide +kernel
theorem dX11_takeAway_7 : decode cX11_takeAway 7 = .ok (.imul, 1) := by decide +kernel
theorem dX11_takeAway_8 : decode cX11_takeAway 8 = .ok (.iload_n 3, 1) := by decide +kernel
theorem dX11_takeAway_9 : decode cX11_takeAway 9 = .ok (.iadd, 1) := by decide +kernel
theorem dX11_takeAway_10 : decode cX11_takeAway 10 = .ok (.iaload, 1) := by decide +kernel
theorem dX11_takeAway_11 : decode cX11_takeAway 11 = .ok (.istore 5, 2) := by decide +kernel
theorem dX11_takeAway_13 : decode cX11_takeAway 13 = .ok (.iconst 0, 1) := by decide +kernel
theorem dX11_takeAway_14 : decode cX11_takeAway 14 = .ok (.istore 6, 2) := by decide +kernel
theorem dX11_takeAway_16 : decode cX11_takeAway 16 = .ok (.iload 6, 2) := by decide +kernel
theorem dX11_takeAway_18 : decode cX11_takeAway 18 = .ok (.bipush 17, 2) := by decide +kernel
theorem dX11_takeAway_20 : decode cX11_takeAway 20 = .ok (.if_icmp .ge 54, 3) := by decide +kernel
theorem dX11_takeAway_23 : decode cX11_takeAway 23 = .ok (.aload_n 0, 1) := by decide +kernel
theorem dX11_takeAway_24 : decode cX11_takeAway 24 = .ok (.getfield 44, 3) := by decide +kernel
theorem dX11_takeAway_27 : decode cX11_takeAway 27 = .ok (.bipush 17, 2) := by decide +kernel
theorem dX11_takeAway_29 : decode cX11_takeAway 29 = .ok (.iload_n 1, 1) := by decide +kernel
theorem dX11_takeAway_30 : decode cX11_takeAway 30 = .ok (.imul, 1) := by decide +kernel
theorem dX11_takeAway_31 : decode cX11_takeAway 31 = .ok (.iload 6, 2) := by decide +kernel
theorem dX11_takeAway_33 : decode cX11_takeAway 33 = .ok (.iadd, 1) := by decide +kernel
theorem dX11_takeAway_34 : decode cX11_takeAway 34 = .ok (.aload_n 0, 1) := by decide +kernel
theorem dX11_takeAway_35 : decode cX11_takeAway 35 = .ok (.getfield 44, 3) := by decide +kernel
theorem dX11_takeAway_38 : decode cX11_takeAway 38 = .ok (.bipush 17, 2) := by decide +kernel
theorem dX11_takeAway_40 : decode cX11_takeAway 40 = .ok (.iload_n 1, 1) := by decide +kernel
theorem dX11_takeAway_41 : decode cX11_takeAway 41 = .ok (.imul, 1) := by decide +kernel
theorem dX11_takeAway_42 : decode cX11_takeAway 42 = .ok (.iload 6, 2) := by decide +kernel
theorem dX11_takeAway_44 : decode cX11_takeAway 44 = .ok (.iadd, 1) := by decide +kernel
theorem dX11_takeAway_45 : decode cX11_takeAway 45 = .ok (.iaload, 1) := by decide +kernel
theorem dX11_takeAway_46 : decode cX11_takeAway 46 = .ok (.iload 5, 2) := by decide +kernel
theorem dX11_takeAway_48 : decode cX11_takeAway 48 = .ok (.aload_n 0, 1) := by decide +kernel
theorem dX11_takeAway_49 : decode cX11_takeAway 49 = .ok (.getfield 44, 3) := by decide +kernel
theorem dX11_takeAway_52 : decode cX11_takeAway 52 = .ok (.bipush 17, 2) := by decide +kernel
theorem dX11_takeAway_54 : decode cX11_takeAway 54 = .ok (.iload_n 2, 1) := by decide +kernel
theorem dX11_takeAway_55 : decode cX11_takeAway 55 = .ok (.imul, 1) := by decide +kernel
theorem dX11_takeAway_56 : decode cX11_takeAway 56 = .ok (.iload 6, 2) := by decide +kernel
theorem dX11_takeAway_58 : decode cX11_takeAway 58 = .ok (.iadd, 1) := by decide +kernel
theorem dX11_takeAway_59 : decode cX11_takeAway 59 = .ok (.iaload, 1) := by decide +kernel
theorem dX11_takeAway_60 : decode cX11_takeAway 60 = .ok (.imul, 1) := by decide +kernel
theorem dX11_takeAway_61 : decode cX11_takeAway 61 = .ok (.isub, 1) := by decide +kernel
theorem dX11_takeAway_62 : decode cX11_takeAway 62 = .ok (.iload 4, 2) := by decide +kernel
theorem dX11_takeAway_64 : decode cX11_takeAway 64 = .ok (.invokestatic 159, 3) := by decide +kernel
theorem dX11_takeAway_67 : decode cX11_takeAway 67 = .ok (.iastore, 1) := by decide +kernel
theorem dX11_takeAway_68 : decode cX11_takeAway 68 = .ok (.iinc 6 1, 3) := by decide +kernel
theorem dX11_takeAway_71 : decode cX11_takeAway 71 = .ok (.goto (-55), 3) := by decide +kernel
theorem dX11_takeAway_74 : decode cX11_takeAway 74 = .ok (.return_, 1) := by decide +kernel
theorem dX11_lineWith_0 : decode cX11_lineWith 0 = .ok (.iload_n 1, 1) := by decide +kernel
theorem dX11_lineWith_1 : decode cX11_lineWith 1 = .ok (.istore 4, 2) := by decide +kernel
theorem dX11_lineWith_3 : decode cX11_lineWith 3 = .ok (.iload 4, 2) := by decide +kernel
theorem dX11_lineWith_5 : decode cX11_lineWith 5 = .ok (.iload_n 2, 1) := by decide +kernel
theorem dX11_lineWith_6 : decode cX11_lineWith 6 = .ok (.if_icmp .ge 24, 3) := by decide +kernel
theorem dX11_lineWith_9 : decode cX11_lineWith 9 = .ok (.aload_n 0, 1) := by decide +kernel
theorem dX11_lineWith_10 : decode cX11_lineWith 10 = .ok (.getfield 44, 3) := by decide +kernel
theorem dX11_lineWith_13 : decode cX11_lineWith 13 = .ok (.bipush 17, 2) := by decide +kernel
theorem dX11_lineWith_15 : decode cX11_lineWith 15 = .ok (.iload 4, 2) := by decide +kernel
theorem dX11_lineWith_17 : decode cX11_lineWith 17 = .ok (.imul, 1) := by decide +kernel
theorem dX11_lineWith_18 : decode cX11_lineWith 18 = .ok (.iload_n 3, 1) := by decide +kernel
theorem dX11_lineWith_19 : decode cX11_lineWith 19 = .ok (.iadd, 1) := by decide +kernel
theorem dX11_lineWith_20 : decode cX11_lineWith 20 = .ok (.iaload, 1) := by decide +kernel
theorem dX11_lineWith_21 : decode cX11_lineWith 21 = .ok (.ifCond .ne 9, 3) := by decide +kernel
theorem dX11_lineWith_24 : decode cX11_lineWith 24 = .ok (.iinc 4 1, 3) := by decide +kernel
theorem dX11_lineWith_27 : decode cX11_lineWith 27 = .ok (.goto (-24), 3) := by decide +kernel
theorem dX11_lineWith_30 : decode cX11_lineWith 30 = .ok (.iload 4, 2) := by decide +kernel
theorem dX11_lineWith_32 : decode cX11_lineWith 32 = .ok (.ireturn, 1) := by decide +kernel
theorem dX11_isSolved_0 : decode cX11_isSolved 0 = .ok (.bipush 16, 2) := by decide +kernel
theorem dX11_isSolved_2 : decode cX11_isSolved 2 = .ok (.iload_n 2, 1) := by decide +kernel
theorem dX11_isSolved_3 : decode cX11_isSolved 3 = .ok (.isub, 1) := by decide +kernel
theorem dX11_isSolved_4 : decode cX11_isSolved 4 = .ok (.istore 4, 2) := by decide +kernel
theorem dX11_isSolved_6 : decode cX11_isSolved 6 = .ok (.iconst 0, 1) := by decide +kernel
theorem dX11_isSolved_7 : decode cX11_isSolved 7 = .ok (.istore 5, 2) := by decide +kernel
theorem dX11_isSolved_9 : decode cX11_isSolved 9 = .ok (.iload 5, 2) := by decide +kernel
theorem dX11_isSolved_11 : decode cX11_isSolved 11 = .ok (.sipush 272, 3) := by decide +kernel
theorem dX11_isSolved_14 : decode cX11_isSolved 14 = .ok (.if_icmp .ge 17, 3) := by decide +kernel
theorem dX11_isSolved_17 : decode cX11_isSolved 17 = .ok (.aload_n 0, 1) := by decide +kernel
theorem dX11_isSolved_18 : decode cX11_isSolved 18 = .ok (.getfield 44, 3) := by decide +kernel
theorem dX11_isSolved_21 : decode cX11_isSolved 21 = .ok (.iload 5, 2) := by decide +kernel
theorem dX11_isSolved_23 : decode cX11_isSolved 23 = .ok (.iconst 0, 1) := by decide +kernel
theorem dX11_isSolved_24 : decode cX11_isSolved 24 = .ok (.iastore, 1) := by decide +kernel
theorem dX11_isSolved_25 : decode cX11_isSolved 25 = .ok (.iinc 5 1, 3) := by decide +kernel
theorem dX11_isSolved_28 : decode cX11_isSolved 28 = .ok (.goto (-19), 3) := by decide +kernel
theorem dX11_isSolved_31 : decode cX11_isSolved 31 = .ok (.aload_n 0, 1) := by decide +kernel
theorem dX11_isSolved_32 : decode cX11_isSolved 32 = .ok (.iload_n 1, 1) := by decide +kernel
theorem dX11_isSolved_33 : decode cX11_isSolved 33 = .ok (.iload_n 2, 1) := by decide +kernel
theorem dX11_isSolved_34 : decode cX11_isSolved 34 = .ok (.invokevirtual 216, 3) := by decide +kernel
theorem dX11_isSolved_37 : decode cX11_isSolved 37 = .ok (.iconst 0, 1) := by decide +kernel
theorem dX11_isSolved_38 : decode cX11_isSolved 38 = .ok (.istore 5, 2) := by decide +kernel
theorem dX11_isSolved_40 : decode cX11_isSolved 40 = .ok (.iconst 0, 1) := by decide +kernel
theorem dX11_isSolved_41 : decode cX11_isSolved 41 = .ok (.istore 6, 2) := by decide +kernel
theorem dX11_isSolved_43 : decode cX11_isSolved 43 = .ok (.iload 6, 2) := by decide +kernel
theorem dX11_isSolved_45 : decode cX11_isSolved 45 = .ok (.iload_n 2, 1) := by decide +kernel
theorem dX11_isSolved_46 : decode cX11_isSolved 46 = .ok (.if_icmp .ge 90, 3) := by decide +kernel
theorem dX11_isSolved_49 : decode cX11_isSolved 49 = .ok (.aload_n 0, 1) := by decide +kernel
theorem dX11_isSolved_50 : decode cX11_isSolved 50 = .ok (.getfield 47, 3) := by decide +kernel
theorem dX11_isSolved_53 : decode cX11_isSolved 53 = .ok (.iload 6, 2) := by decide +kernel
theorem dX11_isSolved_55 : decode cX11_isSolved 55 = .ok (.iconst 0, 1) := by decide +kernel
theorem dX11_isSolved_56 : decode cX11_isSolved 56 = .ok (.iastore, 1) := by decide +kernel
theorem dX11_isSolved_57 : decode cX11_isSolved 57 = .ok (.aload_n 0, 1) := by decide +kernel
theorem dX11_isSolved_58 : decode cX11_isSolved 58 = .ok (.iload 5, 2) := by decide +kernel
theorem dX11_isSolved_60 : decode cX11_isSolved 60 = .ok (.iload 4, 2) := by decide +kernel
theorem dX11_isSolved_62 : decode cX11_isSolved 62 = .ok (.iload 6, 2) := by decide +kernel
theorem dX11_isSolved_64 : decode cX11_isSolved 64 = .ok (.invokevirtual 219, 3) := by decide +kernel
theorem dX11_isSolved_67 : decode cX11_isSolved 67 = .ok (.istore 7, 2) := by decide +kernel
theorem dX11_isSolved_69 : decode cX11_isSolved 69 = .ok (.iload 7, 2) := by decide +kernel
theorem dX11_isSolved_71 : decode cX11_isSolved 71 = .ok (.iload 4, 2) := by decide +kernel
theorem dX11_isSolved_73 : decode cX11_isSolved 73 = .ok (.if_icmp .ge 57, 3) := by decide +kernel
theorem dX11_isSolved_76 : decode cX11_isSolved 76 = .ok (.aload_n 0, 1) := by decide +kernel
theorem dX11_isSolved_77 : decode cX11_isSolved 77 = .ok (.iload 5, 2) := by decide +kernel
theorem dX11_isSolved_79 : decode cX11_isSolved 79 = .ok (.iload 7, 2) := by decide +kernel
theorem dX11_isSolved_81 : decode cX11_isSolved 81 = .ok (.invokevirtual 222, 3) := by decide +kernel
theorem dX11_isSolved_84 : decode cX11_isSolved 84 = .ok (.aload_n 0, 1) := by decide +kernel
theorem dX11_isSolved_85 : decode cX11_isSolved 85 = .ok (.iload 5, 2) := by decide +kernel
theorem dX11_isSolved_87 : decode cX11_isSolved 87 = .ok (.iload 6, 2) := by decide +kernel
theorem dX11_isSolved_89 : decode cX11_isSolved 89 = .ok (.iload_n 3, 1) := by decide +kernel
theorem dX11_isSolved_90 : decode cX11_isSolved 90 = .ok (.invokevirtual 225, 3) := by decide +kernel
theorem dX11_isSolved_93 : decode cX11_isSolved 93 = .ok (.iconst 0, 1) := by decide +kernel
theorem dX11_isSolved_94 : decode cX11_isSolved 94 = .ok (.istore 8, 2) := by decide +kernel
theorem dX11_isSolved_96 : decode cX11_isSolved 96 = .ok (.iload 8, 2) := by decide +kernel
theorem dX11_isSolved_98 : decode cX11_isSolved 98 = .ok (.iload 4, 2) := by decide +kernel
theorem dX11_isSolved_100 : decode cX11_isSolved 100 = .ok (.if_icmp .ge 27, 3) := by decide +kernel
theorem dX11_isSolved_103 : decode cX11_isSolved 103 = .ok (.iload 8, 2) := by decide +kernel
theorem dX11_isSolved_105 : decode cX11_isSolved 105 = .ok (.iload 5, 2) := by decide +kernel
theorem dX11_isSolved_107 : decode cX11_isSolved 107 = .ok (.if_icmp .eq 14, 3) := by decide +kernel
theorem dX11_isSolved_110 : decode cX11_isSolved 110 = .ok (.aload_n 0, 1) := by decide +kernel
theorem dX11_isSolved_111 : decode cX11_isSolved 111 = .ok (.iload 8, 2) := by decide +kernel
theorem dX11_isSolved_113 : decode cX11_isSolved 113 = .ok (.iload 5, 2) := by decide +kernel
theorem dX11_isSolved_115 : decode cX11_isSolved 115 = .ok (.iload 6, 2) := by decide +kernel
theorem dX11_isSolved_117 : decode cX11_isSolved 117 = .ok (.iload_n 3, 1) := by decide +kernel
theorem dX11_isSolved_118 : decode cX11_isSolved 118 = .ok (.invokevirtual 229, 3) := by decide +kernel
theorem dX11_isSolved_121 : decode cX11_isSolved 121 = .ok (.iinc 8 1, 3) := by decide +kernel
theorem dX11_isSolved_124 : decode cX11_isSolved 124 = .ok (.goto (-28), 3) := by decide +kernel
theorem dX11_isSolved_127 : decode cX11_isSolved 127 = .ok (.iinc 5 1, 3) := by decide +kernel
theorem dX11_isSolved_130 : decode cX11_isSolved 130 = .ok (.iinc 6 1, 3) := by decide +kernel
theorem dX11_isSolved_133 : decode cX11_isSolved 133 = .ok (.goto (-90), 3) := by decide +kernel
theorem dX11_isSolved_136 : decode cX11_isSolved 136 = .ok (.aload_n 0, 1) := by decide +kernel
theorem dX11_isSolved_137 : decode cX11_isSolved 137 = .ok (.iload 5, 2) := by decide +kernel
theorem dX11_isSolved_139 : decode cX11_isSolved 139 = .ok (.iload 4, 2) := by decide +kernel
theorem dX11_isSolved_141 : decode cX11_isSolved 141 = .ok (.iload_n 2, 1) := by decide +kernel
theorem dX11_isSolved_142 : decode cX11_isSolved 142 = .ok (.invokevirtual 233, 3) := by decide +kernel
theorem dX11_isSolved_145 : decode cX11_isSolved 145 = .ok (.ireturn, 1) := by decide +kernel
theorem dX11_isMet_0 : decode cX11_isMet 0 = .ok (.iconst 1, 1) := by decide +kernel
theorem dX11_isMet_1 : decode cX11_isMet 1 = .ok (.istore 4, 2) := by decide +kernel
theorem dX11_isMet_3 : decode cX11_isMet 3 = .ok (.iload_n 1, 1) := by decide +kernel
theorem dX11_isMet_4 : decode cX11_isMet 4 = .ok (.istore 5, 2) := by decide +kernel
theorem dX11_isMet_6 : decode cX11_isMet 6 = .ok (.iload 5, 2) := by decide +kernel
theorem dX11_isMet_8 : decode cX11_isMet 8 = .ok (.iload_n 2, 1) := by decide +kernel
theorem dX11_isMet_9 : decode cX11_isMet 9 = .ok (.if_icmp .ge 36, 3) := by decide +kernel
theorem dX11_isMet_12 : decode cX11_isMet 12 = .ok (.iload 4, 2) := by decide +kernel
theorem dX11_isMet_14 : decode cX11_isMet 14 = .ok (.ifCond .eq 22, 3) := by decide +kernel
theorem dX11_isMet_17 : decode cX11_isMet 17 = .ok (.aload_n 0, 1) := by decide +kernel
theorem dX11_isMet_18 : decode cX11_isMet 18 = .ok (.getfield 44, 3) := by decide +kernel
theorem dX11_isMet_21 : decode cX11_isMet 21 = .ok (.bipush 17, 2) := by decide +kernel
theorem dX11_isMet_23 : decode cX11_isMet 23 = .ok (.iload 5, 2) := by decide +kernel
theorem dX11_isMet_25 : decode cX11_isMet 25 = .ok (.imul, 1) := by decide +kernel
theorem dX11_isMet_26 : decode cX11_isMet 26 = .ok (.iload_n 3, 1) := by decide +kernel
theorem dX11_isMet_27 : decode cX11_isMet 27 = .ok (.iadd, 1) := by decide +kernel
theorem dX11_isMet_28 : decode cX11_isMet 28 = .ok (.iaload, 1) := by decide +kernel
theorem dX11_isMet_29 : decode cX11_isMet 29 = .ok (.ifCond .ne 7, 3) := by decide +kernel
theorem dX11_isMet_32 : decode cX11_isMet 32 = .ok (.iconst 1, 1) := by decide +kernel
theorem dX11_isMet_33 : decode cX11_isMet 33 = .ok (.goto 4, 3) := by decide +kernel
theorem dX11_isMet_36 : decode cX11_isMet 36 = .ok (.iconst 0, 1) := by decide +kernel
theorem dX11_isMet_37 : decode cX11_isMet 37 = .ok (.istore 4, 2) := by decide +kernel
theorem dX11_isMet_39 : decode cX11_isMet 39 = .ok (.iinc 5 1, 3) := by decide +kernel
theorem dX11_isMet_42 : decode cX11_isMet 42 = .ok (.goto (-36), 3) := by decide +kernel
theorem dX11_isMet_45 : decode cX11_isMet 45 = .ok (.iconst 0, 1) := by decide +kernel
theorem dX11_isMet_46 : decode cX11_isMet 46 = .ok (.istore 5, 2) := by decide +kernel
theorem dX11_isMet_48 : decode cX11_isMet 48 = .ok (.iload 5, 2) := by decide +kernel
theorem dX11_isMet_50 : decode cX11_isMet 50 = .ok (.iload_n 1, 1) := by decide +kernel
theorem dX11_isMet_51 : decode cX11_isMet 51 = .ok (.if_icmp .ge 53, 3) := by decide +kernel
theorem dX11_isMet_54 : decode cX11_isMet 54 = .ok (.iconst 0, 1) := by decide +kernel
theorem dX11_isMet_55 : decode cX11_isMet 55 = .ok (.istore 6, 2) := by decide +kernel
theorem dX11_isMet_57 : decode cX11_isMet 57 = .ok (.aload_n 0, 1) := by decide +kernel
theorem dX11_isMet_58 : decode cX11_isMet 58 = .ok (.getfield 44, 3) := by decide +kernel
theorem dX11_isMet_61 : decode cX11_isMet 61 = .ok (.bipush 17, 2) := by decide +kernel
theorem dX11_isMet_63 : decode cX11_isMet 63 = .ok (.iload 5, 2) := by decide +kernel
theorem dX11_isMet_65 : decode cX11_isMet 65 = .ok (.imul, 1) := by decide +kernel
theorem dX11_isMet_66 : decode cX11_isMet 66 = .ok (.iload 6, 2) := by decide +kernel
theorem dX11_isMet_68 : decode cX11_isMet 68 = .ok (.iadd, 1) := by decide +kernel
theorem dX11_isMet_69 : decode cX11_isMet 69 = .ok (.iaload, 1) := by decide +kernel
theorem dX11_isMet_70 : decode cX11_isMet 70 = .ok (.ifCond .ne 9, 3) := by decide +kernel
theorem dX11_isMet_73 : decode cX11_isMet 73 = .ok (.iinc 6 1, 3) := by decide +kernel
theorem dX11_isMet_76 : decode cX11_isMet 76 = .ok (.goto (-19), 3) := by decide +kernel
theorem dX11_isMet_79 : decode cX11_isMet 79 = .ok (.aload_n 0, 1) := by decide +kernel
theorem dX11_isMet_80 : decode cX11_isMet 80 = .ok (.getfield 47, 3) := by decide +kernel
theorem dX11_isMet_83 : decode cX11_isMet 83 = .ok (.iload 6, 2) := by decide +kernel
theorem dX11_isMet_85 : decode cX11_isMet 85 = .ok (.aload_n 0, 1) := by decide +kernel
theorem dX11_isMet_86 : decode cX11_isMet 86 = .ok (.getfield 44, 3) := by decide +kernel
theorem dX11_isMet_89 : decode cX11_isMet 89 = .ok (.bipush 17, 2) := by decide +kernel
theorem dX11_isMet_91 : decode cX11_isMet 91 = .ok (.iload 5, 2) := by decide +kernel
theorem dX11_isMet_93 : decode cX11_isMet 93 = .ok (.imul, 1) := by decide +kernel
theorem dX11_isMet_94 : decode cX11_isMet 94 = .ok (.iload_n 3, 1) := by decide +kernel
theorem dX11_isMet_95 : decode cX11_isMet 95 = .ok (.iadd, 1) := by decide +kernel
theorem dX11_isMet_96 : decode cX11_isMet 96 = .ok (.iaload, 1) := by decide +kernel
theorem dX11_isMet_97 : decode cX11_isMet 97 = .ok (.iastore, 1) := by decide +kernel
theorem dX11_isMet_98 : decode cX11_isMet 98 = .ok (.iinc 5 1, 3) := by decide +kernel
theorem dX11_isMet_101 : decode cX11_isMet 101 = .ok (.goto (-53), 3) := by decide +kernel
theorem dX11_isMet_104 : decode cX11_isMet 104 = .ok (.iload 4, 2) := by decide +kernel
theorem dX11_isMet_106 : decode cX11_isMet 106 = .ok (.ireturn, 1) := by decide +kernel
theorem dX11_leastNow_0 : decode cX11_leastNow 0 = .ok (.aload_n 0, 1) := by decide +kernel
theorem dX11_leastNow_1 : decode cX11_leastNow 1 = .ok (.iload_n 2, 1) := by decide +kernel
theorem dX11_leastNow_2 : decode cX11_leastNow 2 = .ok (.invokevirtual 204, 3) := by decide +kernel
theorem dX11_leastNow_5 : decode cX11_leastNow 5 = .ok (.iconst 0, 1) := by decide +kernel
theorem dX11_leastNow_6 : decode cX11_leastNow 6 = .ok (.istore 4, 2) := by decide +kernel
theorem dX11_leastNow_8 : decode cX11_leastNow 8 = .ok (.aload_n 0, 1) := by decide +kernel
theorem dX11_leastNow_9 : decode cX11_leastNow 9 = .ok (.iload_n 1, 1) := by decide +kernel
theorem dX11_leastNow_10 : decode cX11_leastNow 10 = .ok (.iload 4, 2) := by decide +kernel
theorem dX11_leastNow_12 : decode cX11_leastNow 12 = .ok (.iload_n 2, 1) := by decide +kernel
theorem dX11_leastNow_13 : decode cX11_leastNow 13 = .ok (.invokevirtual 236, 3) := by decide +kernel
theorem dX11_leastNow_16 : decode cX11_leastNow 16 = .ok (.ifCond .ne 9, 3) := by decide +kernel
theorem dX11_leastNow_19 : decode cX11_leastNow 19 = .ok (.iinc 4 1, 3) := by decide +kernel
theorem dX11_leastNow_22 : decode cX11_leastNow 22 = .ok (.goto (-14), 3) := by decide +kernel
theorem dX11_leastNow_25 : decode cX11_leastNow 25 = .ok (.iload_n 3, 1) := by decide +kernel
theorem dX11_leastNow_26 : decode cX11_leastNow 26 = .ok (.ifCond .ne 6, 3) := by decide +kernel
theorem dX11_leastNow_29 : decode cX11_leastNow 29 = .ok (.iload 4, 2) := by decide +kernel
theorem dX11_leastNow_31 : decode cX11_leastNow 31 = .ok (.ireturn, 1) := by decide +kernel
theorem dX11_leastNow_32 : decode cX11_leastNow 32 = .ok (.iload 4, 2) := by decide +kernel
theorem dX11_leastNow_34 : decode cX11_leastNow 34 = .ok (.bipush 8, 2) := by decide +kernel
theorem dX11_leastNow_36 : decode cX11_leastNow 36 = .ok (.if_icmp .le 8, 3) := by decide +kernel
theorem dX11_leastNow_39 : decode cX11_leastNow 39 = .ok (.ldc 54, 2) := by decide +kernel
theorem dX11_leastNow_41 : decode cX11_leastNow 41 = .ok (.goto 21, 3) := by decide +kernel
theorem dX11_leastNow_44 : decode cX11_leastNow 44 = .ok (.iload_n 3, 1) := by decide +kernel
theorem dX11_leastNow_45 : decode cX11_leastNow 45 = .ok (.iload 4, 2) := by decide +kernel
theorem dX11_leastNow_47 : decode cX11_leastNow 47 = .ok (.if_icmp .le 7, 3) := by decide +kernel
theorem dX11_leastNow_50 : decode cX11_leastNow 50 = .ok (.iconst 0, 1) := by decide +kernel
theorem dX11_leastNow_51 : decode cX11_leastNow 51 = .ok (.goto 11, 3) := by decide +kernel
theorem dX11_leastNow_54 : decode cX11_leastNow 54 = .ok (.aload_n 0, 1) := by decide +kernel
theorem dX11_leastNow_55 : decode cX11_leastNow 55 = .ok (.getfield 47, 3) := by decide +kernel
theorem dX11_leastNow_58 : decode cX11_leastNow 58 = .ok (.iload_n 3, 1) := by decide +kernel
theorem dX11_leastNow_59 : decode cX11_leastNow 59 = .ok (.iconst 1, 1) := by decide +kernel
theorem dX11_leastNow_60 : decode cX11_leastNow 60 = .ok (.isub, 1) := by decide +kernel
theorem dX11_leastNow_61 : decode cX11_leastNow 61 = .ok (.iaload, 1) := by decide +kernel
theorem dX11_leastNow_62 : decode cX11_leastNow 62 = .ok (.ireturn, 1) := by decide +kernel
theorem dX11_isPrime_0 : decode cX11_isPrime 0 = .ok (.iload_n 0, 1) := by decide +kernel
theorem dX11_isPrime_1 : decode cX11_isPrime 1 = .ok (.iconst 2, 1) := by decide +kernel
theorem dX11_isPrime_2 : decode cX11_isPrime 2 = .ok (.if_icmp .eq 19, 3) := by decide +kernel
theorem dX11_isPrime_5 : decode cX11_isPrime 5 = .ok (.iload_n 0, 1) := by decide +kernel
theorem dX11_isPrime_6 : decode cX11_isPrime 6 = .ok (.iconst 3, 1) := by decide +kernel
theorem dX11_isPrime_7 : decode cX11_isPrime 7 = .ok (.if_icmp .eq 14, 3) := by decide +kernel
theorem dX11_isPrime_10 : decode cX11_isPrime 10 = .ok (.iload_n 0, 1) := by decide +kernel
theorem dX11_isPrime_11 : decode cX11_isPrime 11 = .ok (.iconst 5, 1) := by decide +kernel
theorem dX11_isPrime_12 : decode cX11_isPrime 12 = .ok (.if_icmp .eq 9, 3) := by decide +kernel
theorem dX11_isPrime_15 : decode cX11_isPrime 15 = .ok (.iload_n 0, 1) := by decide +kernel
theorem dX11_isPrime_16 : decode cX11_isPrime 16 = .ok (.bipush 7, 2) := by decide +kernel
theorem dX11_isPrime_18 : decode cX11_isPrime 18 = .ok (.if_icmp .ne 7, 3) := by decide +kernel
theorem dX11_isPrime_21 : decode cX11_isPrime 21 = .ok (.iconst 1, 1) := by decide +kernel
theorem dX11_isPrime_22 : decode cX11_isPrime 22 = .ok (.goto 4, 3) := by decide +kernel
theorem dX11_isPrime_25 : decode cX11_isPrime 25 = .ok (.iconst 0, 1) := by decide +kernel
theorem dX11_isPrime_26 : decode cX11_isPrime 26 = .ok (.ireturn, 1) := by decide +kernel
theorem dX11_least_0 : decode cX11_least 0 = .ok (.aload_n 0, 1) := by decide +kernel
theorem dX11_least_1 : decode cX11_least 1 = .ok (.iload_n 1, 1) := by decide +kernel
theorem dX11_least_2 : decode cX11_least 2 = .ok (.invokevirtual 193, 3) := by decide +kernel
theorem dX11_least_5 : decode cX11_least 5 = .ok (.ifCond .ne 6, 3) := by decide +kernel
theorem dX11_least_8 : decode cX11_least 8 = .ok (.ldc 196, 2) := by decide +kernel
theorem dX11_least_10 : decode cX11_least 10 = .ok (.ireturn, 1) := by decide +kernel
theorem dX11_least_11 : decode cX11_least 11 = .ok (.iload_n 2, 1) := by decide +kernel
theorem dX11_least_12 : decode cX11_least 12 = .ok (.invokestatic 239, 3) := by decide +kernel
theorem dX11_least_15 : decode cX11_least 15 = .ok (.ifCond .eq 23, 3) := by decide +kernel
theorem dX11_least_18 : decode cX11_least 18 = .ok (.iload_n 3, 1) := by decide +kernel
theorem dX11_least_19 : decode cX11_least 19 = .ok (.iconst 0, 1) := by decide +kernel
theorem dX11_least_20 : decode cX11_least 20 = .ok (.bipush 8, 2) := by decide +kernel
theorem dX11_least_22 : decode cX11_least 22 = .ok (.invokestatic 68, 3) := by decide +kernel
theorem dX11_least_25 : decode cX11_least 25 = .ok (.ifCond .eq 13, 3) := by decide +kernel
theorem dX11_least_28 : decode cX11_least 28 = .ok (.aload_n 0, 1) := by decide +kernel
theorem dX11_least_29 : decode cX11_least 29 = .ok (.iload_n 1, 1) := by decide +kernel
theorem dX11_least_30 : decode cX11_least 30 = .ok (.iload_n 2, 1) := by decide +kernel
theorem dX11_least_31 : decode cX11_least 31 = .ok (.iload_n 3, 1) := by decide +kernel
theorem dX11_least_32 : decode cX11_least 32 = .ok (.invokevirtual 242, 3) := by decide +kernel
theorem dX11_least_35 : decode cX11_least 35 = .ok (.goto 5, 3) := by decide +kernel
theorem dX11_least_38 : decode cX11_least 38 = .ok (.ldc 72, 2) := by decide +kernel
theorem dX11_least_40 : decode cX11_least 40 = .ok (.ireturn, 1) := by decide +kernel
theorem dX11_isTold_0 : decode cX11_isTold 0 = .ok (.aload_n 0, 1) := by decide +kernel
theorem dX11_isTold_1 : decode cX11_isTold 1 = .ok (.getfield 7, 3) := by decide +kernel
theorem dX11_isTold_4 : decode cX11_isTold 4 = .ok (.iload_n 1, 1) := by decide +kernel
theorem dX11_isTold_5 : decode cX11_isTold 5 = .ok (.iaload, 1) := by decide +kernel
theorem dX11_isTold_6 : decode cX11_isTold 6 = .ok (.ifCond .ne 7, 3) := by decide +kernel
theorem dX11_isTold_9 : decode cX11_isTold 9 = .ok (.iconst 1, 1) := by decide +kernel
theorem dX11_isTold_10 : decode cX11_isTold 10 = .ok (.goto 4, 3) := by decide +kernel
theorem dX11_isTold_13 : decode cX11_isTold 13 = .ok (.iconst 0, 1) := by decide +kernel
theorem dX11_isTold_14 : decode cX11_isTold 14 = .ok (.ireturn, 1) := by decide +kernel
theorem dX11_arePartsTold_0 : decode cX11_arePartsTold 0 = .ok (.aload_n 0, 1) := by decide +kernel
theorem dX11_arePartsTold_1 : decode cX11_arePartsTold 1 = .ok (.getfield 7, 3) := by decide +kernel
theorem dX11_arePartsTold_4 : decode cX11_arePartsTold 4 = .ok (.iload_n 1, 1) := by decide +kernel
theorem dX11_arePartsTold_5 : decode cX11_arePartsTold 5 = .ok (.iaload, 1) := by decide +kernel
theorem dX11_arePartsTold_6 : decode cX11_arePartsTold 6 = .ok (.iconst 1, 1) := by decide +kernel
theorem dX11_arePartsTold_7 : decode cX11_arePartsTold 7 = .ok (.if_icmp .eq 13, 3) := by decide +kernel
theorem dX11_arePartsTold_10 : decode cX11_arePartsTold 10 = .ok (.aload_n 0, 1) := by decide +kernel
theorem dX11_arePartsTold_11 : decode cX11_arePartsTold 11 = .ok (.getfield 7, 3) := by decide +kernel
theorem dX11_arePartsTold_14 : decode cX11_arePartsTold 14 = .ok (.iload_n 1, 1) := by decide +kernel
theorem dX11_arePartsTold_15 : decode cX11_arePartsTold 15 = .ok (.iaload, 1) := by decide +kernel
theorem dX11_arePartsTold_16 : decode cX11_arePartsTold 16 = .ok (.iconst 2, 1) := by decide +kernel
theorem dX11_arePartsTold_17 : decode cX11_arePartsTold 17 = .ok (.if_icmp .ne 7, 3) := by decide +kernel
theorem dX11_arePartsTold_20 : decode cX11_arePartsTold 20 = .ok (.iconst 1, 1) := by decide +kernel
theorem dX11_arePartsTold_21 : decode cX11_arePartsTold 21 = .ok (.goto 4, 3) := by decide +kernel
theorem dX11_arePartsTold_24 : decode cX11_arePartsTold 24 = .ok (.iconst 0, 1) := by decide +kernel
theorem dX11_arePartsTold_25 : decode cX11_arePartsTold 25 = .ok (.istore_n 2, 1) := by decide +kernel
theorem dX11_arePartsTold_26 : decode cX11_arePartsTold 26 = .ok (.aload_n 0, 1) := by decide +kernel
theorem dX11_arePartsTold_27 : decode cX11_arePartsTold 27 = .ok (.getfield 7, 3) := by decide +kernel
theorem dX11_arePartsTold_30 : decode cX11_arePartsTold 30 = .ok (.iload_n 1, 1) := by decide +kernel
theorem dX11_arePartsTold_31 : decode cX11_arePartsTold 31 = .ok (.iaload, 1) := by decide +kernel
theorem dX11_arePartsTold_32 : decode cX11_arePartsTold 32 = .ok (.ifCond .eq 43, 3) := by decide +kernel
theorem dX11_arePartsTold_35 : decode cX11_arePartsTold 35 = .ok (.aload_n 0, 1) := by decide +kernel
theorem dX11_arePartsTold_36 : decode cX11_arePartsTold 36 = .ok (.aload_n 0, 1) := by decide +kernel
theorem dX11_arePartsTold_37 : decode cX11_arePartsTold 37 = .ok (.getfield 13, 3) := by decide +kernel
theorem dX11_arePartsTold_40 : decode cX11_arePartsTold 40 = .ok (.iconst 4, 1) := by decide +kernel
theorem dX11_arePartsTold_41 : decode cX11_arePartsTold 41 = .ok (.iload_n 1, 1) := by decide +kernel
end
section
theorem dX11_arePartsTold_42 : decode cX11_arePartsTold 42 = .ok (.imul, 1) := by decide +kernel
theorem dX11_arePartsTold_43 : decode cX11_arePartsTold 43 = .ok (.iaload, 1) := by decide +kernel
theorem dX11_arePartsTold_44 : decode cX11_arePartsTold 44 = .ok (.invokevirtual 245, 3) := by decide +kernel
theorem dX11_arePartsTold_47 : decode cX11_arePartsTold 47 = .ok (.ifCond .eq 28, 3) := by decide +kernel
theorem dX11_arePartsTold_50 : decode cX11_arePartsTold 50 = .ok (.iload_n 2, 1) := by decide +kernel
theorem dX11_arePartsTold_51 : decode cX11_arePartsTold 51 = .ok (.ifCond .eq 20, 3) := by decide +kernel
theorem dX11_arePartsTold_54 : decode cX11_arePartsTold 54 = .ok (.aload_n 0, 1) := by decide +kernel
theorem dX11_arePartsTold_55 : decode cX11_arePartsTold 55 = .ok (.aload_n 0, 1) := by decide +kernel
theorem dX11_arePartsTold_56 : decode cX11_arePartsTold 56 = .ok (.getfield 13, 3) := by decide +kernel
theorem dX11_arePartsTold_59 : decode cX11_arePartsTold 59 = .ok (.iconst 4, 1) := by decide +kernel
theorem dX11_arePartsTold_60 : decode cX11_arePartsTold 60 = .ok (.iload_n 1, 1) := by decide +kernel
theorem dX11_arePartsTold_61 : decode cX11_arePartsTold 61 = .ok (.imul, 1) := by decide +kernel
theorem dX11_arePartsTold_62 : decode cX11_arePartsTold 62 = .ok (.iconst 1, 1) := by decide +kernel
theorem dX11_arePartsTold_63 : decode cX11_arePartsTold 63 = .ok (.iadd, 1) := by decide +kernel
theorem dX11_arePartsTold_64 : decode cX11_arePartsTold 64 = .ok (.iaload, 1) := by decide +kernel
theorem dX11_arePartsTold_65 : decode cX11_arePartsTold 65 = .ok (.invokevirtual 245, 3) := by decide +kernel
theorem dX11_arePartsTold_68 : decode cX11_arePartsTold 68 = .ok (.ifCond .eq 7, 3) := by decide +kernel
theorem dX11_arePartsTold_71 : decode cX11_arePartsTold 71 = .ok (.iconst 1, 1) := by decide +kernel
theorem dX11_arePartsTold_72 : decode cX11_arePartsTold 72 = .ok (.goto 4, 3) := by decide +kernel
theorem dX11_arePartsTold_75 : decode cX11_arePartsTold 75 = .ok (.iconst 0, 1) := by decide +kernel
theorem dX11_arePartsTold_76 : decode cX11_arePartsTold 76 = .ok (.ireturn, 1) := by decide +kernel
theorem dX11_powers_0 : decode cX11_powers 0 = .ok (.iconst 2, 1) := by decide +kernel
theorem dX11_powers_1 : decode cX11_powers 1 = .ok (.istore_n 3, 1) := by decide +kernel
theorem dX11_powers_2 : decode cX11_powers 2 = .ok (.iload_n 0, 1) := by decide +kernel
theorem dX11_powers_3 : decode cX11_powers 3 = .ok (.istore 4, 2) := by decide +kernel
theorem dX11_powers_5 : decode cX11_powers 5 = .ok (.iconst 0, 1) := by decide +kernel
theorem dX11_powers_6 : decode cX11_powers 6 = .ok (.istore 5, 2) := by decide +kernel
theorem dX11_powers_8 : decode cX11_powers 8 = .ok (.iload 5, 2) := by decide +kernel
theorem dX11_powers_10 : decode cX11_powers 10 = .ok (.iload_n 2, 1) := by decide +kernel
theorem dX11_powers_11 : decode cX11_powers 11 = .ok (.if_icmp .ge 26, 3) := by decide +kernel
theorem dX11_powers_14 : decode cX11_powers 14 = .ok (.iload_n 0, 1) := by decide +kernel
theorem dX11_powers_15 : decode cX11_powers 15 = .ok (.iload 4, 2) := by decide +kernel
theorem dX11_powers_17 : decode cX11_powers 17 = .ok (.imul, 1) := by decide +kernel
theorem dX11_powers_18 : decode cX11_powers 18 = .ok (.iload_n 1, 1) := by decide +kernel
theorem dX11_powers_19 : decode cX11_powers 19 = .ok (.iload_n 3, 1) := by decide +kernel
theorem dX11_powers_20 : decode cX11_powers 20 = .ok (.imul, 1) := by decide +kernel
theorem dX11_powers_21 : decode cX11_powers 21 = .ok (.iadd, 1) := by decide +kernel
theorem dX11_powers_22 : decode cX11_powers 22 = .ok (.istore 6, 2) := by decide +kernel
theorem dX11_powers_24 : decode cX11_powers 24 = .ok (.iload 4, 2) := by decide +kernel
theorem dX11_powers_26 : decode cX11_powers 26 = .ok (.istore_n 3, 1) := by decide +kernel
theorem dX11_powers_27 : decode cX11_powers 27 = .ok (.iload 6, 2) := by decide +kernel
theorem dX11_powers_29 : decode cX11_powers 29 = .ok (.istore 4, 2) := by decide +kernel
theorem dX11_powers_31 : decode cX11_powers 31 = .ok (.iinc 5 1, 3) := by decide +kernel
theorem dX11_powers_34 : decode cX11_powers 34 = .ok (.goto (-26), 3) := by decide +kernel
theorem dX11_powers_37 : decode cX11_powers 37 = .ok (.iload_n 3, 1) := by decide +kernel
theorem dX11_powers_38 : decode cX11_powers 38 = .ok (.ireturn, 1) := by decide +kernel
theorem dX11_power_0 : decode cX11_power 0 = .ok (.iconst 1, 1) := by decide +kernel
theorem dX11_power_1 : decode cX11_power 1 = .ok (.istore_n 2, 1) := by decide +kernel
theorem dX11_power_2 : decode cX11_power 2 = .ok (.iconst 0, 1) := by decide +kernel
theorem dX11_power_3 : decode cX11_power 3 = .ok (.istore_n 3, 1) := by decide +kernel
theorem dX11_power_4 : decode cX11_power 4 = .ok (.iload_n 3, 1) := by decide +kernel
theorem dX11_power_5 : decode cX11_power 5 = .ok (.iload_n 1, 1) := by decide +kernel
theorem dX11_power_6 : decode cX11_power 6 = .ok (.if_icmp .ge 13, 3) := by decide +kernel
theorem dX11_power_9 : decode cX11_power 9 = .ok (.iload_n 2, 1) := by decide +kernel
theorem dX11_power_10 : decode cX11_power 10 = .ok (.iload_n 0, 1) := by decide +kernel
theorem dX11_power_11 : decode cX11_power 11 = .ok (.imul, 1) := by decide +kernel
theorem dX11_power_12 : decode cX11_power 12 = .ok (.istore_n 2, 1) := by decide +kernel
theorem dX11_power_13 : decode cX11_power 13 = .ok (.iinc 3 1, 3) := by decide +kernel
theorem dX11_power_16 : decode cX11_power 16 = .ok (.goto (-12), 3) := by decide +kernel
theorem dX11_power_19 : decode cX11_power 19 = .ok (.iload_n 2, 1) := by decide +kernel
theorem dX11_power_20 : decode cX11_power 20 = .ok (.ireturn, 1) := by decide +kernel
theorem dX11_bothRule_0 : decode cX11_bothRule 0 = .ok (.aload_n 0, 1) := by decide +kernel
theorem dX11_bothRule_1 : decode cX11_bothRule 1 = .ok (.getfield 13, 3) := by decide +kernel
theorem dX11_bothRule_4 : decode cX11_bothRule 4 = .ok (.iconst 4, 1) := by decide +kernel
theorem dX11_bothRule_5 : decode cX11_bothRule 5 = .ok (.iload_n 1, 1) := by decide +kernel
theorem dX11_bothRule_6 : decode cX11_bothRule 6 = .ok (.imul, 1) := by decide +kernel
theorem dX11_bothRule_7 : decode cX11_bothRule 7 = .ok (.iaload, 1) := by decide +kernel
theorem dX11_bothRule_8 : decode cX11_bothRule 8 = .ok (.istore_n 3, 1) := by decide +kernel
theorem dX11_bothRule_9 : decode cX11_bothRule 9 = .ok (.aload_n 0, 1) := by decide +kernel
theorem dX11_bothRule_10 : decode cX11_bothRule 10 = .ok (.getfield 13, 3) := by decide +kernel
theorem dX11_bothRule_13 : decode cX11_bothRule 13 = .ok (.iconst 4, 1) := by decide +kernel
theorem dX11_bothRule_14 : decode cX11_bothRule 14 = .ok (.iload_n 1, 1) := by decide +kernel
theorem dX11_bothRule_15 : decode cX11_bothRule 15 = .ok (.imul, 1) := by decide +kernel
theorem dX11_bothRule_16 : decode cX11_bothRule 16 = .ok (.iconst 1, 1) := by decide +kernel
theorem dX11_bothRule_17 : decode cX11_bothRule 17 = .ok (.iadd, 1) := by decide +kernel
theorem dX11_bothRule_18 : decode cX11_bothRule 18 = .ok (.iaload, 1) := by decide +kernel
theorem dX11_bothRule_19 : decode cX11_bothRule 19 = .ok (.istore 4, 2) := by decide +kernel
theorem dX11_bothRule_21 : decode cX11_bothRule 21 = .ok (.aload_n 0, 1) := by decide +kernel
theorem dX11_bothRule_22 : decode cX11_bothRule 22 = .ok (.getfield 13, 3) := by decide +kernel
theorem dX11_bothRule_25 : decode cX11_bothRule 25 = .ok (.iconst 4, 1) := by decide +kernel
theorem dX11_bothRule_26 : decode cX11_bothRule 26 = .ok (.iload_n 3, 1) := by decide +kernel
theorem dX11_bothRule_27 : decode cX11_bothRule 27 = .ok (.imul, 1) := by decide +kernel
theorem dX11_bothRule_28 : decode cX11_bothRule 28 = .ok (.iaload, 1) := by decide +kernel
theorem dX11_bothRule_29 : decode cX11_bothRule 29 = .ok (.istore 5, 2) := by decide +kernel
theorem dX11_bothRule_31 : decode cX11_bothRule 31 = .ok (.aload_n 0, 1) := by decide +kernel
theorem dX11_bothRule_32 : decode cX11_bothRule 32 = .ok (.getfield 13, 3) := by decide +kernel
theorem dX11_bothRule_35 : decode cX11_bothRule 35 = .ok (.iconst 4, 1) := by decide +kernel
theorem dX11_bothRule_36 : decode cX11_bothRule 36 = .ok (.iload_n 3, 1) := by decide +kernel
theorem dX11_bothRule_37 : decode cX11_bothRule 37 = .ok (.imul, 1) := by decide +kernel
theorem dX11_bothRule_38 : decode cX11_bothRule 38 = .ok (.iconst 1, 1) := by decide +kernel
theorem dX11_bothRule_39 : decode cX11_bothRule 39 = .ok (.iadd, 1) := by decide +kernel
theorem dX11_bothRule_40 : decode cX11_bothRule 40 = .ok (.iaload, 1) := by decide +kernel
theorem dX11_bothRule_41 : decode cX11_bothRule 41 = .ok (.istore 6, 2) := by decide +kernel
theorem dX11_bothRule_43 : decode cX11_bothRule 43 = .ok (.aload_n 0, 1) := by decide +kernel
theorem dX11_bothRule_44 : decode cX11_bothRule 44 = .ok (.getfield 13, 3) := by decide +kernel
theorem dX11_bothRule_47 : decode cX11_bothRule 47 = .ok (.iconst 4, 1) := by decide +kernel
theorem dX11_bothRule_48 : decode cX11_bothRule 48 = .ok (.iload 4, 2) := by decide +kernel
theorem dX11_bothRule_50 : decode cX11_bothRule 50 = .ok (.imul, 1) := by decide +kernel
theorem dX11_bothRule_51 : decode cX11_bothRule 51 = .ok (.iaload, 1) := by decide +kernel
theorem dX11_bothRule_52 : decode cX11_bothRule 52 = .ok (.istore 7, 2) := by decide +kernel
theorem dX11_bothRule_54 : decode cX11_bothRule 54 = .ok (.aload_n 0, 1) := by decide +kernel
theorem dX11_bothRule_55 : decode cX11_bothRule 55 = .ok (.getfield 13, 3) := by decide +kernel
theorem dX11_bothRule_58 : decode cX11_bothRule 58 = .ok (.iconst 4, 1) := by decide +kernel
theorem dX11_bothRule_59 : decode cX11_bothRule 59 = .ok (.iload 4, 2) := by decide +kernel
theorem dX11_bothRule_61 : decode cX11_bothRule 61 = .ok (.imul, 1) := by decide +kernel
theorem dX11_bothRule_62 : decode cX11_bothRule 62 = .ok (.iconst 1, 1) := by decide +kernel
theorem dX11_bothRule_63 : decode cX11_bothRule 63 = .ok (.iadd, 1) := by decide +kernel
theorem dX11_bothRule_64 : decode cX11_bothRule 64 = .ok (.iaload, 1) := by decide +kernel
theorem dX11_bothRule_65 : decode cX11_bothRule 65 = .ok (.istore 8, 2) := by decide +kernel
theorem dX11_bothRule_67 : decode cX11_bothRule 67 = .ok (.aload_n 0, 1) := by decide +kernel
theorem dX11_bothRule_68 : decode cX11_bothRule 68 = .ok (.getfield 7, 3) := by decide +kernel
theorem dX11_bothRule_71 : decode cX11_bothRule 71 = .ok (.iload_n 1, 1) := by decide +kernel
theorem dX11_bothRule_72 : decode cX11_bothRule 72 = .ok (.iaload, 1) := by decide +kernel
theorem dX11_bothRule_73 : decode cX11_bothRule 73 = .ok (.iconst 1, 1) := by decide +kernel
theorem dX11_bothRule_74 : decode cX11_bothRule 74 = .ok (.if_icmp .ne 7, 3) := by decide +kernel
theorem dX11_bothRule_77 : decode cX11_bothRule 77 = .ok (.iconst 1, 1) := by decide +kernel
theorem dX11_bothRule_78 : decode cX11_bothRule 78 = .ok (.goto 4, 3) := by decide +kernel
theorem dX11_bothRule_81 : decode cX11_bothRule 81 = .ok (.iconst 0, 1) := by decide +kernel
theorem dX11_bothRule_82 : decode cX11_bothRule 82 = .ok (.istore 9, 2) := by decide +kernel
theorem dX11_bothRule_84 : decode cX11_bothRule 84 = .ok (.iload_n 2, 1) := by decide +kernel
theorem dX11_bothRule_85 : decode cX11_bothRule 85 = .ok (.tableswitch 123 1 3 #[27, 46, 91], 27) := by decide +kernel
theorem dX11_bothRule_112 : decode cX11_bothRule 112 = .ok (.iload 9, 2) := by decide +kernel
theorem dX11_bothRule_114 : decode cX11_bothRule 114 = .ok (.ifCond .eq 11, 3) := by decide +kernel
theorem dX11_bothRule_117 : decode cX11_bothRule 117 = .ok (.iload 5, 2) := by decide +kernel
theorem dX11_bothRule_119 : decode cX11_bothRule 119 = .ok (.iload 7, 2) := by decide +kernel
theorem dX11_bothRule_121 : decode cX11_bothRule 121 = .ok (.iadd, 1) := by decide +kernel
theorem dX11_bothRule_122 : decode cX11_bothRule 122 = .ok (.goto 8, 3) := by decide +kernel
theorem dX11_bothRule_125 : decode cX11_bothRule 125 = .ok (.iload 5, 2) := by decide +kernel
theorem dX11_bothRule_127 : decode cX11_bothRule 127 = .ok (.iload 7, 2) := by decide +kernel
theorem dX11_bothRule_129 : decode cX11_bothRule 129 = .ok (.imul, 1) := by decide +kernel
theorem dX11_bothRule_130 : decode cX11_bothRule 130 = .ok (.ireturn, 1) := by decide +kernel
theorem dX11_bothRule_131 : decode cX11_bothRule 131 = .ok (.iload 9, 2) := by decide +kernel
theorem dX11_bothRule_133 : decode cX11_bothRule 133 = .ok (.ifCond .eq 17, 3) := by decide +kernel
theorem dX11_bothRule_136 : decode cX11_bothRule 136 = .ok (.iload 6, 2) := by decide +kernel
theorem dX11_bothRule_138 : decode cX11_bothRule 138 = .ok (.iload 8, 2) := by decide +kernel
theorem dX11_bothRule_140 : decode cX11_bothRule 140 = .ok (.iadd, 1) := by decide +kernel
theorem dX11_bothRule_141 : decode cX11_bothRule 141 = .ok (.iload 5, 2) := by decide +kernel
theorem dX11_bothRule_143 : decode cX11_bothRule 143 = .ok (.iload 7, 2) := by decide +kernel
theorem dX11_bothRule_145 : decode cX11_bothRule 145 = .ok (.imul, 1) := by decide +kernel
theorem dX11_bothRule_146 : decode cX11_bothRule 146 = .ok (.isub, 1) := by decide +kernel
theorem dX11_bothRule_147 : decode cX11_bothRule 147 = .ok (.goto 28, 3) := by decide +kernel
theorem dX11_bothRule_150 : decode cX11_bothRule 150 = .ok (.iload 5, 2) := by decide +kernel
theorem dX11_bothRule_152 : decode cX11_bothRule 152 = .ok (.iload 5, 2) := by decide +kernel
theorem dX11_bothRule_154 : decode cX11_bothRule 154 = .ok (.imul, 1) := by decide +kernel
theorem dX11_bothRule_155 : decode cX11_bothRule 155 = .ok (.iload 8, 2) := by decide +kernel
theorem dX11_bothRule_157 : decode cX11_bothRule 157 = .ok (.imul, 1) := by decide +kernel
theorem dX11_bothRule_158 : decode cX11_bothRule 158 = .ok (.iload 7, 2) := by decide +kernel
theorem dX11_bothRule_160 : decode cX11_bothRule 160 = .ok (.iload 7, 2) := by decide +kernel
theorem dX11_bothRule_162 : decode cX11_bothRule 162 = .ok (.imul, 1) := by decide +kernel
theorem dX11_bothRule_163 : decode cX11_bothRule 163 = .ok (.iload 6, 2) := by decide +kernel
theorem dX11_bothRule_165 : decode cX11_bothRule 165 = .ok (.imul, 1) := by decide +kernel
theorem dX11_bothRule_166 : decode cX11_bothRule 166 = .ok (.iadd, 1) := by decide +kernel
theorem dX11_bothRule_167 : decode cX11_bothRule 167 = .ok (.iconst 2, 1) := by decide +kernel
theorem dX11_bothRule_168 : decode cX11_bothRule 168 = .ok (.iload 6, 2) := by decide +kernel
theorem dX11_bothRule_170 : decode cX11_bothRule 170 = .ok (.imul, 1) := by decide +kernel
theorem dX11_bothRule_171 : decode cX11_bothRule 171 = .ok (.iload 8, 2) := by decide +kernel
theorem dX11_bothRule_173 : decode cX11_bothRule 173 = .ok (.imul, 1) := by decide +kernel
theorem dX11_bothRule_174 : decode cX11_bothRule 174 = .ok (.iadd, 1) := by decide +kernel
theorem dX11_bothRule_175 : decode cX11_bothRule 175 = .ok (.ireturn, 1) := by decide +kernel
theorem dX11_bothRule_176 : decode cX11_bothRule 176 = .ok (.iload 9, 2) := by decide +kernel
theorem dX11_bothRule_178 : decode cX11_bothRule 178 = .ok (.ifCond .eq 18, 3) := by decide +kernel
theorem dX11_bothRule_181 : decode cX11_bothRule 181 = .ok (.iload 5, 2) := by decide +kernel
theorem dX11_bothRule_183 : decode cX11_bothRule 183 = .ok (.ineg, 1) := by decide +kernel
theorem dX11_bothRule_184 : decode cX11_bothRule 184 = .ok (.iload 8, 2) := by decide +kernel
theorem dX11_bothRule_186 : decode cX11_bothRule 186 = .ok (.imul, 1) := by decide +kernel
theorem dX11_bothRule_187 : decode cX11_bothRule 187 = .ok (.iload 7, 2) := by decide +kernel
theorem dX11_bothRule_189 : decode cX11_bothRule 189 = .ok (.iload 6, 2) := by decide +kernel
theorem dX11_bothRule_191 : decode cX11_bothRule 191 = .ok (.imul, 1) := by decide +kernel
theorem dX11_bothRule_192 : decode cX11_bothRule 192 = .ok (.isub, 1) := by decide +kernel
theorem dX11_bothRule_193 : decode cX11_bothRule 193 = .ok (.goto 14, 3) := by decide +kernel
theorem dX11_bothRule_196 : decode cX11_bothRule 196 = .ok (.iload 5, 2) := by decide +kernel
theorem dX11_bothRule_198 : decode cX11_bothRule 198 = .ok (.iload 7, 2) := by decide +kernel
theorem dX11_bothRule_200 : decode cX11_bothRule 200 = .ok (.imul, 1) := by decide +kernel
theorem dX11_bothRule_201 : decode cX11_bothRule 201 = .ok (.iload 6, 2) := by decide +kernel
theorem dX11_bothRule_203 : decode cX11_bothRule 203 = .ok (.imul, 1) := by decide +kernel
theorem dX11_bothRule_204 : decode cX11_bothRule 204 = .ok (.iload 8, 2) := by decide +kernel
theorem dX11_bothRule_206 : decode cX11_bothRule 206 = .ok (.imul, 1) := by decide +kernel
theorem dX11_bothRule_207 : decode cX11_bothRule 207 = .ok (.ireturn, 1) := by decide +kernel
theorem dX11_bothRule_208 : decode cX11_bothRule 208 = .ok (.iload 9, 2) := by decide +kernel
theorem dX11_bothRule_210 : decode cX11_bothRule 210 = .ok (.ifCond .eq 12, 3) := by decide +kernel
theorem dX11_bothRule_213 : decode cX11_bothRule 213 = .ok (.iload 6, 2) := by decide +kernel
theorem dX11_bothRule_215 : decode cX11_bothRule 215 = .ok (.ineg, 1) := by decide +kernel
theorem dX11_bothRule_216 : decode cX11_bothRule 216 = .ok (.iload 8, 2) := by decide +kernel
theorem dX11_bothRule_218 : decode cX11_bothRule 218 = .ok (.imul, 1) := by decide +kernel
theorem dX11_bothRule_219 : decode cX11_bothRule 219 = .ok (.goto 15, 3) := by decide +kernel
theorem dX11_bothRule_222 : decode cX11_bothRule 222 = .ok (.iload 6, 2) := by decide +kernel
theorem dX11_bothRule_224 : decode cX11_bothRule 224 = .ok (.ineg, 1) := by decide +kernel
theorem dX11_bothRule_225 : decode cX11_bothRule 225 = .ok (.iload 6, 2) := by decide +kernel
theorem dX11_bothRule_227 : decode cX11_bothRule 227 = .ok (.imul, 1) := by decide +kernel
theorem dX11_bothRule_228 : decode cX11_bothRule 228 = .ok (.iload 8, 2) := by decide +kernel
theorem dX11_bothRule_230 : decode cX11_bothRule 230 = .ok (.imul, 1) := by decide +kernel
theorem dX11_bothRule_231 : decode cX11_bothRule 231 = .ok (.iload 8, 2) := by decide +kernel
theorem dX11_bothRule_233 : decode cX11_bothRule 233 = .ok (.imul, 1) := by decide +kernel
theorem dX11_bothRule_234 : decode cX11_bothRule 234 = .ok (.ireturn, 1) := by decide +kernel
theorem dX11_twoRule_0 : decode cX11_twoRule 0 = .ok (.iload_n 2, 1) := by decide +kernel
theorem dX11_twoRule_1 : decode cX11_twoRule 1 = .ok (.iconst 2, 1) := by decide +kernel
theorem dX11_twoRule_2 : decode cX11_twoRule 2 = .ok (.if_icmp .le 5, 3) := by decide +kernel
theorem dX11_twoRule_5 : decode cX11_twoRule 5 = .ok (.iconst 0, 1) := by decide +kernel
theorem dX11_twoRule_6 : decode cX11_twoRule 6 = .ok (.ireturn, 1) := by decide +kernel
theorem dX11_twoRule_7 : decode cX11_twoRule 7 = .ok (.aload_n 0, 1) := by decide +kernel
theorem dX11_twoRule_8 : decode cX11_twoRule 8 = .ok (.getfield 7, 3) := by decide +kernel
theorem dX11_twoRule_11 : decode cX11_twoRule 11 = .ok (.iload_n 1, 1) := by decide +kernel
theorem dX11_twoRule_12 : decode cX11_twoRule 12 = .ok (.iaload, 1) := by decide +kernel
theorem dX11_twoRule_13 : decode cX11_twoRule 13 = .ok (.ifCond .ne 7, 3) := by decide +kernel
theorem dX11_twoRule_16 : decode cX11_twoRule 16 = .ok (.iload_n 1, 1) := by decide +kernel
theorem dX11_twoRule_17 : decode cX11_twoRule 17 = .ok (.goto 11, 3) := by decide +kernel
theorem dX11_twoRule_20 : decode cX11_twoRule 20 = .ok (.aload_n 0, 1) := by decide +kernel
theorem dX11_twoRule_21 : decode cX11_twoRule 21 = .ok (.getfield 13, 3) := by decide +kernel
theorem dX11_twoRule_24 : decode cX11_twoRule 24 = .ok (.iconst 4, 1) := by decide +kernel
theorem dX11_twoRule_25 : decode cX11_twoRule 25 = .ok (.iload_n 1, 1) := by decide +kernel
theorem dX11_twoRule_26 : decode cX11_twoRule 26 = .ok (.imul, 1) := by decide +kernel
theorem dX11_twoRule_27 : decode cX11_twoRule 27 = .ok (.iaload, 1) := by decide +kernel
theorem dX11_twoRule_28 : decode cX11_twoRule 28 = .ok (.istore_n 3, 1) := by decide +kernel
theorem dX11_twoRule_29 : decode cX11_twoRule 29 = .ok (.aload_n 0, 1) := by decide +kernel
theorem dX11_twoRule_30 : decode cX11_twoRule 30 = .ok (.getfield 13, 3) := by decide +kernel
theorem dX11_twoRule_33 : decode cX11_twoRule 33 = .ok (.iconst 4, 1) := by decide +kernel
theorem dX11_twoRule_34 : decode cX11_twoRule 34 = .ok (.iload_n 3, 1) := by decide +kernel
theorem dX11_twoRule_35 : decode cX11_twoRule 35 = .ok (.imul, 1) := by decide +kernel
theorem dX11_twoRule_36 : decode cX11_twoRule 36 = .ok (.iaload, 1) := by decide +kernel
theorem dX11_twoRule_37 : decode cX11_twoRule 37 = .ok (.istore 4, 2) := by decide +kernel
theorem dX11_twoRule_39 : decode cX11_twoRule 39 = .ok (.aload_n 0, 1) := by decide +kernel
theorem dX11_twoRule_40 : decode cX11_twoRule 40 = .ok (.getfield 13, 3) := by decide +kernel
theorem dX11_twoRule_43 : decode cX11_twoRule 43 = .ok (.iconst 4, 1) := by decide +kernel
theorem dX11_twoRule_44 : decode cX11_twoRule 44 = .ok (.iload_n 3, 1) := by decide +kernel
theorem dX11_twoRule_45 : decode cX11_twoRule 45 = .ok (.imul, 1) := by decide +kernel
theorem dX11_twoRule_46 : decode cX11_twoRule 46 = .ok (.iconst 1, 1) := by decide +kernel
theorem dX11_twoRule_47 : decode cX11_twoRule 47 = .ok (.iadd, 1) := by decide +kernel
theorem dX11_twoRule_48 : decode cX11_twoRule 48 = .ok (.iaload, 1) := by decide +kernel
theorem dX11_twoRule_49 : decode cX11_twoRule 49 = .ok (.istore 5, 2) := by decide +kernel
theorem dX11_twoRule_51 : decode cX11_twoRule 51 = .ok (.aload_n 0, 1) := by decide +kernel
theorem dX11_twoRule_52 : decode cX11_twoRule 52 = .ok (.getfield 7, 3) := by decide +kernel
theorem dX11_twoRule_55 : decode cX11_twoRule 55 = .ok (.iload_n 1, 1) := by decide +kernel
theorem dX11_twoRule_56 : decode cX11_twoRule 56 = .ok (.iaload, 1) := by decide +kernel
theorem dX11_twoRule_57 : decode cX11_twoRule 57 = .ok (.iconst 3, 1) := by decide +kernel
theorem dX11_twoRule_58 : decode cX11_twoRule 58 = .ok (.if_icmp .ne 16, 3) := by decide +kernel
theorem dX11_twoRule_61 : decode cX11_twoRule 61 = .ok (.aload_n 0, 1) := by decide +kernel
theorem dX11_twoRule_62 : decode cX11_twoRule 62 = .ok (.getfield 13, 3) := by decide +kernel
theorem dX11_twoRule_65 : decode cX11_twoRule 65 = .ok (.iconst 4, 1) := by decide +kernel
theorem dX11_twoRule_66 : decode cX11_twoRule 66 = .ok (.iload_n 1, 1) := by decide +kernel
theorem dX11_twoRule_67 : decode cX11_twoRule 67 = .ok (.imul, 1) := by decide +kernel
theorem dX11_twoRule_68 : decode cX11_twoRule 68 = .ok (.iconst 1, 1) := by decide +kernel
theorem dX11_twoRule_69 : decode cX11_twoRule 69 = .ok (.iadd, 1) := by decide +kernel
theorem dX11_twoRule_70 : decode cX11_twoRule 70 = .ok (.iaload, 1) := by decide +kernel
theorem dX11_twoRule_71 : decode cX11_twoRule 71 = .ok (.goto 4, 3) := by decide +kernel
theorem dX11_twoRule_74 : decode cX11_twoRule 74 = .ok (.iconst 1, 1) := by decide +kernel
theorem dX11_twoRule_75 : decode cX11_twoRule 75 = .ok (.istore 6, 2) := by decide +kernel
theorem dX11_twoRule_77 : decode cX11_twoRule 77 = .ok (.iload_n 2, 1) := by decide +kernel
theorem dX11_twoRule_78 : decode cX11_twoRule 78 = .ok (.iconst 1, 1) := by decide +kernel
theorem dX11_twoRule_79 : decode cX11_twoRule 79 = .ok (.if_icmp .ne 15, 3) := by decide +kernel
theorem dX11_twoRule_82 : decode cX11_twoRule 82 = .ok (.iload 4, 2) := by decide +kernel
theorem dX11_twoRule_84 : decode cX11_twoRule 84 = .ok (.iload 5, 2) := by decide +kernel
theorem dX11_twoRule_86 : decode cX11_twoRule 86 = .ok (.iload 6, 2) := by decide +kernel
theorem dX11_twoRule_88 : decode cX11_twoRule 88 = .ok (.invokestatic 248, 3) := by decide +kernel
theorem dX11_twoRule_91 : decode cX11_twoRule 91 = .ok (.goto 12, 3) := by decide +kernel
theorem dX11_twoRule_94 : decode cX11_twoRule 94 = .ok (.iload 5, 2) := by decide +kernel
theorem dX11_twoRule_96 : decode cX11_twoRule 96 = .ok (.ineg, 1) := by decide +kernel
theorem dX11_twoRule_97 : decode cX11_twoRule 97 = .ok (.iload 6, 2) := by decide +kernel
theorem dX11_twoRule_99 : decode cX11_twoRule 99 = .ok (.invokestatic 251, 3) := by decide +kernel
theorem dX11_twoRule_102 : decode cX11_twoRule 102 = .ok (.ineg, 1) := by decide +kernel
theorem dX11_twoRule_103 : decode cX11_twoRule 103 = .ok (.ireturn, 1) := by decide +kernel
theorem dX11_ruleNow_0 : decode cX11_ruleNow 0 = .ok (.aload_n 0, 1) := by decide +kernel
theorem dX11_ruleNow_1 : decode cX11_ruleNow 1 = .ok (.getfield 7, 3) := by decide +kernel
theorem dX11_ruleNow_4 : decode cX11_ruleNow 4 = .ok (.iload_n 1, 1) := by decide +kernel
theorem dX11_ruleNow_5 : decode cX11_ruleNow 5 = .ok (.iaload, 1) := by decide +kernel
theorem dX11_ruleNow_6 : decode cX11_ruleNow 6 = .ok (.iconst 1, 1) := by decide +kernel
theorem dX11_ruleNow_7 : decode cX11_ruleNow 7 = .ok (.if_icmp .eq 13, 3) := by decide +kernel
theorem dX11_ruleNow_10 : decode cX11_ruleNow 10 = .ok (.aload_n 0, 1) := by decide +kernel
theorem dX11_ruleNow_11 : decode cX11_ruleNow 11 = .ok (.getfield 7, 3) := by decide +kernel
theorem dX11_ruleNow_14 : decode cX11_ruleNow 14 = .ok (.iload_n 1, 1) := by decide +kernel
theorem dX11_ruleNow_15 : decode cX11_ruleNow 15 = .ok (.iaload, 1) := by decide +kernel
theorem dX11_ruleNow_16 : decode cX11_ruleNow 16 = .ok (.iconst 2, 1) := by decide +kernel
theorem dX11_ruleNow_17 : decode cX11_ruleNow 17 = .ok (.if_icmp .ne 7, 3) := by decide +kernel
theorem dX11_ruleNow_20 : decode cX11_ruleNow 20 = .ok (.iconst 1, 1) := by decide +kernel
theorem dX11_ruleNow_21 : decode cX11_ruleNow 21 = .ok (.goto 4, 3) := by decide +kernel
theorem dX11_ruleNow_24 : decode cX11_ruleNow 24 = .ok (.iconst 0, 1) := by decide +kernel
theorem dX11_ruleNow_25 : decode cX11_ruleNow 25 = .ok (.istore_n 3, 1) := by decide +kernel
theorem dX11_ruleNow_26 : decode cX11_ruleNow 26 = .ok (.iload_n 2, 1) := by decide +kernel
theorem dX11_ruleNow_27 : decode cX11_ruleNow 27 = .ok (.ifCond .ne 13, 3) := by decide +kernel
theorem dX11_ruleNow_30 : decode cX11_ruleNow 30 = .ok (.iload_n 3, 1) := by decide +kernel
theorem dX11_ruleNow_31 : decode cX11_ruleNow 31 = .ok (.ifCond .eq 7, 3) := by decide +kernel
theorem dX11_ruleNow_34 : decode cX11_ruleNow 34 = .ok (.iconst 4, 1) := by decide +kernel
theorem dX11_ruleNow_35 : decode cX11_ruleNow 35 = .ok (.goto 4, 3) := by decide +kernel
theorem dX11_ruleNow_38 : decode cX11_ruleNow 38 = .ok (.iconst 2, 1) := by decide +kernel
theorem dX11_ruleNow_39 : decode cX11_ruleNow 39 = .ok (.ireturn, 1) := by decide +kernel
theorem dX11_ruleNow_40 : decode cX11_ruleNow 40 = .ok (.iload_n 3, 1) := by decide +kernel
theorem dX11_ruleNow_41 : decode cX11_ruleNow 41 = .ok (.ifCond .eq 12, 3) := by decide +kernel
theorem dX11_ruleNow_44 : decode cX11_ruleNow 44 = .ok (.aload_n 0, 1) := by decide +kernel
theorem dX11_ruleNow_45 : decode cX11_ruleNow 45 = .ok (.iload_n 1, 1) := by decide +kernel
theorem dX11_ruleNow_46 : decode cX11_ruleNow 46 = .ok (.iload_n 2, 1) := by decide +kernel
theorem dX11_ruleNow_47 : decode cX11_ruleNow 47 = .ok (.invokevirtual 254, 3) := by decide +kernel
theorem dX11_ruleNow_50 : decode cX11_ruleNow 50 = .ok (.goto 9, 3) := by decide +kernel
theorem dX11_ruleNow_53 : decode cX11_ruleNow 53 = .ok (.aload_n 0, 1) := by decide +kernel
theorem dX11_ruleNow_54 : decode cX11_ruleNow 54 = .ok (.iload_n 1, 1) := by decide +kernel
theorem dX11_ruleNow_55 : decode cX11_ruleNow 55 = .ok (.iload_n 2, 1) := by decide +kernel
theorem dX11_ruleNow_56 : decode cX11_ruleNow 56 = .ok (.invokevirtual 257, 3) := by decide +kernel
theorem dX11_ruleNow_59 : decode cX11_ruleNow 59 = .ok (.ireturn, 1) := by decide +kernel
theorem dX11_rule_0 : decode cX11_rule 0 = .ok (.aload_n 0, 1) := by decide +kernel
theorem dX11_rule_1 : decode cX11_rule 1 = .ok (.iload_n 1, 1) := by decide +kernel
theorem dX11_rule_2 : decode cX11_rule 2 = .ok (.invokevirtual 193, 3) := by decide +kernel
theorem dX11_rule_5 : decode cX11_rule 5 = .ok (.ifCond .ne 6, 3) := by decide +kernel
theorem dX11_rule_8 : decode cX11_rule 8 = .ok (.ldc 196, 2) := by decide +kernel
theorem dX11_rule_10 : decode cX11_rule 10 = .ok (.ireturn, 1) := by decide +kernel
theorem dX11_rule_11 : decode cX11_rule 11 = .ok (.iload_n 2, 1) := by decide +kernel
theorem dX11_rule_12 : decode cX11_rule 12 = .ok (.iconst 0, 1) := by decide +kernel
theorem dX11_rule_13 : decode cX11_rule 13 = .ok (.iconst 4, 1) := by decide +kernel
theorem dX11_rule_14 : decode cX11_rule 14 = .ok (.invokestatic 68, 3) := by decide +kernel
theorem dX11_rule_17 : decode cX11_rule 17 = .ok (.ifCond .ne 6, 3) := by decide +kernel
theorem dX11_rule_20 : decode cX11_rule 20 = .ok (.ldc 72, 2) := by decide +kernel
theorem dX11_rule_22 : decode cX11_rule 22 = .ok (.ireturn, 1) := by decide +kernel
theorem dX11_rule_23 : decode cX11_rule 23 = .ok (.aload_n 0, 1) := by decide +kernel
theorem dX11_rule_24 : decode cX11_rule 24 = .ok (.iload_n 1, 1) := by decide +kernel
theorem dX11_rule_25 : decode cX11_rule 25 = .ok (.invokevirtual 245, 3) := by decide +kernel
theorem dX11_rule_28 : decode cX11_rule 28 = .ok (.ifCond .ne 11, 3) := by decide +kernel
theorem dX11_rule_31 : decode cX11_rule 31 = .ok (.aload_n 0, 1) := by decide +kernel
theorem dX11_rule_32 : decode cX11_rule 32 = .ok (.iload_n 1, 1) := by decide +kernel
theorem dX11_rule_33 : decode cX11_rule 33 = .ok (.invokevirtual 260, 3) := by decide +kernel
theorem dX11_rule_36 : decode cX11_rule 36 = .ok (.ifCond .eq 12, 3) := by decide +kernel
theorem dX11_rule_39 : decode cX11_rule 39 = .ok (.aload_n 0, 1) := by decide +kernel
theorem dX11_rule_40 : decode cX11_rule 40 = .ok (.iload_n 1, 1) := by decide +kernel
theorem dX11_rule_41 : decode cX11_rule 41 = .ok (.iload_n 2, 1) := by decide +kernel
theorem dX11_rule_42 : decode cX11_rule 42 = .ok (.invokevirtual 263, 3) := by decide +kernel
theorem dX11_rule_45 : decode cX11_rule 45 = .ok (.goto 5, 3) := by decide +kernel
theorem dX11_rule_48 : decode cX11_rule 48 = .ok (.ldc 115, 2) := by decide +kernel
theorem dX11_rule_50 : decode cX11_rule 50 = .ok (.ireturn, 1) := by decide +kernel
theorem dX11_spread_0 : decode cX11_spread 0 = .ok (.iload_n 0, 1) := by decide +kernel
theorem dX11_spread_1 : decode cX11_spread 1 = .ok (.iload_n 0, 1) := by decide +kernel
theorem dX11_spread_2 : decode cX11_spread 2 = .ok (.imul, 1) := by decide +kernel
theorem dX11_spread_3 : decode cX11_spread 3 = .ok (.iconst 4, 1) := by decide +kernel
theorem dX11_spread_4 : decode cX11_spread 4 = .ok (.iload_n 1, 1) := by decide +kernel
theorem dX11_spread_5 : decode cX11_spread 5 = .ok (.imul, 1) := by decide +kernel
theorem dX11_spread_6 : decode cX11_spread 6 = .ok (.iadd, 1) := by decide +kernel
theorem dX11_spread_7 : decode cX11_spread 7 = .ok (.ireturn, 1) := by decide +kernel
theorem dX11_wholeRoot_0 : decode cX11_wholeRoot 0 = .ok (.iconst 0, 1) := by decide +kernel
theorem dX11_wholeRoot_1 : decode cX11_wholeRoot 1 = .ok (.istore_n 1, 1) := by decide +kernel
theorem dX11_wholeRoot_2 : decode cX11_wholeRoot 2 = .ok (.iload_n 1, 1) := by decide +kernel
theorem dX11_wholeRoot_3 : decode cX11_wholeRoot 3 = .ok (.iload_n 1, 1) := by decide +kernel
theorem dX11_wholeRoot_4 : decode cX11_wholeRoot 4 = .ok (.imul, 1) := by decide +kernel
theorem dX11_wholeRoot_5 : decode cX11_wholeRoot 5 = .ok (.iload_n 0, 1) := by decide +kernel
theorem dX11_wholeRoot_6 : decode cX11_wholeRoot 6 = .ok (.if_icmp .ge 9, 3) := by decide +kernel
theorem dX11_wholeRoot_9 : decode cX11_wholeRoot 9 = .ok (.iinc 1 1, 3) := by decide +kernel
theorem dX11_wholeRoot_12 : decode cX11_wholeRoot 12 = .ok (.goto (-10), 3) := by decide +kernel
theorem dX11_wholeRoot_15 : decode cX11_wholeRoot 15 = .ok (.iload_n 1, 1) := by decide +kernel
theorem dX11_wholeRoot_16 : decode cX11_wholeRoot 16 = .ok (.iload_n 1, 1) := by decide +kernel
theorem dX11_wholeRoot_17 : decode cX11_wholeRoot 17 = .ok (.imul, 1) := by decide +kernel
theorem dX11_wholeRoot_18 : decode cX11_wholeRoot 18 = .ok (.iload_n 0, 1) := by decide +kernel
theorem dX11_wholeRoot_19 : decode cX11_wholeRoot 19 = .ok (.if_icmp .ne 7, 3) := by decide +kernel
theorem dX11_wholeRoot_22 : decode cX11_wholeRoot 22 = .ok (.iload_n 1, 1) := by decide +kernel
theorem dX11_wholeRoot_23 : decode cX11_wholeRoot 23 = .ok (.goto 5, 3) := by decide +kernel
theorem dX11_wholeRoot_26 : decode cX11_wholeRoot 26 = .ok (.ldc 54, 2) := by decide +kernel
theorem dX11_wholeRoot_28 : decode cX11_wholeRoot 28 = .ok (.ireturn, 1) := by decide +kernel
theorem dX11_degenerate_0 : decode cX11_degenerate 0 = .ok (.iload_n 1, 1) := by decide +kernel
theorem dX11_degenerate_1 : decode cX11_degenerate 1 = .ok (.ifCond .eq 11, 3) := by decide +kernel
theorem dX11_degenerate_4 : decode cX11_degenerate 4 = .ok (.iload_n 0, 1) := by decide +kernel
theorem dX11_degenerate_5 : decode cX11_degenerate 5 = .ok (.iload_n 1, 1) := by decide +kernel
theorem dX11_degenerate_6 : decode cX11_degenerate 6 = .ok (.invokestatic 266, 3) := by decide +kernel
theorem dX11_degenerate_9 : decode cX11_degenerate 9 = .ok (.ifCond .ne 5, 3) := by decide +kernel
theorem dX11_degenerate_12 : decode cX11_degenerate 12 = .ok (.iconst 0, 1) := by decide +kernel
theorem dX11_degenerate_13 : decode cX11_degenerate 13 = .ok (.ireturn, 1) := by decide +kernel
theorem dX11_degenerate_14 : decode cX11_degenerate 14 = .ok (.lconst 0, 1) := by decide +kernel
theorem dX11_degenerate_15 : decode cX11_degenerate 15 = .ok (.lstore_n 2, 1) := by decide +kernel
theorem dX11_degenerate_16 : decode cX11_degenerate 16 = .ok (.lconst 1, 1) := by decide +kernel
theorem dX11_degenerate_17 : decode cX11_degenerate 17 = .ok (.lstore 4, 2) := by decide +kernel
theorem dX11_degenerate_19 : decode cX11_degenerate 19 = .ok (.iconst 1, 1) := by decide +kernel
theorem dX11_degenerate_20 : decode cX11_degenerate 20 = .ok (.istore 6, 2) := by decide +kernel
theorem dX11_degenerate_22 : decode cX11_degenerate 22 = .ok (.iload 6, 2) := by decide +kernel
theorem dX11_degenerate_24 : decode cX11_degenerate 24 = .ok (.bipush 12, 2) := by decide +kernel
theorem dX11_degenerate_26 : decode cX11_degenerate 26 = .ok (.if_icmp .gt 44, 3) := by decide +kernel
theorem dX11_degenerate_29 : decode cX11_degenerate 29 = .ok (.iload 6, 2) := by decide +kernel
theorem dX11_degenerate_31 : decode cX11_degenerate 31 = .ok (.iconst 1, 1) := by decide +kernel
theorem dX11_degenerate_32 : decode cX11_degenerate 32 = .ok (.if_icmp .le 13, 3) := by decide +kernel
theorem dX11_degenerate_35 : decode cX11_degenerate 35 = .ok (.lload 4, 2) := by decide +kernel
theorem dX11_degenerate_37 : decode cX11_degenerate 37 = .ok (.lconst 0, 1) := by decide +kernel
theorem dX11_degenerate_38 : decode cX11_degenerate 38 = .ok (.lcmp, 1) := by decide +kernel
theorem dX11_degenerate_39 : decode cX11_degenerate 39 = .ok (.ifCond .ne 6, 3) := by decide +kernel
theorem dX11_degenerate_42 : decode cX11_degenerate 42 = .ok (.iload 6, 2) := by decide +kernel
theorem dX11_degenerate_44 : decode cX11_degenerate 44 = .ok (.ireturn, 1) := by decide +kernel
theorem dX11_degenerate_45 : decode cX11_degenerate 45 = .ok (.iload_n 0, 1) := by decide +kernel
theorem dX11_degenerate_46 : decode cX11_degenerate 46 = .ok (.i2l, 1) := by decide +kernel
theorem dX11_degenerate_47 : decode cX11_degenerate 47 = .ok (.lload 4, 2) := by decide +kernel
theorem dX11_degenerate_49 : decode cX11_degenerate 49 = .ok (.lmul, 1) := by decide +kernel
theorem dX11_degenerate_50 : decode cX11_degenerate 50 = .ok (.iload_n 1, 1) := by decide +kernel
theorem dX11_degenerate_51 : decode cX11_degenerate 51 = .ok (.i2l, 1) := by decide +kernel
theorem dX11_degenerate_52 : decode cX11_degenerate 52 = .ok (.lload_n 2, 1) := by decide +kernel
theorem dX11_degenerate_53 : decode cX11_degenerate 53 = .ok (.lmul, 1) := by decide +kernel
theorem dX11_degenerate_54 : decode cX11_degenerate 54 = .ok (.ladd, 1) := by decide +kernel
theorem dX11_degenerate_55 : decode cX11_degenerate 55 = .ok (.lstore 7, 2) := by decide +kernel
theorem dX11_degenerate_57 : decode cX11_degenerate 57 = .ok (.lload 4, 2) := by decide +kernel
theorem dX11_degenerate_59 : decode cX11_degenerate 59 = .ok (.lstore_n 2, 1) := by decide +kernel
theorem dX11_degenerate_60 : decode cX11_degenerate 60 = .ok (.lload 7, 2) := by decide +kernel
theorem dX11_degenerate_62 : decode cX11_degenerate 62 = .ok (.lstore 4, 2) := by decide +kernel
theorem dX11_degenerate_64 : decode cX11_degenerate 64 = .ok (.iinc 6 1, 3) := by decide +kernel
theorem dX11_degenerate_67 : decode cX11_degenerate 67 = .ok (.goto (-45), 3) := by decide +kernel
theorem dX11_degenerate_70 : decode cX11_degenerate 70 = .ok (.iconst 0, 1) := by decide +kernel
theorem dX11_degenerate_71 : decode cX11_degenerate 71 = .ok (.ireturn, 1) := by decide +kernel
theorem dX11_rootsNow_0 : decode cX11_rootsNow 0 = .ok (.iload_n 0, 1) := by decide +kernel
theorem dX11_rootsNow_1 : decode cX11_rootsNow 1 = .ok (.iload_n 1, 1) := by decide +kernel
theorem dX11_rootsNow_2 : decode cX11_rootsNow 2 = .ok (.invokestatic 266, 3) := by decide +kernel
theorem dX11_rootsNow_5 : decode cX11_rootsNow 5 = .ok (.istore_n 3, 1) := by decide +kernel
theorem dX11_rootsNow_6 : decode cX11_rootsNow 6 = .ok (.iload_n 3, 1) := by decide +kernel
theorem dX11_rootsNow_7 : decode cX11_rootsNow 7 = .ok (.invokestatic 269, 3) := by decide +kernel
theorem dX11_rootsNow_10 : decode cX11_rootsNow 10 = .ok (.istore 4, 2) := by decide +kernel
theorem dX11_rootsNow_12 : decode cX11_rootsNow 12 = .ok (.iload_n 2, 1) := by decide +kernel
theorem dX11_rootsNow_13 : decode cX11_rootsNow 13 = .ok (.tableswitch 93 0 3 #[31, 49, 68, 87], 31) := by decide +kernel
theorem dX11_rootsNow_44 : decode cX11_rootsNow 44 = .ok (.iload_n 3, 1) := by decide +kernel
theorem dX11_rootsNow_45 : decode cX11_rootsNow 45 = .ok (.ifCond .le 7, 3) := by decide +kernel
theorem dX11_rootsNow_48 : decode cX11_rootsNow 48 = .ok (.iconst 2, 1) := by decide +kernel
theorem dX11_rootsNow_49 : decode cX11_rootsNow 49 = .ok (.goto 12, 3) := by decide +kernel
theorem dX11_rootsNow_52 : decode cX11_rootsNow 52 = .ok (.iload_n 3, 1) := by decide +kernel
theorem dX11_rootsNow_53 : decode cX11_rootsNow 53 = .ok (.ifCond .ne 7, 3) := by decide +kernel
theorem dX11_rootsNow_56 : decode cX11_rootsNow 56 = .ok (.iconst 1, 1) := by decide +kernel
theorem dX11_rootsNow_57 : decode cX11_rootsNow 57 = .ok (.goto 4, 3) := by decide +kernel
theorem dX11_rootsNow_60 : decode cX11_rootsNow 60 = .ok (.iconst 0, 1) := by decide +kernel
theorem dX11_rootsNow_61 : decode cX11_rootsNow 61 = .ok (.ireturn, 1) := by decide +kernel
theorem dX11_rootsNow_62 : decode cX11_rootsNow 62 = .ok (.iload 4, 2) := by decide +kernel
theorem dX11_rootsNow_64 : decode cX11_rootsNow 64 = .ok (.ldc 54, 2) := by decide +kernel
theorem dX11_rootsNow_66 : decode cX11_rootsNow 66 = .ok (.if_icmp .ne 8, 3) := by decide +kernel
theorem dX11_rootsNow_69 : decode cX11_rootsNow 69 = .ok (.ldc 54, 2) := by decide +kernel
theorem dX11_rootsNow_71 : decode cX11_rootsNow 71 = .ok (.goto 9, 3) := by decide +kernel
theorem dX11_rootsNow_74 : decode cX11_rootsNow 74 = .ok (.iload_n 0, 1) := by decide +kernel
theorem dX11_rootsNow_75 : decode cX11_rootsNow 75 = .ok (.iload 4, 2) := by decide +kernel
theorem dX11_rootsNow_77 : decode cX11_rootsNow 77 = .ok (.iadd, 1) := by decide +kernel
theorem dX11_rootsNow_78 : decode cX11_rootsNow 78 = .ok (.iconst 2, 1) := by decide +kernel
theorem dX11_rootsNow_79 : decode cX11_rootsNow 79 = .ok (.idiv, 1) := by decide +kernel
theorem dX11_rootsNow_80 : decode cX11_rootsNow 80 = .ok (.ireturn, 1) := by decide +kernel
theorem dX11_rootsNow_81 : decode cX11_rootsNow 81 = .ok (.iload 4, 2) := by decide +kernel
theorem dX11_rootsNow_83 : decode cX11_rootsNow 83 = .ok (.ldc 54, 2) := by decide +kernel
theorem dX11_rootsNow_85 : decode cX11_rootsNow 85 = .ok (.if_icmp .ne 8, 3) := by decide +kernel
theorem dX11_rootsNow_88 : decode cX11_rootsNow 88 = .ok (.ldc 54, 2) := by decide +kernel
theorem dX11_rootsNow_90 : decode cX11_rootsNow 90 = .ok (.goto 9, 3) := by decide +kernel
theorem dX11_rootsNow_93 : decode cX11_rootsNow 93 = .ok (.iload_n 0, 1) := by decide +kernel
theorem dX11_rootsNow_94 : decode cX11_rootsNow 94 = .ok (.iload 4, 2) := by decide +kernel
theorem dX11_rootsNow_96 : decode cX11_rootsNow 96 = .ok (.isub, 1) := by decide +kernel
theorem dX11_rootsNow_97 : decode cX11_rootsNow 97 = .ok (.iconst 2, 1) := by decide +kernel
theorem dX11_rootsNow_98 : decode cX11_rootsNow 98 = .ok (.idiv, 1) := by decide +kernel
theorem dX11_rootsNow_99 : decode cX11_rootsNow 99 = .ok (.ireturn, 1) := by decide +kernel
theorem dX11_rootsNow_100 : decode cX11_rootsNow 100 = .ok (.iload_n 0, 1) := by decide +kernel
theorem dX11_rootsNow_101 : decode cX11_rootsNow 101 = .ok (.iload_n 1, 1) := by decide +kernel
theorem dX11_rootsNow_102 : decode cX11_rootsNow 102 = .ok (.invokestatic 272, 3) := by decide +kernel
theorem dX11_rootsNow_105 : decode cX11_rootsNow 105 = .ok (.ireturn, 1) := by decide +kernel
theorem dX11_rootsNow_106 : decode cX11_rootsNow 106 = .ok (.iload_n 3, 1) := by decide +kernel
theorem dX11_rootsNow_107 : decode cX11_rootsNow 107 = .ok (.ifCond .le 7, 3) := by decide +kernel
theorem dX11_rootsNow_110 : decode cX11_rootsNow 110 = .ok (.iload_n 0, 1) := by decide +kernel
theorem dX11_rootsNow_111 : decode cX11_rootsNow 111 = .ok (.ifCond .ne 7, 3) := by decide +kernel
theorem dX11_rootsNow_114 : decode cX11_rootsNow 114 = .ok (.iconst 0, 1) := by decide +kernel
theorem dX11_rootsNow_115 : decode cX11_rootsNow 115 = .ok (.goto 12, 3) := by decide +kernel
theorem dX11_rootsNow_118 : decode cX11_rootsNow 118 = .ok (.iload_n 0, 1) := by decide +kernel
theorem dX11_rootsNow_119 : decode cX11_rootsNow 119 = .ok (.ifCond .le 7, 3) := by decide +kernel
theorem dX11_rootsNow_122 : decode cX11_rootsNow 122 = .ok (.iconst 1, 1) := by decide +kernel
theorem dX11_rootsNow_123 : decode cX11_rootsNow 123 = .ok (.goto 4, 3) := by decide +kernel
theorem dX11_rootsNow_126 : decode cX11_rootsNow 126 = .ok (.iconst (-1), 1) := by decide +kernel
theorem dX11_rootsNow_127 : decode cX11_rootsNow 127 = .ok (.ireturn, 1) := by decide +kernel
theorem dX11_roots_0 : decode cX11_roots 0 = .ok (.aload_n 0, 1) := by decide +kernel
theorem dX11_roots_1 : decode cX11_roots 1 = .ok (.iload_n 1, 1) := by decide +kernel
theorem dX11_roots_2 : decode cX11_roots 2 = .ok (.invokevirtual 193, 3) := by decide +kernel
theorem dX11_roots_5 : decode cX11_roots 5 = .ok (.ifCond .ne 6, 3) := by decide +kernel
theorem dX11_roots_8 : decode cX11_roots 8 = .ok (.ldc 196, 2) := by decide +kernel
theorem dX11_roots_10 : decode cX11_roots 10 = .ok (.ireturn, 1) := by decide +kernel
theorem dX11_roots_11 : decode cX11_roots 11 = .ok (.iload_n 2, 1) := by decide +kernel
theorem dX11_roots_12 : decode cX11_roots 12 = .ok (.iconst 0, 1) := by decide +kernel
theorem dX11_roots_13 : decode cX11_roots 13 = .ok (.iconst 4, 1) := by decide +kernel
theorem dX11_roots_14 : decode cX11_roots 14 = .ok (.invokestatic 68, 3) := by decide +kernel
theorem dX11_roots_17 : decode cX11_roots 17 = .ok (.ifCond .ne 6, 3) := by decide +kernel
theorem dX11_roots_20 : decode cX11_roots 20 = .ok (.ldc 72, 2) := by decide +kernel
theorem dX11_roots_22 : decode cX11_roots 22 = .ok (.ireturn, 1) := by decide +kernel
theorem dX11_roots_23 : decode cX11_roots 23 = .ok (.aload_n 0, 1) := by decide +kernel
theorem dX11_roots_24 : decode cX11_roots 24 = .ok (.iload_n 1, 1) := by decide +kernel
theorem dX11_roots_25 : decode cX11_roots 25 = .ok (.invokevirtual 245, 3) := by decide +kernel
theorem dX11_roots_28 : decode cX11_roots 28 = .ok (.ifCond .eq 28, 3) := by decide +kernel
theorem dX11_roots_31 : decode cX11_roots 31 = .ok (.aload_n 0, 1) := by decide +kernel
theorem dX11_roots_32 : decode cX11_roots 32 = .ok (.getfield 13, 3) := by decide +kernel
theorem dX11_roots_35 : decode cX11_roots 35 = .ok (.iconst 4, 1) := by decide +kernel
theorem dX11_roots_36 : decode cX11_roots 36 = .ok (.iload_n 1, 1) := by decide +kernel
theorem dX11_roots_37 : decode cX11_roots 37 = .ok (.imul, 1) := by decide +kernel
theorem dX11_roots_38 : decode cX11_roots 38 = .ok (.iaload, 1) := by decide +kernel
theorem dX11_roots_39 : decode cX11_roots 39 = .ok (.aload_n 0, 1) := by decide +kernel
theorem dX11_roots_40 : decode cX11_roots 40 = .ok (.getfield 13, 3) := by decide +kernel
theorem dX11_roots_43 : decode cX11_roots 43 = .ok (.iconst 4, 1) := by decide +kernel
theorem dX11_roots_44 : decode cX11_roots 44 = .ok (.iload_n 1, 1) := by decide +kernel
theorem dX11_roots_45 : decode cX11_roots 45 = .ok (.imul, 1) := by decide +kernel
theorem dX11_roots_46 : decode cX11_roots 46 = .ok (.iconst 1, 1) := by decide +kernel
theorem dX11_roots_47 : decode cX11_roots 47 = .ok (.iadd, 1) := by decide +kernel
theorem dX11_roots_48 : decode cX11_roots 48 = .ok (.iaload, 1) := by decide +kernel
theorem dX11_roots_49 : decode cX11_roots 49 = .ok (.iload_n 2, 1) := by decide +kernel
theorem dX11_roots_50 : decode cX11_roots 50 = .ok (.invokestatic 275, 3) := by decide +kernel
theorem dX11_roots_53 : decode cX11_roots 53 = .ok (.goto 5, 3) := by decide +kernel
theorem dX11_roots_56 : decode cX11_roots 56 = .ok (.ldc 115, 2) := by decide +kernel
theorem dX11_roots_58 : decode cX11_roots 58 = .ok (.ireturn, 1) := by decide +kernel
theorem dX11_noughtsOf_0 : decode cX11_noughtsOf 0 = .ok (.iconst 0, 1) := by decide +kernel
theorem dX11_noughtsOf_1 : decode cX11_noughtsOf 1 = .ok (.istore_n 2, 1) := by decide +kernel
theorem dX11_noughtsOf_2 : decode cX11_noughtsOf 2 = .ok (.iconst 0, 1) := by decide +kernel
theorem dX11_noughtsOf_3 : decode cX11_noughtsOf 3 = .ok (.istore_n 3, 1) := by decide +kernel
theorem dX11_noughtsOf_4 : decode cX11_noughtsOf 4 = .ok (.iload_n 3, 1) := by decide +kernel
theorem dX11_noughtsOf_5 : decode cX11_noughtsOf 5 = .ok (.bipush 24, 2) := by decide +kernel
theorem dX11_noughtsOf_7 : decode cX11_noughtsOf 7 = .ok (.if_icmp .ge 28, 3) := by decide +kernel
theorem dX11_noughtsOf_10 : decode cX11_noughtsOf 10 = .ok (.iload_n 2, 1) := by decide +kernel
theorem dX11_noughtsOf_11 : decode cX11_noughtsOf 11 = .ok (.aload_n 0, 1) := by decide +kernel
theorem dX11_noughtsOf_12 : decode cX11_noughtsOf 12 = .ok (.iload_n 1, 1) := by decide +kernel
theorem dX11_noughtsOf_13 : decode cX11_noughtsOf 13 = .ok (.iload_n 3, 1) := by decide +kernel
theorem dX11_noughtsOf_14 : decode cX11_noughtsOf 14 = .ok (.invokevirtual 201, 3) := by decide +kernel
theorem dX11_noughtsOf_17 : decode cX11_noughtsOf 17 = .ok (.ifCond .ne 9, 3) := by decide +kernel
theorem dX11_noughtsOf_20 : decode cX11_noughtsOf 20 = .ok (.iconst 1, 1) := by decide +kernel
theorem dX11_noughtsOf_21 : decode cX11_noughtsOf 21 = .ok (.iload_n 3, 1) := by decide +kernel
theorem dX11_noughtsOf_22 : decode cX11_noughtsOf 22 = .ok (.ishl, 1) := by decide +kernel
theorem dX11_noughtsOf_23 : decode cX11_noughtsOf 23 = .ok (.goto 4, 3) := by decide +kernel
theorem dX11_noughtsOf_26 : decode cX11_noughtsOf 26 = .ok (.iconst 0, 1) := by decide +kernel
theorem dX11_noughtsOf_27 : decode cX11_noughtsOf 27 = .ok (.ior, 1) := by decide +kernel
theorem dX11_noughtsOf_28 : decode cX11_noughtsOf 28 = .ok (.istore_n 2, 1) := by decide +kernel
theorem dX11_noughtsOf_29 : decode cX11_noughtsOf 29 = .ok (.iinc 3 1, 3) := by decide +kernel
theorem dX11_noughtsOf_32 : decode cX11_noughtsOf 32 = .ok (.goto (-28), 3) := by decide +kernel
theorem dX11_noughtsOf_35 : decode cX11_noughtsOf 35 = .ok (.iload_n 2, 1) := by decide +kernel
theorem dX11_noughtsOf_36 : decode cX11_noughtsOf 36 = .ok (.ireturn, 1) := by decide +kernel
theorem dX11_noughts_0 : decode cX11_noughts 0 = .ok (.aload_n 0, 1) := by decide +kernel
theorem dX11_noughts_1 : decode cX11_noughts 1 = .ok (.iload_n 1, 1) := by decide +kernel
theorem dX11_noughts_2 : decode cX11_noughts 2 = .ok (.invokevirtual 193, 3) := by decide +kernel
theorem dX11_noughts_5 : decode cX11_noughts 5 = .ok (.ifCond .eq 11, 3) := by decide +kernel
theorem dX11_noughts_8 : decode cX11_noughts 8 = .ok (.aload_n 0, 1) := by decide +kernel
theorem dX11_noughts_9 : decode cX11_noughts 9 = .ok (.iload_n 1, 1) := by decide +kernel
theorem dX11_noughts_10 : decode cX11_noughts 10 = .ok (.invokevirtual 278, 3) := by decide +kernel
theorem dX11_noughts_13 : decode cX11_noughts 13 = .ok (.goto 5, 3) := by decide +kernel
theorem dX11_noughts_16 : decode cX11_noughts 16 = .ok (.ldc 196, 2) := by decide +kernel
theorem dX11_noughts_18 : decode cX11_noughts 18 = .ok (.ireturn, 1) := by decide +kernel
theorem dX11_ends_0 : decode cX11_ends 0 = .ok (.aload_n 0, 1) := by decide +kernel
theorem dX11_ends_1 : decode cX11_ends 1 = .ok (.iload_n 1, 1) := by decide +kernel
theorem dX11_ends_2 : decode cX11_ends 2 = .ok (.invokevirtual 193, 3) := by decide +kernel
theorem dX11_ends_5 : decode cX11_ends 5 = .ok (.ifCond .ne 6, 3) := by decide +kernel
theorem dX11_ends_8 : decode cX11_ends 8 = .ok (.ldc 196, 2) := by decide +kernel
theorem dX11_ends_10 : decode cX11_ends 10 = .ok (.ireturn, 1) := by decide +kernel
theorem dX11_ends_11 : decode cX11_ends 11 = .ok (.iconst 2, 1) := by decide +kernel
theorem dX11_ends_12 : decode cX11_ends 12 = .ok (.istore_n 2, 1) := by decide +kernel
theorem dX11_ends_13 : decode cX11_ends 13 = .ok (.iload_n 2, 1) := by decide +kernel
theorem dX11_ends_14 : decode cX11_ends 14 = .ok (.bipush 10, 2) := by decide +kernel
theorem dX11_ends_16 : decode cX11_ends 16 = .ok (.if_icmp .gt 24, 3) := by decide +kernel
theorem dX11_ends_19 : decode cX11_ends 19 = .ok (.aload_n 0, 1) := by decide +kernel
theorem dX11_ends_20 : decode cX11_ends 20 = .ok (.iload_n 2, 1) := by decide +kernel
theorem dX11_ends_21 : decode cX11_ends 21 = .ok (.invokevirtual 204, 3) := by decide +kernel
theorem dX11_ends_24 : decode cX11_ends 24 = .ok (.aload_n 0, 1) := by decide +kernel
theorem dX11_ends_25 : decode cX11_ends 25 = .ok (.iload_n 1, 1) := by decide +kernel
theorem dX11_ends_26 : decode cX11_ends 26 = .ok (.invokevirtual 210, 3) := by decide +kernel
theorem dX11_ends_29 : decode cX11_ends 29 = .ok (.ifCond .ne 5, 3) := by decide +kernel
theorem dX11_ends_32 : decode cX11_ends 32 = .ok (.iload_n 2, 1) := by decide +kernel
theorem dX11_ends_33 : decode cX11_ends 33 = .ok (.ireturn, 1) := by decide +kernel
theorem dX11_ends_34 : decode cX11_ends 34 = .ok (.iinc 2 1, 3) := by decide +kernel
theorem dX11_ends_37 : decode cX11_ends 37 = .ok (.goto (-24), 3) := by decide +kernel
theorem dX11_ends_40 : decode cX11_ends 40 = .ok (.ldc 54, 2) := by decide +kernel
theorem dX11_ends_42 : decode cX11_ends 42 = .ok (.ireturn, 1) := by decide +kernel
theorem dX11_layOpen_0 : decode cX11_layOpen 0 = .ok (.iconst 0, 1) := by decide +kernel
theorem dX11_layOpen_1 : decode cX11_layOpen 1 = .ok (.istore_n 2, 1) := by decide +kernel
theorem dX11_layOpen_2 : decode cX11_layOpen 2 = .ok (.iload_n 2, 1) := by decide +kernel
theorem dX11_layOpen_3 : decode cX11_layOpen 3 = .ok (.sipush 1000, 3) := by decide +kernel
theorem dX11_layOpen_6 : decode cX11_layOpen 6 = .ok (.if_icmp .ge 16, 3) := by decide +kernel
theorem dX11_layOpen_9 : decode cX11_layOpen 9 = .ok (.aload_n 0, 1) := by decide +kernel
theorem dX11_layOpen_10 : decode cX11_layOpen 10 = .ok (.getfield 50, 3) := by decide +kernel
theorem dX11_layOpen_13 : decode cX11_layOpen 13 = .ok (.iload_n 2, 1) := by decide +kernel
theorem dX11_layOpen_14 : decode cX11_layOpen 14 = .ok (.iconst 1, 1) := by decide +kernel
theorem dX11_layOpen_15 : decode cX11_layOpen 15 = .ok (.bastore, 1) := by decide +kernel
theorem dX11_layOpen_16 : decode cX11_layOpen 16 = .ok (.iinc 2 1, 3) := by decide +kernel
theorem dX11_layOpen_19 : decode cX11_layOpen 19 = .ok (.goto (-17), 3) := by decide +kernel
theorem dX11_layOpen_22 : decode cX11_layOpen 22 = .ok (.iconst 2, 1) := by decide +kernel
theorem dX11_layOpen_23 : decode cX11_layOpen 23 = .ok (.istore_n 2, 1) := by decide +kernel
theorem dX11_layOpen_24 : decode cX11_layOpen 24 = .ok (.iload_n 2, 1) := by decide +kernel
theorem dX11_layOpen_25 : decode cX11_layOpen 25 = .ok (.bipush 10, 2) := by decide +kernel
theorem dX11_layOpen_27 : decode cX11_layOpen 27 = .ok (.if_icmp .gt 59, 3) := by decide +kernel
theorem dX11_layOpen_30 : decode cX11_layOpen 30 = .ok (.aload_n 0, 1) := by decide +kernel
theorem dX11_layOpen_31 : decode cX11_layOpen 31 = .ok (.iload_n 2, 1) := by decide +kernel
theorem dX11_layOpen_32 : decode cX11_layOpen 32 = .ok (.invokevirtual 204, 3) := by decide +kernel
theorem dX11_layOpen_35 : decode cX11_layOpen 35 = .ok (.iconst 0, 1) := by decide +kernel
theorem dX11_layOpen_36 : decode cX11_layOpen 36 = .ok (.istore_n 3, 1) := by decide +kernel
theorem dX11_layOpen_37 : decode cX11_layOpen 37 = .ok (.iload_n 3, 1) := by decide +kernel
theorem dX11_layOpen_38 : decode cX11_layOpen 38 = .ok (.sipush 1000, 3) := by decide +kernel
theorem dX11_layOpen_41 : decode cX11_layOpen 41 = .ok (.if_icmp .ge 39, 3) := by decide +kernel
theorem dX11_layOpen_44 : decode cX11_layOpen 44 = .ok (.aload_n 0, 1) := by decide +kernel
theorem dX11_layOpen_45 : decode cX11_layOpen 45 = .ok (.getfield 50, 3) := by decide +kernel
theorem dX11_layOpen_48 : decode cX11_layOpen 48 = .ok (.iload_n 3, 1) := by decide +kernel
theorem dX11_layOpen_49 : decode cX11_layOpen 49 = .ok (.aload_n 0, 1) := by decide +kernel
theorem dX11_layOpen_50 : decode cX11_layOpen 50 = .ok (.getfield 50, 3) := by decide +kernel
theorem dX11_layOpen_53 : decode cX11_layOpen 53 = .ok (.iload_n 3, 1) := by decide +kernel
theorem dX11_layOpen_54 : decode cX11_layOpen 54 = .ok (.baload, 1) := by decide +kernel
theorem dX11_layOpen_55 : decode cX11_layOpen 55 = .ok (.ifCond .eq 17, 3) := by decide +kernel
theorem dX11_layOpen_58 : decode cX11_layOpen 58 = .ok (.aload_n 0, 1) := by decide +kernel
theorem dX11_layOpen_59 : decode cX11_layOpen 59 = .ok (.iload_n 1, 1) := by decide +kernel
theorem dX11_layOpen_60 : decode cX11_layOpen 60 = .ok (.iload_n 3, 1) := by decide +kernel
theorem dX11_layOpen_61 : decode cX11_layOpen 61 = .ok (.i2l, 1) := by decide +kernel
theorem dX11_layOpen_62 : decode cX11_layOpen 62 = .ok (.invokevirtual 162, 3) := by decide +kernel
theorem dX11_layOpen_65 : decode cX11_layOpen 65 = .ok (.ifCond .ne 7, 3) := by decide +kernel
theorem dX11_layOpen_68 : decode cX11_layOpen 68 = .ok (.iconst 1, 1) := by decide +kernel
theorem dX11_layOpen_69 : decode cX11_layOpen 69 = .ok (.goto 4, 3) := by decide +kernel
theorem dX11_layOpen_72 : decode cX11_layOpen 72 = .ok (.iconst 0, 1) := by decide +kernel
theorem dX11_layOpen_73 : decode cX11_layOpen 73 = .ok (.bastore, 1) := by decide +kernel
theorem dX11_layOpen_74 : decode cX11_layOpen 74 = .ok (.iinc 3 1, 3) := by decide +kernel
theorem dX11_layOpen_77 : decode cX11_layOpen 77 = .ok (.goto (-40), 3) := by decide +kernel
theorem dX11_layOpen_80 : decode cX11_layOpen 80 = .ok (.iinc 2 1, 3) := by decide +kernel
theorem dX11_layOpen_83 : decode cX11_layOpen 83 = .ok (.goto (-59), 3) := by decide +kernel
theorem dX11_layOpen_86 : decode cX11_layOpen 86 = .ok (.return_, 1) := by decide +kernel
theorem dX11_openNow_0 : decode cX11_openNow 0 = .ok (.aload_n 0, 1) := by decide +kernel
theorem dX11_openNow_1 : decode cX11_openNow 1 = .ok (.iload_n 1, 1) := by decide +kernel
theorem dX11_openNow_2 : decode cX11_openNow 2 = .ok (.invokevirtual 281, 3) := by decide +kernel
theorem dX11_openNow_5 : decode cX11_openNow 5 = .ok (.iconst 0, 1) := by decide +kernel
theorem dX11_openNow_6 : decode cX11_openNow 6 = .ok (.istore_n 3, 1) := by decide +kernel
theorem dX11_openNow_7 : decode cX11_openNow 7 = .ok (.ldc 54, 2) := by decide +kernel
theorem dX11_openNow_9 : decode cX11_openNow 9 = .ok (.istore 4, 2) := by decide +kernel
theorem dX11_openNow_11 : decode cX11_openNow 11 = .ok (.iconst 0, 1) := by decide +kernel
theorem dX11_openNow_12 : decode cX11_openNow 12 = .ok (.istore 5, 2) := by decide +kernel
theorem dX11_openNow_14 : decode cX11_openNow 14 = .ok (.iload 5, 2) := by decide +kernel
theorem dX11_openNow_16 : decode cX11_openNow 16 = .ok (.sipush 1000, 3) := by decide +kernel
theorem dX11_openNow_19 : decode cX11_openNow 19 = .ok (.if_icmp .ge 46, 3) := by decide +kernel
theorem dX11_openNow_22 : decode cX11_openNow 22 = .ok (.iload_n 3, 1) := by decide +kernel
theorem dX11_openNow_23 : decode cX11_openNow 23 = .ok (.aload_n 0, 1) := by decide +kernel
theorem dX11_openNow_24 : decode cX11_openNow 24 = .ok (.getfield 50, 3) := by decide +kernel
theorem dX11_openNow_27 : decode cX11_openNow 27 = .ok (.iload 5, 2) := by decide +kernel
theorem dX11_openNow_29 : decode cX11_openNow 29 = .ok (.baload, 1) := by decide +kernel
theorem dX11_openNow_30 : decode cX11_openNow 30 = .ok (.ifCond .eq 7, 3) := by decide +kernel
theorem dX11_openNow_33 : decode cX11_openNow 33 = .ok (.iconst 1, 1) := by decide +kernel
theorem dX11_openNow_34 : decode cX11_openNow 34 = .ok (.goto 4, 3) := by decide +kernel
theorem dX11_openNow_37 : decode cX11_openNow 37 = .ok (.iconst 0, 1) := by decide +kernel
theorem dX11_openNow_38 : decode cX11_openNow 38 = .ok (.iadd, 1) := by decide +kernel
theorem dX11_openNow_39 : decode cX11_openNow 39 = .ok (.istore_n 3, 1) := by decide +kernel
theorem dX11_openNow_40 : decode cX11_openNow 40 = .ok (.aload_n 0, 1) := by decide +kernel
theorem dX11_openNow_41 : decode cX11_openNow 41 = .ok (.getfield 50, 3) := by decide +kernel
theorem dX11_openNow_44 : decode cX11_openNow 44 = .ok (.iload 5, 2) := by decide +kernel
theorem dX11_openNow_46 : decode cX11_openNow 46 = .ok (.baload, 1) := by decide +kernel
theorem dX11_openNow_47 : decode cX11_openNow 47 = .ok (.ifCond .eq 8, 3) := by decide +kernel
theorem dX11_openNow_50 : decode cX11_openNow 50 = .ok (.iload 5, 2) := by decide +kernel
theorem dX11_openNow_52 : decode cX11_openNow 52 = .ok (.goto 5, 3) := by decide +kernel
theorem dX11_openNow_55 : decode cX11_openNow 55 = .ok (.iload 4, 2) := by decide +kernel
theorem dX11_openNow_57 : decode cX11_openNow 57 = .ok (.istore 4, 2) := by decide +kernel
theorem dX11_openNow_59 : decode cX11_openNow 59 = .ok (.iinc 5 1, 3) := by decide +kernel
theorem dX11_openNow_62 : decode cX11_openNow 62 = .ok (.goto (-48), 3) := by decide +kernel
theorem dX11_openNow_65 : decode cX11_openNow 65 = .ok (.iload_n 2, 1) := by decide +kernel
theorem dX11_openNow_66 : decode cX11_openNow 66 = .ok (.ifCond .ne 7, 3) := by decide +kernel
theorem dX11_openNow_69 : decode cX11_openNow 69 = .ok (.iload_n 3, 1) := by decide +kernel
theorem dX11_openNow_70 : decode cX11_openNow 70 = .ok (.goto 5, 3) := by decide +kernel
theorem dX11_openNow_73 : decode cX11_openNow 73 = .ok (.iload 4, 2) := by decide +kernel
theorem dX11_openNow_75 : decode cX11_openNow 75 = .ok (.ireturn, 1) := by decide +kernel
theorem dX11_open_0 : decode cX11_open 0 = .ok (.aload_n 0, 1) := by decide +kernel
theorem dX11_open_1 : decode cX11_open 1 = .ok (.iload_n 1, 1) := by decide +kernel
theorem dX11_open_2 : decode cX11_open 2 = .ok (.invokevirtual 193, 3) := by decide +kernel
theorem dX11_open_5 : decode cX11_open 5 = .ok (.ifCond .ne 6, 3) := by decide +kernel
theorem dX11_open_8 : decode cX11_open 8 = .ok (.ldc 196, 2) := by decide +kernel
theorem dX11_open_10 : decode cX11_open 10 = .ok (.ireturn, 1) := by decide +kernel
theorem dX11_open_11 : decode cX11_open 11 = .ok (.iload_n 2, 1) := by decide +kernel
theorem dX11_open_12 : decode cX11_open 12 = .ok (.iconst 0, 1) := by decide +kernel
theorem dX11_open_13 : decode cX11_open 13 = .ok (.iconst 1, 1) := by decide +kernel
theorem dX11_open_14 : decode cX11_open 14 = .ok (.invokestatic 68, 3) := by decide +kernel
theorem dX11_open_17 : decode cX11_open 17 = .ok (.ifCond .eq 12, 3) := by decide +kernel
theorem dX11_open_20 : decode cX11_open 20 = .ok (.aload_n 0, 1) := by decide +kernel
theorem dX11_open_21 : decode cX11_open 21 = .ok (.iload_n 1, 1) := by decide +kernel
theorem dX11_open_22 : decode cX11_open 22 = .ok (.iload_n 2, 1) := by decide +kernel
theorem dX11_open_23 : decode cX11_open 23 = .ok (.invokevirtual 284, 3) := by decide +kernel
theorem dX11_open_26 : decode cX11_open 26 = .ok (.goto 5, 3) := by decide +kernel
theorem dX11_open_29 : decode cX11_open 29 = .ok (.ldc 72, 2) := by decide +kernel
theorem dX11_open_31 : decode cX11_open 31 = .ok (.ireturn, 1) := by decide +kernel
theorem dX11_meetsNow_0 : decode cX11_meetsNow 0 = .ok (.aload_n 0, 1) := by decide +kernel
theorem dX11_meetsNow_1 : decode cX11_meetsNow 1 = .ok (.iload_n 3, 1) := by decide +kernel
theorem dX11_meetsNow_2 : decode cX11_meetsNow 2 = .ok (.invokevirtual 204, 3) := by decide +kernel
theorem dX11_meetsNow_5 : decode cX11_meetsNow 5 = .ok (.aload_n 0, 1) := by decide +kernel
theorem dX11_meetsNow_6 : decode cX11_meetsNow 6 = .ok (.getfield 32, 3) := by decide +kernel
theorem dX11_meetsNow_9 : decode cX11_meetsNow 9 = .ok (.iload_n 1, 1) := by decide +kernel
theorem dX11_meetsNow_10 : decode cX11_meetsNow 10 = .ok (.iaload, 1) := by decide +kernel
theorem dX11_meetsNow_11 : decode cX11_meetsNow 11 = .ok (.aload_n 0, 1) := by decide +kernel
theorem dX11_meetsNow_12 : decode cX11_meetsNow 12 = .ok (.getfield 32, 3) := by decide +kernel
theorem dX11_meetsNow_15 : decode cX11_meetsNow 15 = .ok (.iload_n 2, 1) := by decide +kernel
theorem dX11_meetsNow_16 : decode cX11_meetsNow 16 = .ok (.iaload, 1) := by decide +kernel
theorem dX11_meetsNow_17 : decode cX11_meetsNow 17 = .ok (.iadd, 1) := by decide +kernel
theorem dX11_meetsNow_18 : decode cX11_meetsNow 18 = .ok (.aload_n 0, 1) := by decide +kernel
theorem dX11_meetsNow_19 : decode cX11_meetsNow 19 = .ok (.getfield 35, 3) := by decide +kernel
theorem dX11_meetsNow_22 : decode cX11_meetsNow 22 = .ok (.iload_n 1, 1) := by decide +kernel
theorem dX11_meetsNow_23 : decode cX11_meetsNow 23 = .ok (.iaload, 1) := by decide +kernel
theorem dX11_meetsNow_24 : decode cX11_meetsNow 24 = .ok (.aload_n 0, 1) := by decide +kernel
theorem dX11_meetsNow_25 : decode cX11_meetsNow 25 = .ok (.getfield 35, 3) := by decide +kernel
theorem dX11_meetsNow_28 : decode cX11_meetsNow 28 = .ok (.iload_n 2, 1) := by decide +kernel
theorem dX11_meetsNow_29 : decode cX11_meetsNow 29 = .ok (.iaload, 1) := by decide +kernel
theorem dX11_meetsNow_30 : decode cX11_meetsNow 30 = .ok (.imul, 1) := by decide +kernel
theorem dX11_meetsNow_31 : decode cX11_meetsNow 31 = .ok (.iadd, 1) := by decide +kernel
theorem dX11_meetsNow_32 : decode cX11_meetsNow 32 = .ok (.istore 4, 2) := by decide +kernel
theorem dX11_meetsNow_34 : decode cX11_meetsNow 34 = .ok (.iconst 0, 1) := by decide +kernel
theorem dX11_meetsNow_35 : decode cX11_meetsNow 35 = .ok (.istore 5, 2) := by decide +kernel
theorem dX11_meetsNow_37 : decode cX11_meetsNow 37 = .ok (.iload 5, 2) := by decide +kernel
theorem dX11_meetsNow_39 : decode cX11_meetsNow 39 = .ok (.iload 4, 2) := by decide +kernel
theorem dX11_meetsNow_41 : decode cX11_meetsNow 41 = .ok (.if_icmp .ge 31, 3) := by decide +kernel
theorem dX11_meetsNow_44 : decode cX11_meetsNow 44 = .ok (.aload_n 0, 1) := by decide +kernel
theorem dX11_meetsNow_45 : decode cX11_meetsNow 45 = .ok (.iload_n 1, 1) := by decide +kernel
theorem dX11_meetsNow_46 : decode cX11_meetsNow 46 = .ok (.iload 5, 2) := by decide +kernel
theorem dX11_meetsNow_48 : decode cX11_meetsNow 48 = .ok (.i2l, 1) := by decide +kernel
theorem dX11_meetsNow_49 : decode cX11_meetsNow 49 = .ok (.invokevirtual 162, 3) := by decide +kernel
theorem dX11_meetsNow_52 : decode cX11_meetsNow 52 = .ok (.aload_n 0, 1) := by decide +kernel
theorem dX11_meetsNow_53 : decode cX11_meetsNow 53 = .ok (.iload_n 2, 1) := by decide +kernel
theorem dX11_meetsNow_54 : decode cX11_meetsNow 54 = .ok (.iload 5, 2) := by decide +kernel
theorem dX11_meetsNow_56 : decode cX11_meetsNow 56 = .ok (.i2l, 1) := by decide +kernel
theorem dX11_meetsNow_57 : decode cX11_meetsNow 57 = .ok (.invokevirtual 162, 3) := by decide +kernel
theorem dX11_meetsNow_60 : decode cX11_meetsNow 60 = .ok (.if_icmp .ne 6, 3) := by decide +kernel
theorem dX11_meetsNow_63 : decode cX11_meetsNow 63 = .ok (.iload 5, 2) := by decide +kernel
theorem dX11_meetsNow_65 : decode cX11_meetsNow 65 = .ok (.ireturn, 1) := by decide +kernel
theorem dX11_meetsNow_66 : decode cX11_meetsNow 66 = .ok (.iinc 5 1, 3) := by decide +kernel
theorem dX11_meetsNow_69 : decode cX11_meetsNow 69 = .ok (.goto (-32), 3) := by decide +kernel
theorem dX11_meetsNow_72 : decode cX11_meetsNow 72 = .ok (.ldc 54, 2) := by decide +kernel
theorem dX11_meetsNow_74 : decode cX11_meetsNow 74 = .ok (.ireturn, 1) := by decide +kernel
theorem dX11_meets_0 : decode cX11_meets 0 = .ok (.aload_n 0, 1) := by decide +kernel
theorem dX11_meets_1 : decode cX11_meets 1 = .ok (.iload_n 1, 1) := by decide +kernel
theorem dX11_meets_2 : decode cX11_meets 2 = .ok (.invokevirtual 193, 3) := by decide +kernel
theorem dX11_meets_5 : decode cX11_meets 5 = .ok (.ifCond .eq 11, 3) := by decide +kernel
theorem dX11_meets_8 : decode cX11_meets 8 = .ok (.aload_n 0, 1) := by decide +kernel
theorem dX11_meets_9 : decode cX11_meets 9 = .ok (.iload_n 2, 1) := by decide +kernel
theorem dX11_meets_10 : decode cX11_meets 10 = .ok (.invokevirtual 193, 3) := by decide +kernel
theorem dX11_meets_13 : decode cX11_meets 13 = .ok (.ifCond .ne 6, 3) := by decide +kernel
theorem dX11_meets_16 : decode cX11_meets 16 = .ok (.ldc 196, 2) := by decide +kernel
theorem dX11_meets_18 : decode cX11_meets 18 = .ok (.ireturn, 1) := by decide +kernel
theorem dX11_meets_19 : decode cX11_meets 19 = .ok (.iload_n 3, 1) := by decide +kernel
theorem dX11_meets_20 : decode cX11_meets 20 = .ok (.iconst 2, 1) := by decide +kernel
theorem dX11_meets_21 : decode cX11_meets 21 = .ok (.bipush 10, 2) := by decide +kernel
theorem dX11_meets_23 : decode cX11_meets 23 = .ok (.invokestatic 68, 3) := by decide +kernel
theorem dX11_meets_26 : decode cX11_meets 26 = .ok (.ifCond .eq 13, 3) := by decide +kernel
theorem dX11_meets_29 : decode cX11_meets 29 = .ok (.aload_n 0, 1) := by decide +kernel
theorem dX11_meets_30 : decode cX11_meets 30 = .ok (.iload_n 1, 1) := by decide +kernel
theorem dX11_meets_31 : decode cX11_meets 31 = .ok (.iload_n 2, 1) := by decide +kernel
theorem dX11_meets_32 : decode cX11_meets 32 = .ok (.iload_n 3, 1) := by decide +kernel
theorem dX11_meets_33 : decode cX11_meets 33 = .ok (.invokevirtual 287, 3) := by decide +kernel
theorem dX11_meets_36 : decode cX11_meets 36 = .ok (.goto 5, 3) := by decide +kernel
theorem dX11_meets_39 : decode cX11_meets 39 = .ok (.ldc 72, 2) := by decide +kernel
theorem dX11_meets_41 : decode cX11_meets 41 = .ok (.ireturn, 1) := by decide +kernel
theorem dX11_lay_0 : decode cX11_lay 0 = .ok (.aload_n 0, 1) := by decide +kernel
theorem dX11_lay_1 : decode cX11_lay 1 = .ok (.getfield 7, 3) := by decide +kernel
theorem dX11_lay_4 : decode cX11_lay 4 = .ok (.iload_n 1, 1) := by decide +kernel
theorem dX11_lay_5 : decode cX11_lay 5 = .ok (.iload_n 2, 1) := by decide +kernel
theorem dX11_lay_6 : decode cX11_lay 6 = .ok (.iastore, 1) := by decide +kernel
theorem dX11_lay_7 : decode cX11_lay 7 = .ok (.aload_n 0, 1) := by decide +kernel
theorem dX11_lay_8 : decode cX11_lay 8 = .ok (.getfield 13, 3) := by decide +kernel
theorem dX11_lay_11 : decode cX11_lay 11 = .ok (.iconst 4, 1) := by decide +kernel
theorem dX11_lay_12 : decode cX11_lay 12 = .ok (.iload_n 1, 1) := by decide +kernel
theorem dX11_lay_13 : decode cX11_lay 13 = .ok (.imul, 1) := by decide +kernel
theorem dX11_lay_14 : decode cX11_lay 14 = .ok (.iload_n 3, 1) := by decide +kernel
theorem dX11_lay_15 : decode cX11_lay 15 = .ok (.iastore, 1) := by decide +kernel
theorem dX11_lay_16 : decode cX11_lay 16 = .ok (.aload_n 0, 1) := by decide +kernel
theorem dX11_lay_17 : decode cX11_lay 17 = .ok (.getfield 13, 3) := by decide +kernel
theorem dX11_lay_20 : decode cX11_lay 20 = .ok (.iconst 4, 1) := by decide +kernel
theorem dX11_lay_21 : decode cX11_lay 21 = .ok (.iload_n 1, 1) := by decide +kernel
theorem dX11_lay_22 : decode cX11_lay 22 = .ok (.imul, 1) := by decide +kernel
theorem dX11_lay_23 : decode cX11_lay 23 = .ok (.iconst 1, 1) := by decide +kernel
theorem dX11_lay_24 : decode cX11_lay 24 = .ok (.iadd, 1) := by decide +kernel
theorem dX11_lay_25 : decode cX11_lay 25 = .ok (.iload 4, 2) := by decide +kernel
theorem dX11_lay_27 : decode cX11_lay 27 = .ok (.iastore, 1) := by decide +kernel
theorem dX11_lay_28 : decode cX11_lay 28 = .ok (.aload_n 0, 1) := by decide +kernel
theorem dX11_lay_29 : decode cX11_lay 29 = .ok (.getfield 13, 3) := by decide +kernel
theorem dX11_lay_32 : decode cX11_lay 32 = .ok (.iconst 4, 1) := by decide +kernel
theorem dX11_lay_33 : decode cX11_lay 33 = .ok (.iload_n 1, 1) := by decide +kernel
theorem dX11_lay_34 : decode cX11_lay 34 = .ok (.imul, 1) := by decide +kernel
theorem dX11_lay_35 : decode cX11_lay 35 = .ok (.iconst 2, 1) := by decide +kernel
theorem dX11_lay_36 : decode cX11_lay 36 = .ok (.iadd, 1) := by decide +kernel
theorem dX11_lay_37 : decode cX11_lay 37 = .ok (.iload 5, 2) := by decide +kernel
theorem dX11_lay_39 : decode cX11_lay 39 = .ok (.iastore, 1) := by decide +kernel
theorem dX11_lay_40 : decode cX11_lay 40 = .ok (.aload_n 0, 1) := by decide +kernel
theorem dX11_lay_41 : decode cX11_lay 41 = .ok (.getfield 13, 3) := by decide +kernel
theorem dX11_lay_44 : decode cX11_lay 44 = .ok (.iconst 4, 1) := by decide +kernel
theorem dX11_lay_45 : decode cX11_lay 45 = .ok (.iload_n 1, 1) := by decide +kernel
theorem dX11_lay_46 : decode cX11_lay 46 = .ok (.imul, 1) := by decide +kernel
theorem dX11_lay_47 : decode cX11_lay 47 = .ok (.iconst 3, 1) := by decide +kernel
theorem dX11_lay_48 : decode cX11_lay 48 = .ok (.iadd, 1) := by decide +kernel
theorem dX11_lay_49 : decode cX11_lay 49 = .ok (.iload 6, 2) := by decide +kernel
theorem dX11_lay_51 : decode cX11_lay 51 = .ok (.iastore, 1) := by decide +kernel
theorem dX11_lay_52 : decode cX11_lay 52 = .ok (.aload_n 0, 1) := by decide +kernel
theorem dX11_lay_53 : decode cX11_lay 53 = .ok (.invokevirtual 122, 3) := by decide +kernel
theorem dX11_lay_56 : decode cX11_lay 56 = .ok (.return_, 1) := by decide +kernel
theorem dX11_comes_0 : decode cX11_comes 0 = .ok (.aload_n 0, 1) := by decide +kernel
theorem dX11_comes_1 : decode cX11_comes 1 = .ok (.getfield 116, 3) := by decide +kernel
theorem dX11_comes_4 : decode cX11_comes 4 = .ok (.bipush 8, 2) := by decide +kernel
theorem dX11_comes_6 : decode cX11_comes 6 = .ok (.if_icmp .ne 6, 3) := by decide +kernel
theorem dX11_comes_9 : decode cX11_comes 9 = .ok (.ldc 76, 2) := by decide +kernel
theorem dX11_comes_11 : decode cX11_comes 11 = .ok (.ireturn, 1) := by decide +kernel
theorem dX11_comes_12 : decode cX11_comes 12 = .ok (.aload_n 0, 1) := by decide +kernel
theorem dX11_comes_13 : decode cX11_comes 13 = .ok (.aload_n 0, 1) := by decide +kernel
theorem dX11_comes_14 : decode cX11_comes 14 = .ok (.getfield 116, 3) := by decide +kernel
theorem dX11_comes_17 : decode cX11_comes 17 = .ok (.iload_n 1, 1) := by decide +kernel
theorem dX11_comes_18 : decode cX11_comes 18 = .ok (.iload_n 2, 1) := by decide +kernel
theorem dX11_comes_19 : decode cX11_comes 19 = .ok (.iload_n 3, 1) := by decide +kernel
theorem dX11_comes_20 : decode cX11_comes 20 = .ok (.iload 4, 2) := by decide +kernel
theorem dX11_comes_22 : decode cX11_comes 22 = .ok (.iload 5, 2) := by decide +kernel
theorem dX11_comes_24 : decode cX11_comes 24 = .ok (.invokevirtual 290, 3) := by decide +kernel
theorem dX11_comes_27 : decode cX11_comes 27 = .ok (.aload_n 0, 1) := by decide +kernel
theorem dX11_comes_28 : decode cX11_comes 28 = .ok (.dup, 1) := by decide +kernel
theorem dX11_comes_29 : decode cX11_comes 29 = .ok (.getfield 116, 3) := by decide +kernel
theorem dX11_comes_32 : decode cX11_comes 32 = .ok (.iconst 1, 1) := by decide +kernel
theorem dX11_comes_33 : decode cX11_comes 33 = .ok (.iadd, 1) := by decide +kernel
theorem dX11_comes_34 : decode cX11_comes 34 = .ok (.putfield 116, 3) := by decide +kernel
theorem dX11_comes_37 : decode cX11_comes 37 = .ok (.aload_n 0, 1) := by decide +kernel
theorem dX11_comes_38 : decode cX11_comes 38 = .ok (.getfield 116, 3) := by decide +kernel
theorem dX11_comes_41 : decode cX11_comes 41 = .ok (.iconst 1, 1) := by decide +kernel
theorem dX11_comes_42 : decode cX11_comes 42 = .ok (.isub, 1) := by decide +kernel
theorem dX11_comes_43 : decode cX11_comes 43 = .ok (.ireturn, 1) := by decide +kernel
theorem dX11_isFew_0 : decode cX11_isFew 0 = .ok (.iload_n 0, 1) := by decide +kernel
theorem dX11_isFew_1 : decode cX11_isFew 1 = .ok (.bipush (-9), 2) := by decide +kernel
theorem dX11_isFew_3 : decode cX11_isFew 3 = .ok (.bipush 9, 2) := by decide +kernel
theorem dX11_isFew_5 : decode cX11_isFew 5 = .ok (.invokestatic 68, 3) := by decide +kernel
theorem dX11_isFew_8 : decode cX11_isFew 8 = .ok (.ireturn, 1) := by decide +kernel
theorem dX11_isMany_0 : decode cX11_isMany 0 = .ok (.iload_n 0, 1) := by decide +kernel
theorem dX11_isMany_1 : decode cX11_isMany 1 = .ok (.sipush (-999), 3) := by decide +kernel
theorem dX11_isMany_4 : decode cX11_isMany 4 = .ok (.sipush 999, 3) := by decide +kernel
theorem dX11_isMany_7 : decode cX11_isMany 7 = .ok (.invokestatic 68, 3) := by decide +kernel
theorem dX11_isMany_10 : decode cX11_isMany 10 = .ok (.ireturn, 1) := by decide +kernel
theorem dX11_told_0 : decode cX11_told 0 = .ok (.iload_n 1, 1) := by decide +kernel
theorem dX11_told_1 : decode cX11_told 1 = .ok (.invokestatic 294, 3) := by decide +kernel
theorem dX11_told_4 : decode cX11_told 4 = .ok (.ifCond .eq 38, 3) := by decide +kernel
theorem dX11_told_7 : decode cX11_told 7 = .ok (.iload_n 2, 1) := by decide +kernel
theorem dX11_told_8 : decode cX11_told 8 = .ok (.invokestatic 294, 3) := by decide +kernel
theorem dX11_told_11 : decode cX11_told 11 = .ok (.ifCond .eq 31, 3) := by decide +kernel
theorem dX11_told_14 : decode cX11_told 14 = .ok (.iload_n 3, 1) := by decide +kernel
theorem dX11_told_15 : decode cX11_told 15 = .ok (.invokestatic 297, 3) := by decide +kernel
theorem dX11_told_18 : decode cX11_told 18 = .ok (.ifCond .eq 24, 3) := by decide +kernel
theorem dX11_told_21 : decode cX11_told 21 = .ok (.iload 4, 2) := by decide +kernel
theorem dX11_told_23 : decode cX11_told 23 = .ok (.invokestatic 297, 3) := by decide +kernel
theorem dX11_told_26 : decode cX11_told 26 = .ok (.ifCond .eq 16, 3) := by decide +kernel
theorem dX11_told_29 : decode cX11_told 29 = .ok (.aload_n 0, 1) := by decide +kernel
theorem dX11_told_30 : decode cX11_told 30 = .ok (.iconst 0, 1) := by decide +kernel
theorem dX11_told_31 : decode cX11_told 31 = .ok (.iload_n 1, 1) := by decide +kernel
theorem dX11_told_32 : decode cX11_told 32 = .ok (.iload_n 2, 1) := by decide +kernel
theorem dX11_told_33 : decode cX11_told 33 = .ok (.iload_n 3, 1) := by decide +kernel
theorem dX11_told_34 : decode cX11_told 34 = .ok (.iload 4, 2) := by decide +kernel
theorem dX11_told_36 : decode cX11_told 36 = .ok (.invokevirtual 300, 3) := by decide +kernel
theorem dX11_told_39 : decode cX11_told 39 = .ok (.goto 5, 3) := by decide +kernel
theorem dX11_told_42 : decode cX11_told 42 = .ok (.ldc 72, 2) := by decide +kernel
theorem dX11_told_44 : decode cX11_told 44 = .ok (.ireturn, 1) := by decide +kernel
theorem dX11_sum_0 : decode cX11_sum 0 = .ok (.aload_n 0, 1) := by decide +kernel
theorem dX11_sum_1 : decode cX11_sum 1 = .ok (.iload_n 1, 1) := by decide +kernel
theorem dX11_sum_2 : decode cX11_sum 2 = .ok (.invokevirtual 193, 3) := by decide +kernel
theorem dX11_sum_5 : decode cX11_sum 5 = .ok (.ifCond .eq 25, 3) := by decide +kernel
theorem dX11_sum_8 : decode cX11_sum 8 = .ok (.aload_n 0, 1) := by decide +kernel
theorem dX11_sum_9 : decode cX11_sum 9 = .ok (.iload_n 2, 1) := by decide +kernel
theorem dX11_sum_10 : decode cX11_sum 10 = .ok (.invokevirtual 193, 3) := by decide +kernel
theorem dX11_sum_13 : decode cX11_sum 13 = .ok (.ifCond .eq 17, 3) := by decide +kernel
theorem dX11_sum_16 : decode cX11_sum 16 = .ok (.aload_n 0, 1) := by decide +kernel
theorem dX11_sum_17 : decode cX11_sum 17 = .ok (.iconst 1, 1) := by decide +kernel
theorem dX11_sum_18 : decode cX11_sum 18 = .ok (.iload_n 1, 1) := by decide +kernel
theorem dX11_sum_19 : decode cX11_sum 19 = .ok (.iload_n 2, 1) := by decide +kernel
theorem dX11_sum_20 : decode cX11_sum 20 = .ok (.ldc 54, 2) := by decide +kernel
theorem dX11_sum_22 : decode cX11_sum 22 = .ok (.ldc 54, 2) := by decide +kernel
theorem dX11_sum_24 : decode cX11_sum 24 = .ok (.invokevirtual 300, 3) := by decide +kernel
theorem dX11_sum_27 : decode cX11_sum 27 = .ok (.goto 5, 3) := by decide +kernel
theorem dX11_sum_30 : decode cX11_sum 30 = .ok (.ldc 196, 2) := by decide +kernel
theorem dX11_sum_32 : decode cX11_sum 32 = .ok (.ireturn, 1) := by decide +kernel
theorem dX11_product_0 : decode cX11_product 0 = .ok (.aload_n 0, 1) := by decide +kernel
theorem dX11_product_1 : decode cX11_product 1 = .ok (.iload_n 1, 1) := by decide +kernel
theorem dX11_product_2 : decode cX11_product 2 = .ok (.invokevirtual 193, 3) := by decide +kernel
theorem dX11_product_5 : decode cX11_product 5 = .ok (.ifCond .eq 25, 3) := by decide +kernel
theorem dX11_product_8 : decode cX11_product 8 = .ok (.aload_n 0, 1) := by decide +kernel
theorem dX11_product_9 : decode cX11_product 9 = .ok (.iload_n 2, 1) := by decide +kernel
theorem dX11_product_10 : decode cX11_product 10 = .ok (.invokevirtual 193, 3) := by decide +kernel
theorem dX11_product_13 : decode cX11_product 13 = .ok (.ifCond .eq 17, 3) := by decide +kernel
theorem dX11_product_16 : decode cX11_product 16 = .ok (.aload_n 0, 1) := by decide +kernel
theorem dX11_product_17 : decode cX11_product 17 = .ok (.iconst 2, 1) := by decide +kernel
theorem dX11_product_18 : decode cX11_product 18 = .ok (.iload_n 1, 1) := by decide +kernel
theorem dX11_product_19 : decode cX11_product 19 = .ok (.iload_n 2, 1) := by decide +kernel
theorem dX11_product_20 : decode cX11_product 20 = .ok (.ldc 54, 2) := by decide +kernel
theorem dX11_product_22 : decode cX11_product 22 = .ok (.ldc 54, 2) := by decide +kernel
theorem dX11_product_24 : decode cX11_product 24 = .ok (.invokevirtual 300, 3) := by decide +kernel
theorem dX11_product_27 : decode cX11_product 27 = .ok (.goto 5, 3) := by decide +kernel
theorem dX11_product_30 : decode cX11_product 30 = .ok (.ldc 196, 2) := by decide +kernel
theorem dX11_product_32 : decode cX11_product 32 = .ok (.ireturn, 1) := by decide +kernel
theorem dX11_each_0 : decode cX11_each 0 = .ok (.aload_n 0, 1) := by decide +kernel
theorem dX11_each_1 : decode cX11_each 1 = .ok (.iload_n 1, 1) := by decide +kernel
theorem dX11_each_2 : decode cX11_each 2 = .ok (.invokevirtual 193, 3) := by decide +kernel
theorem dX11_each_5 : decode cX11_each 5 = .ok (.ifCond .ne 6, 3) := by decide +kernel
theorem dX11_each_8 : decode cX11_each 8 = .ok (.ldc 196, 2) := by decide +kernel
theorem dX11_each_10 : decode cX11_each 10 = .ok (.ireturn, 1) := by decide +kernel
theorem dX11_each_11 : decode cX11_each 11 = .ok (.iload_n 2, 1) := by decide +kernel
theorem dX11_each_12 : decode cX11_each 12 = .ok (.iconst 1, 1) := by decide +kernel
theorem dX11_each_13 : decode cX11_each 13 = .ok (.iconst 5, 1) := by decide +kernel
theorem dX11_each_14 : decode cX11_each 14 = .ok (.invokestatic 68, 3) := by decide +kernel
theorem dX11_each_17 : decode cX11_each 17 = .ok (.ifCond .eq 26, 3) := by decide +kernel
theorem dX11_each_20 : decode cX11_each 20 = .ok (.iload_n 3, 1) := by decide +kernel
theorem dX11_each_21 : decode cX11_each 21 = .ok (.iconst 0, 1) := by decide +kernel
theorem dX11_each_22 : decode cX11_each 22 = .ok (.bipush 9, 2) := by decide +kernel
theorem dX11_each_24 : decode cX11_each 24 = .ok (.invokestatic 68, 3) := by decide +kernel
theorem dX11_each_27 : decode cX11_each 27 = .ok (.ifCond .eq 16, 3) := by decide +kernel
theorem dX11_each_30 : decode cX11_each 30 = .ok (.aload_n 0, 1) := by decide +kernel
theorem dX11_each_31 : decode cX11_each 31 = .ok (.iconst 3, 1) := by decide +kernel
theorem dX11_each_32 : decode cX11_each 32 = .ok (.iload_n 1, 1) := by decide +kernel
theorem dX11_each_33 : decode cX11_each 33 = .ok (.iload_n 2, 1) := by decide +kernel
theorem dX11_each_34 : decode cX11_each 34 = .ok (.iload_n 3, 1) := by decide +kernel
theorem dX11_each_35 : decode cX11_each 35 = .ok (.ldc 54, 2) := by decide +kernel
theorem dX11_each_37 : decode cX11_each 37 = .ok (.invokevirtual 300, 3) := by decide +kernel
theorem dX11_each_40 : decode cX11_each 40 = .ok (.goto 5, 3) := by decide +kernel
theorem dX11_each_43 : decode cX11_each 43 = .ok (.ldc 72, 2) := by decide +kernel
theorem dX11_each_45 : decode cX11_each 45 = .ok (.ireturn, 1) := by decide +kernel
theorem dX11_step_0 : decode cX11_step 0 = .ok (.aload_n 0, 1) := by decide +kernel
theorem dX11_step_1 : decode cX11_step 1 = .ok (.iload_n 1, 1) := by decide +kernel
theorem dX11_step_2 : decode cX11_step 2 = .ok (.invokevirtual 193, 3) := by decide +kernel
theorem dX11_step_5 : decode cX11_step 5 = .ok (.ifCond .eq 18, 3) := by decide +kernel
theorem dX11_step_8 : decode cX11_step 8 = .ok (.aload_n 0, 1) := by decide +kernel
theorem dX11_step_9 : decode cX11_step 9 = .ok (.iconst 4, 1) := by decide +kernel
theorem dX11_step_10 : decode cX11_step 10 = .ok (.iload_n 1, 1) := by decide +kernel
theorem dX11_step_11 : decode cX11_step 11 = .ok (.ldc 54, 2) := by decide +kernel
theorem dX11_step_13 : decode cX11_step 13 = .ok (.ldc 54, 2) := by decide +kernel
theorem dX11_step_15 : decode cX11_step 15 = .ok (.ldc 54, 2) := by decide +kernel
theorem dX11_step_17 : decode cX11_step 17 = .ok (.invokevirtual 300, 3) := by decide +kernel
theorem dX11_step_20 : decode cX11_step 20 = .ok (.goto 5, 3) := by decide +kernel
theorem dX11_step_23 : decode cX11_step 23 = .ok (.ldc 196, 2) := by decide +kernel
theorem dX11_step_25 : decode cX11_step 25 = .ok (.ireturn, 1) := by decide +kernel
theorem dX11_put_0 : decode cX11_put 0 = .ok (.aload_n 0, 1) := by decide +kernel
theorem dX11_put_1 : decode cX11_put 1 = .ok (.iload_n 1, 1) := by decide +kernel
theorem dX11_put_2 : decode cX11_put 2 = .ok (.invokevirtual 193, 3) := by decide +kernel
theorem dX11_put_5 : decode cX11_put 5 = .ok (.ifCond .ne 6, 3) := by decide +kernel
theorem dX11_put_8 : decode cX11_put 8 = .ok (.ldc 196, 2) := by decide +kernel
theorem dX11_put_10 : decode cX11_put 10 = .ok (.ireturn, 1) := by decide +kernel
theorem dX11_put_11 : decode cX11_put 11 = .ok (.iload_n 2, 1) := by decide +kernel
theorem dX11_put_12 : decode cX11_put 12 = .ok (.iconst 0, 1) := by decide +kernel
theorem dX11_put_13 : decode cX11_put 13 = .ok (.iconst 3, 1) := by decide +kernel
theorem dX11_put_14 : decode cX11_put 14 = .ok (.invokestatic 68, 3) := by decide +kernel
theorem dX11_put_17 : decode cX11_put 17 = .ok (.ifCond .ne 6, 3) := by decide +kernel
theorem dX11_put_20 : decode cX11_put 20 = .ok (.ldc 72, 2) := by decide +kernel
theorem dX11_put_22 : decode cX11_put 22 = .ok (.ireturn, 1) := by decide +kernel
theorem dX11_put_23 : decode cX11_put 23 = .ok (.aload_n 0, 1) := by decide +kernel
theorem dX11_put_24 : decode cX11_put 24 = .ok (.iload_n 1, 1) := by decide +kernel
theorem dX11_put_25 : decode cX11_put 25 = .ok (.invokevirtual 245, 3) := by decide +kernel
theorem dX11_put_28 : decode cX11_put 28 = .ok (.ifCond .ne 6, 3) := by decide +kernel
theorem dX11_put_31 : decode cX11_put 31 = .ok (.ldc 115, 2) := by decide +kernel
theorem dX11_put_33 : decode cX11_put 33 = .ok (.ireturn, 1) := by decide +kernel
theorem dX11_put_34 : decode cX11_put 34 = .ok (.iload_n 2, 1) := by decide +kernel
theorem dX11_put_35 : decode cX11_put 35 = .ok (.iconst 2, 1) := by decide +kernel
theorem dX11_put_36 : decode cX11_put 36 = .ok (.if_icmp .ge 13, 3) := by decide +kernel
theorem dX11_put_39 : decode cX11_put 39 = .ok (.iload_n 3, 1) := by decide +kernel
theorem dX11_put_40 : decode cX11_put 40 = .ok (.invokestatic 294, 3) := by decide +kernel
theorem dX11_put_43 : decode cX11_put 43 = .ok (.ifCond .ne 16, 3) := by decide +kernel
theorem dX11_put_46 : decode cX11_put 46 = .ok (.goto 10, 3) := by decide +kernel
theorem dX11_put_49 : decode cX11_put 49 = .ok (.iload_n 3, 1) := by decide +kernel
theorem dX11_put_50 : decode cX11_put 50 = .ok (.invokestatic 297, 3) := by decide +kernel
theorem dX11_put_53 : decode cX11_put 53 = .ok (.ifCond .ne 6, 3) := by decide +kernel
theorem dX11_put_56 : decode cX11_put 56 = .ok (.ldc 72, 2) := by decide +kernel
theorem dX11_put_58 : decode cX11_put 58 = .ok (.ireturn, 1) := by decide +kernel
theorem dX11_put_59 : decode cX11_put 59 = .ok (.aload_n 0, 1) := by decide +kernel
theorem dX11_put_60 : decode cX11_put 60 = .ok (.getfield 13, 3) := by decide +kernel
theorem dX11_put_63 : decode cX11_put 63 = .ok (.iconst 4, 1) := by decide +kernel
theorem dX11_put_64 : decode cX11_put 64 = .ok (.iload_n 1, 1) := by decide +kernel
theorem dX11_put_65 : decode cX11_put 65 = .ok (.imul, 1) := by decide +kernel
theorem dX11_put_66 : decode cX11_put 66 = .ok (.iload_n 2, 1) := by decide +kernel
theorem dX11_put_67 : decode cX11_put 67 = .ok (.iadd, 1) := by decide +kernel
theorem dX11_put_68 : decode cX11_put 68 = .ok (.iaload, 1) := by decide +kernel
theorem dX11_put_69 : decode cX11_put 69 = .ok (.istore 4, 2) := by decide +kernel
theorem dX11_put_71 : decode cX11_put 71 = .ok (.aload_n 0, 1) := by decide +kernel
theorem dX11_put_72 : decode cX11_put 72 = .ok (.getfield 13, 3) := by decide +kernel
theorem dX11_put_75 : decode cX11_put 75 = .ok (.iconst 4, 1) := by decide +kernel
theorem dX11_put_76 : decode cX11_put 76 = .ok (.iload_n 1, 1) := by decide +kernel
theorem dX11_put_77 : decode cX11_put 77 = .ok (.imul, 1) := by decide +kernel
theorem dX11_put_78 : decode cX11_put 78 = .ok (.iload_n 2, 1) := by decide +kernel
theorem dX11_put_79 : decode cX11_put 79 = .ok (.iadd, 1) := by decide +kernel
theorem dX11_put_80 : decode cX11_put 80 = .ok (.iload_n 3, 1) := by decide +kernel
theorem dX11_put_81 : decode cX11_put 81 = .ok (.iastore, 1) := by decide +kernel
theorem dX11_put_82 : decode cX11_put 82 = .ok (.aload_n 0, 1) := by decide +kernel
theorem dX11_put_83 : decode cX11_put 83 = .ok (.invokevirtual 122, 3) := by decide +kernel
theorem dX11_put_86 : decode cX11_put 86 = .ok (.iload 4, 2) := by decide +kernel
theorem dX11_put_88 : decode cX11_put 88 = .ok (.ireturn, 1) := by decide +kernel
theorem dX11_drop_0 : decode cX11_drop 0 = .ok (.aload_n 0, 1) := by decide +kernel
theorem dX11_drop_1 : decode cX11_drop 1 = .ok (.getfield 116, 3) := by decide +kernel
theorem dX11_drop_4 : decode cX11_drop 4 = .ok (.ifCond .ne 6, 3) := by decide +kernel
theorem dX11_drop_7 : decode cX11_drop 7 = .ok (.ldc 115, 2) := by decide +kernel
theorem dX11_drop_9 : decode cX11_drop 9 = .ok (.ireturn, 1) := by decide +kernel
theorem dX11_drop_10 : decode cX11_drop 10 = .ok (.aload_n 0, 1) := by decide +kernel
theorem dX11_drop_11 : decode cX11_drop 11 = .ok (.dup, 1) := by decide +kernel
theorem dX11_drop_12 : decode cX11_drop 12 = .ok (.getfield 116, 3) := by decide +kernel
theorem dX11_drop_15 : decode cX11_drop 15 = .ok (.iconst 1, 1) := by decide +kernel
theorem dX11_drop_16 : decode cX11_drop 16 = .ok (.isub, 1) := by decide +kernel
theorem dX11_drop_17 : decode cX11_drop 17 = .ok (.putfield 116, 3) := by decide +kernel
theorem dX11_drop_20 : decode cX11_drop 20 = .ok (.aload_n 0, 1) := by decide +kernel
theorem dX11_drop_21 : decode cX11_drop 21 = .ok (.getfield 116, 3) := by decide +kernel
theorem dX11_drop_24 : decode cX11_drop 24 = .ok (.ireturn, 1) := by decide +kernel
theorem dX11_isPower_0 : decode cX11_isPower 0 = .ok (.aload_n 0, 1) := by decide +kernel
theorem dX11_isPower_1 : decode cX11_isPower 1 = .ok (.getfield 13, 3) := by decide +kernel
theorem dX11_isPower_4 : decode cX11_isPower 4 = .ok (.iconst 4, 1) := by decide +kernel
theorem dX11_isPower_5 : decode cX11_isPower 5 = .ok (.iload_n 1, 1) := by decide +kernel
theorem dX11_isPower_6 : decode cX11_isPower 6 = .ok (.imul, 1) := by decide +kernel
theorem dX11_isPower_7 : decode cX11_isPower 7 = .ok (.iconst 1, 1) := by decide +kernel
theorem dX11_isPower_8 : decode cX11_isPower 8 = .ok (.iadd, 1) := by decide +kernel
theorem dX11_isPower_9 : decode cX11_isPower 9 = .ok (.iaload, 1) := by decide +kernel
theorem dX11_isPower_10 : decode cX11_isPower 10 = .ok (.ifCond .ne 39, 3) := by decide +kernel
theorem dX11_isPower_13 : decode cX11_isPower 13 = .ok (.aload_n 0, 1) := by decide +kernel
theorem dX11_isPower_14 : decode cX11_isPower 14 = .ok (.getfield 13, 3) := by decide +kernel
theorem dX11_isPower_17 : decode cX11_isPower 17 = .ok (.iconst 4, 1) := by decide +kernel
theorem dX11_isPower_18 : decode cX11_isPower 18 = .ok (.iload_n 1, 1) := by decide +kernel
theorem dX11_isPower_19 : decode cX11_isPower 19 = .ok (.imul, 1) := by decide +kernel
theorem dX11_isPower_20 : decode cX11_isPower 20 = .ok (.iconst 3, 1) := by decide +kernel
theorem dX11_isPower_21 : decode cX11_isPower 21 = .ok (.iadd, 1) := by decide +kernel
theorem dX11_isPower_22 : decode cX11_isPower 22 = .ok (.iaload, 1) := by decide +kernel
theorem dX11_isPower_23 : decode cX11_isPower 23 = .ok (.aload_n 0, 1) := by decide +kernel
theorem dX11_isPower_24 : decode cX11_isPower 24 = .ok (.getfield 13, 3) := by decide +kernel
theorem dX11_isPower_27 : decode cX11_isPower 27 = .ok (.iconst 4, 1) := by decide +kernel
theorem dX11_isPower_28 : decode cX11_isPower 28 = .ok (.iload_n 1, 1) := by decide +kernel
theorem dX11_isPower_29 : decode cX11_isPower 29 = .ok (.imul, 1) := by decide +kernel
theorem dX11_isPower_30 : decode cX11_isPower 30 = .ok (.iaload, 1) := by decide +kernel
theorem dX11_isPower_31 : decode cX11_isPower 31 = .ok (.aload_n 0, 1) := by decide +kernel
theorem dX11_isPower_32 : decode cX11_isPower 32 = .ok (.getfield 13, 3) := by decide +kernel
theorem dX11_isPower_35 : decode cX11_isPower 35 = .ok (.iconst 4, 1) := by decide +kernel
theorem dX11_isPower_36 : decode cX11_isPower 36 = .ok (.iload_n 1, 1) := by decide +kernel
theorem dX11_isPower_37 : decode cX11_isPower 37 = .ok (.imul, 1) := by decide +kernel
theorem dX11_isPower_38 : decode cX11_isPower 38 = .ok (.iconst 2, 1) := by decide +kernel
theorem dX11_isPower_39 : decode cX11_isPower 39 = .ok (.iadd, 1) := by decide +kernel
theorem dX11_isPower_40 : decode cX11_isPower 40 = .ok (.iaload, 1) := by decide +kernel
theorem dX11_isPower_41 : decode cX11_isPower 41 = .ok (.imul, 1) := by decide +kernel
theorem dX11_isPower_42 : decode cX11_isPower 42 = .ok (.if_icmp .ne 7, 3) := by decide +kernel
theorem dX11_isPower_45 : decode cX11_isPower 45 = .ok (.iconst 1, 1) := by decide +kernel
theorem dX11_isPower_46 : decode cX11_isPower 46 = .ok (.goto 4, 3) := by decide +kernel
theorem dX11_isPower_49 : decode cX11_isPower 49 = .ok (.iconst 0, 1) := by decide +kernel
theorem dX11_isPower_50 : decode cX11_isPower 50 = .ok (.ireturn, 1) := by decide +kernel
theorem dX11_powersIn_0 : decode cX11_powersIn 0 = .ok (.aload_n 0, 1) := by decide +kernel
theorem dX11_powersIn_1 : decode cX11_powersIn 1 = .ok (.getfield 13, 3) := by decide +kernel
theorem dX11_powersIn_4 : decode cX11_powersIn 4 = .ok (.iconst 4, 1) := by decide +kernel
theorem dX11_powersIn_5 : decode cX11_powersIn 5 = .ok (.iload_n 1, 1) := by decide +kernel
theorem dX11_powersIn_6 : decode cX11_powersIn 6 = .ok (.imul, 1) := by decide +kernel
theorem dX11_powersIn_7 : decode cX11_powersIn 7 = .ok (.iaload, 1) := by decide +kernel
theorem dX11_powersIn_8 : decode cX11_powersIn 8 = .ok (.istore_n 2, 1) := by decide +kernel
theorem dX11_powersIn_9 : decode cX11_powersIn 9 = .ok (.aload_n 0, 1) := by decide +kernel
theorem dX11_powersIn_10 : decode cX11_powersIn 10 = .ok (.getfield 13, 3) := by decide +kernel
theorem dX11_powersIn_13 : decode cX11_powersIn 13 = .ok (.iconst 4, 1) := by decide +kernel
theorem dX11_powersIn_14 : decode cX11_powersIn 14 = .ok (.iload_n 1, 1) := by decide +kernel
theorem dX11_powersIn_15 : decode cX11_powersIn 15 = .ok (.imul, 1) := by decide +kernel
theorem dX11_powersIn_16 : decode cX11_powersIn 16 = .ok (.iconst 1, 1) := by decide +kernel
theorem dX11_powersIn_17 : decode cX11_powersIn 17 = .ok (.iadd, 1) := by decide +kernel
theorem dX11_powersIn_18 : decode cX11_powersIn 18 = .ok (.iaload, 1) := by decide +kernel
theorem dX11_powersIn_19 : decode cX11_powersIn 19 = .ok (.istore_n 3, 1) := by decide +kernel
theorem dX11_powersIn_20 : decode cX11_powersIn 20 = .ok (.aload_n 0, 1) := by decide +kernel
theorem dX11_powersIn_21 : decode cX11_powersIn 21 = .ok (.iload_n 2, 1) := by decide +kernel
theorem dX11_powersIn_22 : decode cX11_powersIn 22 = .ok (.invokevirtual 304, 3) := by decide +kernel
theorem dX11_powersIn_25 : decode cX11_powersIn 25 = .ok (.ifCond .eq 7, 3) := by decide +kernel
theorem dX11_powersIn_28 : decode cX11_powersIn 28 = .ok (.iload_n 2, 1) := by decide +kernel
theorem dX11_powersIn_29 : decode cX11_powersIn 29 = .ok (.goto 17, 3) := by decide +kernel
theorem dX11_powersIn_32 : decode cX11_powersIn 32 = .ok (.aload_n 0, 1) := by decide +kernel
theorem dX11_powersIn_33 : decode cX11_powersIn 33 = .ok (.iload_n 3, 1) := by decide +kernel
theorem dX11_powersIn_34 : decode cX11_powersIn 34 = .ok (.invokevirtual 304, 3) := by decide +kernel
theorem dX11_powersIn_37 : decode cX11_powersIn 37 = .ok (.ifCond .eq 7, 3) := by decide +kernel
theorem dX11_powersIn_40 : decode cX11_powersIn 40 = .ok (.iload_n 3, 1) := by decide +kernel
theorem dX11_powersIn_41 : decode cX11_powersIn 41 = .ok (.goto 5, 3) := by decide +kernel
theorem dX11_powersIn_44 : decode cX11_powersIn 44 = .ok (.ldc 54, 2) := by decide +kernel
theorem dX11_powersIn_46 : decode cX11_powersIn 46 = .ok (.ireturn, 1) := by decide +kernel
theorem dX11_canBe_0 : decode cX11_canBe 0 = .ok (.aload_n 0, 1) := by decide +kernel
theorem dX11_canBe_1 : decode cX11_canBe 1 = .ok (.iload_n 1, 1) := by decide +kernel
theorem dX11_canBe_2 : decode cX11_canBe 2 = .ok (.invokevirtual 260, 3) := by decide +kernel
theorem dX11_canBe_5 : decode cX11_canBe 5 = .ok (.ifCond .ne 5, 3) := by decide +kernel
theorem dX11_canBe_8 : decode cX11_canBe 8 = .ok (.iconst 0, 1) := by decide +kernel
theorem dX11_canBe_9 : decode cX11_canBe 9 = .ok (.ireturn, 1) := by decide +kernel
theorem dX11_canBe_10 : decode cX11_canBe 10 = .ok (.aload_n 0, 1) := by decide +kernel
theorem dX11_canBe_11 : decode cX11_canBe 11 = .ok (.getfield 13, 3) := by decide +kernel
theorem dX11_canBe_14 : decode cX11_canBe 14 = .ok (.iconst 4, 1) := by decide +kernel
theorem dX11_canBe_15 : decode cX11_canBe 15 = .ok (.iload_n 1, 1) := by decide +kernel
theorem dX11_canBe_16 : decode cX11_canBe 16 = .ok (.imul, 1) := by decide +kernel
theorem dX11_canBe_17 : decode cX11_canBe 17 = .ok (.iaload, 1) := by decide +kernel
theorem dX11_canBe_18 : decode cX11_canBe 18 = .ok (.istore_n 2, 1) := by decide +kernel
theorem dX11_canBe_19 : decode cX11_canBe 19 = .ok (.aload_n 0, 1) := by decide +kernel
theorem dX11_canBe_20 : decode cX11_canBe 20 = .ok (.getfield 13, 3) := by decide +kernel
theorem dX11_canBe_23 : decode cX11_canBe 23 = .ok (.iconst 4, 1) := by decide +kernel
theorem dX11_canBe_24 : decode cX11_canBe 24 = .ok (.iload_n 1, 1) := by decide +kernel
theorem dX11_canBe_25 : decode cX11_canBe 25 = .ok (.imul, 1) := by decide +kernel
theorem dX11_canBe_26 : decode cX11_canBe 26 = .ok (.iconst 1, 1) := by decide +kernel
theorem dX11_canBe_27 : decode cX11_canBe 27 = .ok (.iadd, 1) := by decide +kernel
theorem dX11_canBe_28 : decode cX11_canBe 28 = .ok (.iaload, 1) := by decide +kernel
theorem dX11_canBe_29 : decode cX11_canBe 29 = .ok (.istore_n 3, 1) := by decide +kernel
theorem dX11_canBe_30 : decode cX11_canBe 30 = .ok (.aload_n 0, 1) := by decide +kernel
theorem dX11_canBe_31 : decode cX11_canBe 31 = .ok (.getfield 7, 3) := by decide +kernel
theorem dX11_canBe_34 : decode cX11_canBe 34 = .ok (.iload_n 1, 1) := by decide +kernel
theorem dX11_canBe_35 : decode cX11_canBe 35 = .ok (.iaload, 1) := by decide +kernel
theorem dX11_canBe_36 : decode cX11_canBe 36 = .ok (.lookupswitch 92 #[(1, 28), (2, 76)], 28) := by decide +kernel
theorem dX11_canBe_64 : decode cX11_canBe 64 = .ok (.aload_n 0, 1) := by decide +kernel
theorem dX11_canBe_65 : decode cX11_canBe 65 = .ok (.getfield 13, 3) := by decide +kernel
theorem dX11_canBe_68 : decode cX11_canBe 68 = .ok (.iconst 4, 1) := by decide +kernel
theorem dX11_canBe_69 : decode cX11_canBe 69 = .ok (.iload_n 2, 1) := by decide +kernel
theorem dX11_canBe_70 : decode cX11_canBe 70 = .ok (.imul, 1) := by decide +kernel
theorem dX11_canBe_71 : decode cX11_canBe 71 = .ok (.iaload, 1) := by decide +kernel
theorem dX11_canBe_72 : decode cX11_canBe 72 = .ok (.aload_n 0, 1) := by decide +kernel
theorem dX11_canBe_73 : decode cX11_canBe 73 = .ok (.getfield 13, 3) := by decide +kernel
theorem dX11_canBe_76 : decode cX11_canBe 76 = .ok (.iconst 4, 1) := by decide +kernel
theorem dX11_canBe_77 : decode cX11_canBe 77 = .ok (.iload_n 3, 1) := by decide +kernel
theorem dX11_canBe_78 : decode cX11_canBe 78 = .ok (.imul, 1) := by decide +kernel
theorem dX11_canBe_79 : decode cX11_canBe 79 = .ok (.iaload, 1) := by decide +kernel
theorem dX11_canBe_80 : decode cX11_canBe 80 = .ok (.if_icmp .ne 30, 3) := by decide +kernel
theorem dX11_canBe_83 : decode cX11_canBe 83 = .ok (.aload_n 0, 1) := by decide +kernel
theorem dX11_canBe_84 : decode cX11_canBe 84 = .ok (.getfield 13, 3) := by decide +kernel
theorem dX11_canBe_87 : decode cX11_canBe 87 = .ok (.iconst 4, 1) := by decide +kernel
theorem dX11_canBe_88 : decode cX11_canBe 88 = .ok (.iload_n 2, 1) := by decide +kernel
theorem dX11_canBe_89 : decode cX11_canBe 89 = .ok (.imul, 1) := by decide +kernel
theorem dX11_canBe_90 : decode cX11_canBe 90 = .ok (.iconst 1, 1) := by decide +kernel
theorem dX11_canBe_91 : decode cX11_canBe 91 = .ok (.iadd, 1) := by decide +kernel
theorem dX11_canBe_92 : decode cX11_canBe 92 = .ok (.iaload, 1) := by decide +kernel
theorem dX11_canBe_93 : decode cX11_canBe 93 = .ok (.aload_n 0, 1) := by decide +kernel
theorem dX11_canBe_94 : decode cX11_canBe 94 = .ok (.getfield 13, 3) := by decide +kernel
theorem dX11_canBe_97 : decode cX11_canBe 97 = .ok (.iconst 4, 1) := by decide +kernel
theorem dX11_canBe_98 : decode cX11_canBe 98 = .ok (.iload_n 3, 1) := by decide +kernel
theorem dX11_canBe_99 : decode cX11_canBe 99 = .ok (.imul, 1) := by decide +kernel
theorem dX11_canBe_100 : decode cX11_canBe 100 = .ok (.iconst 1, 1) := by decide +kernel
theorem dX11_canBe_101 : decode cX11_canBe 101 = .ok (.iadd, 1) := by decide +kernel
theorem dX11_canBe_102 : decode cX11_canBe 102 = .ok (.iaload, 1) := by decide +kernel
theorem dX11_canBe_103 : decode cX11_canBe 103 = .ok (.if_icmp .ne 7, 3) := by decide +kernel
theorem dX11_canBe_106 : decode cX11_canBe 106 = .ok (.iconst 1, 1) := by decide +kernel
theorem dX11_canBe_107 : decode cX11_canBe 107 = .ok (.goto 4, 3) := by decide +kernel
theorem dX11_canBe_110 : decode cX11_canBe 110 = .ok (.iconst 0, 1) := by decide +kernel
theorem dX11_canBe_111 : decode cX11_canBe 111 = .ok (.ireturn, 1) := by decide +kernel
theorem dX11_canBe_112 : decode cX11_canBe 112 = .ok (.aload_n 0, 1) := by decide +kernel
theorem dX11_canBe_113 : decode cX11_canBe 113 = .ok (.iload_n 1, 1) := by decide +kernel
theorem dX11_canBe_114 : decode cX11_canBe 114 = .ok (.invokevirtual 307, 3) := by decide +kernel
theorem dX11_canBe_117 : decode cX11_canBe 117 = .ok (.ldc 54, 2) := by decide +kernel
theorem dX11_canBe_119 : decode cX11_canBe 119 = .ok (.if_icmp .eq 7, 3) := by decide +kernel
theorem dX11_canBe_122 : decode cX11_canBe 122 = .ok (.iconst 1, 1) := by decide +kernel
theorem dX11_canBe_123 : decode cX11_canBe 123 = .ok (.goto 4, 3) := by decide +kernel
theorem dX11_canBe_126 : decode cX11_canBe 126 = .ok (.iconst 0, 1) := by decide +kernel
theorem dX11_canBe_127 : decode cX11_canBe 127 = .ok (.ireturn, 1) := by decide +kernel
theorem dX11_canBe_128 : decode cX11_canBe 128 = .ok (.iconst 1, 1) := by decide +kernel
theorem dX11_canBe_129 : decode cX11_canBe 129 = .ok (.ireturn, 1) := by decide +kernel
theorem dX11_easedC_0 : decode cX11_easedC 0 = .ok (.aload_n 0, 1) := by decide +kernel
theorem dX11_easedC_1 : decode cX11_easedC 1 = .ok (.getfield 13, 3) := by decide +kernel
theorem dX11_easedC_4 : decode cX11_easedC 4 = .ok (.iconst 4, 1) := by decide +kernel
theorem dX11_easedC_5 : decode cX11_easedC 5 = .ok (.iload_n 1, 1) := by decide +kernel
theorem dX11_easedC_6 : decode cX11_easedC 6 = .ok (.imul, 1) := by decide +kernel
theorem dX11_easedC_7 : decode cX11_easedC 7 = .ok (.iaload, 1) := by decide +kernel
theorem dX11_easedC_8 : decode cX11_easedC 8 = .ok (.istore_n 2, 1) := by decide +kernel
theorem dX11_easedC_9 : decode cX11_easedC 9 = .ok (.aload_n 0, 1) := by decide +kernel
theorem dX11_easedC_10 : decode cX11_easedC 10 = .ok (.getfield 7, 3) := by decide +kernel
theorem dX11_easedC_13 : decode cX11_easedC 13 = .ok (.iload_n 1, 1) := by decide +kernel
theorem dX11_easedC_14 : decode cX11_easedC 14 = .ok (.iaload, 1) := by decide +kernel
theorem dX11_easedC_15 : decode cX11_easedC 15 = .ok (.lookupswitch 59 #[(2, 25), (3, 52)], 25) := by decide +kernel
theorem dX11_easedC_40 : decode cX11_easedC 40 = .ok (.aload_n 0, 1) := by decide +kernel
theorem dX11_easedC_41 : decode cX11_easedC 41 = .ok (.getfield 13, 3) := by decide +kernel
theorem dX11_easedC_44 : decode cX11_easedC 44 = .ok (.iconst 4, 1) := by decide +kernel
theorem dX11_easedC_45 : decode cX11_easedC 45 = .ok (.iload_n 2, 1) := by decide +kernel
theorem dX11_easedC_46 : decode cX11_easedC 46 = .ok (.imul, 1) := by decide +kernel
theorem dX11_easedC_47 : decode cX11_easedC 47 = .ok (.iaload, 1) := by decide +kernel
theorem dX11_easedC_48 : decode cX11_easedC 48 = .ok (.aload_n 0, 1) := by decide +kernel
theorem dX11_easedC_49 : decode cX11_easedC 49 = .ok (.getfield 13, 3) := by decide +kernel
theorem dX11_easedC_52 : decode cX11_easedC 52 = .ok (.iconst 4, 1) := by decide +kernel
theorem dX11_easedC_53 : decode cX11_easedC 53 = .ok (.aload_n 0, 1) := by decide +kernel
theorem dX11_easedC_54 : decode cX11_easedC 54 = .ok (.getfield 13, 3) := by decide +kernel
theorem dX11_easedC_57 : decode cX11_easedC 57 = .ok (.iconst 4, 1) := by decide +kernel
theorem dX11_easedC_58 : decode cX11_easedC 58 = .ok (.iload_n 1, 1) := by decide +kernel
theorem dX11_easedC_59 : decode cX11_easedC 59 = .ok (.imul, 1) := by decide +kernel
theorem dX11_easedC_60 : decode cX11_easedC 60 = .ok (.iconst 1, 1) := by decide +kernel
theorem dX11_easedC_61 : decode cX11_easedC 61 = .ok (.iadd, 1) := by decide +kernel
theorem dX11_easedC_62 : decode cX11_easedC 62 = .ok (.iaload, 1) := by decide +kernel
theorem dX11_easedC_63 : decode cX11_easedC 63 = .ok (.imul, 1) := by decide +kernel
theorem dX11_easedC_64 : decode cX11_easedC 64 = .ok (.iaload, 1) := by decide +kernel
theorem dX11_easedC_65 : decode cX11_easedC 65 = .ok (.imul, 1) := by decide +kernel
theorem dX11_easedC_66 : decode cX11_easedC 66 = .ok (.ireturn, 1) := by decide +kernel
theorem dX11_easedC_67 : decode cX11_easedC 67 = .ok (.aload_n 0, 1) := by decide +kernel
theorem dX11_easedC_68 : decode cX11_easedC 68 = .ok (.iload_n 1, 1) := by decide +kernel
theorem dX11_easedC_69 : decode cX11_easedC 69 = .ok (.iconst 1, 1) := by decide +kernel
theorem dX11_easedC_70 : decode cX11_easedC 70 = .ok (.invokevirtual 257, 3) := by decide +kernel
theorem dX11_easedC_73 : decode cX11_easedC 73 = .ok (.ireturn, 1) := by decide +kernel
theorem dX11_easedC_74 : decode cX11_easedC 74 = .ok (.aload_n 0, 1) := by decide +kernel
theorem dX11_easedC_75 : decode cX11_easedC 75 = .ok (.getfield 13, 3) := by decide +kernel
theorem dX11_easedC_78 : decode cX11_easedC 78 = .ok (.iconst 4, 1) := by decide +kernel
theorem dX11_easedC_79 : decode cX11_easedC 79 = .ok (.iload_n 2, 1) := by decide +kernel
theorem dX11_easedC_80 : decode cX11_easedC 80 = .ok (.imul, 1) := by decide +kernel
theorem dX11_easedC_81 : decode cX11_easedC 81 = .ok (.iaload, 1) := by decide +kernel
theorem dX11_easedC_82 : decode cX11_easedC 82 = .ok (.ireturn, 1) := by decide +kernel
theorem dX11_easedD_0 : decode cX11_easedD 0 = .ok (.aload_n 0, 1) := by decide +kernel
theorem dX11_easedD_1 : decode cX11_easedD 1 = .ok (.getfield 13, 3) := by decide +kernel
theorem dX11_easedD_4 : decode cX11_easedD 4 = .ok (.iconst 4, 1) := by decide +kernel
theorem dX11_easedD_5 : decode cX11_easedD 5 = .ok (.iload_n 1, 1) := by decide +kernel
theorem dX11_easedD_6 : decode cX11_easedD 6 = .ok (.imul, 1) := by decide +kernel
theorem dX11_easedD_7 : decode cX11_easedD 7 = .ok (.iaload, 1) := by decide +kernel
theorem dX11_easedD_8 : decode cX11_easedD 8 = .ok (.istore_n 2, 1) := by decide +kernel
theorem dX11_easedD_9 : decode cX11_easedD 9 = .ok (.aload_n 0, 1) := by decide +kernel
theorem dX11_easedD_10 : decode cX11_easedD 10 = .ok (.getfield 7, 3) := by decide +kernel
theorem dX11_easedD_13 : decode cX11_easedD 13 = .ok (.iload_n 1, 1) := by decide +kernel
theorem dX11_easedD_14 : decode cX11_easedD 14 = .ok (.iaload, 1) := by decide +kernel
theorem dX11_easedD_15 : decode cX11_easedD 15 = .ok (.lookupswitch 84 #[(2, 25), (3, 77)], 25) := by decide +kernel
theorem dX11_easedD_40 : decode cX11_easedD 40 = .ok (.aload_n 0, 1) := by decide +kernel
theorem dX11_easedD_41 : decode cX11_easedD 41 = .ok (.iload_n 1, 1) := by decide +kernel
theorem dX11_easedD_42 : decode cX11_easedD 42 = .ok (.invokevirtual 307, 3) := by decide +kernel
theorem dX11_easedD_45 : decode cX11_easedD 45 = .ok (.istore_n 3, 1) := by decide +kernel
theorem dX11_easedD_46 : decode cX11_easedD 46 = .ok (.iload_n 2, 1) := by decide +kernel
theorem dX11_easedD_47 : decode cX11_easedD 47 = .ok (.aload_n 0, 1) := by decide +kernel
theorem dX11_easedD_48 : decode cX11_easedD 48 = .ok (.getfield 13, 3) := by decide +kernel
theorem dX11_easedD_51 : decode cX11_easedD 51 = .ok (.iconst 4, 1) := by decide +kernel
theorem dX11_easedD_52 : decode cX11_easedD 52 = .ok (.iload_n 1, 1) := by decide +kernel
theorem dX11_easedD_53 : decode cX11_easedD 53 = .ok (.imul, 1) := by decide +kernel
theorem dX11_easedD_54 : decode cX11_easedD 54 = .ok (.iconst 1, 1) := by decide +kernel
theorem dX11_easedD_55 : decode cX11_easedD 55 = .ok (.iadd, 1) := by decide +kernel
theorem dX11_easedD_56 : decode cX11_easedD 56 = .ok (.iaload, 1) := by decide +kernel
theorem dX11_easedD_57 : decode cX11_easedD 57 = .ok (.iadd, 1) := by decide +kernel
theorem dX11_easedD_58 : decode cX11_easedD 58 = .ok (.iload_n 3, 1) := by decide +kernel
theorem dX11_easedD_59 : decode cX11_easedD 59 = .ok (.isub, 1) := by decide +kernel
theorem dX11_easedD_60 : decode cX11_easedD 60 = .ok (.istore 4, 2) := by decide +kernel
theorem dX11_easedD_62 : decode cX11_easedD 62 = .ok (.aload_n 0, 1) := by decide +kernel
theorem dX11_easedD_63 : decode cX11_easedD 63 = .ok (.getfield 13, 3) := by decide +kernel
theorem dX11_easedD_66 : decode cX11_easedD 66 = .ok (.iconst 4, 1) := by decide +kernel
theorem dX11_easedD_67 : decode cX11_easedD 67 = .ok (.iload_n 3, 1) := by decide +kernel
theorem dX11_easedD_68 : decode cX11_easedD 68 = .ok (.imul, 1) := by decide +kernel
theorem dX11_easedD_69 : decode cX11_easedD 69 = .ok (.iaload, 1) := by decide +kernel
theorem dX11_easedD_70 : decode cX11_easedD 70 = .ok (.aload_n 0, 1) := by decide +kernel
theorem dX11_easedD_71 : decode cX11_easedD 71 = .ok (.getfield 13, 3) := by decide +kernel
theorem dX11_easedD_74 : decode cX11_easedD 74 = .ok (.iconst 4, 1) := by decide +kernel
theorem dX11_easedD_75 : decode cX11_easedD 75 = .ok (.iload_n 3, 1) := by decide +kernel
theorem dX11_easedD_76 : decode cX11_easedD 76 = .ok (.imul, 1) := by decide +kernel
theorem dX11_easedD_77 : decode cX11_easedD 77 = .ok (.iaload, 1) := by decide +kernel
theorem dX11_easedD_78 : decode cX11_easedD 78 = .ok (.imul, 1) := by decide +kernel
theorem dX11_easedD_79 : decode cX11_easedD 79 = .ok (.aload_n 0, 1) := by decide +kernel
theorem dX11_easedD_80 : decode cX11_easedD 80 = .ok (.getfield 13, 3) := by decide +kernel
theorem dX11_easedD_83 : decode cX11_easedD 83 = .ok (.iconst 4, 1) := by decide +kernel
theorem dX11_easedD_84 : decode cX11_easedD 84 = .ok (.iload 4, 2) := by decide +kernel
theorem dX11_easedD_86 : decode cX11_easedD 86 = .ok (.imul, 1) := by decide +kernel
theorem dX11_easedD_87 : decode cX11_easedD 87 = .ok (.iconst 1, 1) := by decide +kernel
theorem dX11_easedD_88 : decode cX11_easedD 88 = .ok (.iadd, 1) := by decide +kernel
theorem dX11_easedD_89 : decode cX11_easedD 89 = .ok (.iaload, 1) := by decide +kernel
theorem dX11_easedD_90 : decode cX11_easedD 90 = .ok (.imul, 1) := by decide +kernel
theorem dX11_easedD_91 : decode cX11_easedD 91 = .ok (.ireturn, 1) := by decide +kernel
theorem dX11_easedD_92 : decode cX11_easedD 92 = .ok (.aload_n 0, 1) := by decide +kernel
theorem dX11_easedD_93 : decode cX11_easedD 93 = .ok (.iload_n 1, 1) := by decide +kernel
theorem dX11_easedD_94 : decode cX11_easedD 94 = .ok (.iconst 2, 1) := by decide +kernel
theorem dX11_easedD_95 : decode cX11_easedD 95 = .ok (.invokevirtual 257, 3) := by decide +kernel
theorem dX11_easedD_98 : decode cX11_easedD 98 = .ok (.ireturn, 1) := by decide +kernel
theorem dX11_easedD_99 : decode cX11_easedD 99 = .ok (.aload_n 0, 1) := by decide +kernel
theorem dX11_easedD_100 : decode cX11_easedD 100 = .ok (.getfield 13, 3) := by decide +kernel
theorem dX11_easedD_103 : decode cX11_easedD 103 = .ok (.iconst 4, 1) := by decide +kernel
theorem dX11_easedD_104 : decode cX11_easedD 104 = .ok (.iload_n 2, 1) := by decide +kernel
theorem dX11_easedD_105 : decode cX11_easedD 105 = .ok (.imul, 1) := by decide +kernel
theorem dX11_easedD_106 : decode cX11_easedD 106 = .ok (.iconst 1, 1) := by decide +kernel
theorem dX11_easedD_107 : decode cX11_easedD 107 = .ok (.iadd, 1) := by decide +kernel
theorem dX11_easedD_108 : decode cX11_easedD 108 = .ok (.iaload, 1) := by decide +kernel
theorem dX11_easedD_109 : decode cX11_easedD 109 = .ok (.ireturn, 1) := by decide +kernel
theorem dX11_ease_0 : decode cX11_ease 0 = .ok (.aload_n 0, 1) := by decide +kernel
theorem dX11_ease_1 : decode cX11_ease 1 = .ok (.iload_n 1, 1) := by decide +kernel
theorem dX11_ease_2 : decode cX11_ease 2 = .ok (.invokevirtual 193, 3) := by decide +kernel
theorem dX11_ease_5 : decode cX11_ease 5 = .ok (.ifCond .ne 6, 3) := by decide +kernel
theorem dX11_ease_8 : decode cX11_ease 8 = .ok (.ldc 196, 2) := by decide +kernel
theorem dX11_ease_10 : decode cX11_ease 10 = .ok (.ireturn, 1) := by decide +kernel
theorem dX11_ease_11 : decode cX11_ease 11 = .ok (.aload_n 0, 1) := by decide +kernel
theorem dX11_ease_12 : decode cX11_ease 12 = .ok (.iload_n 1, 1) := by decide +kernel
theorem dX11_ease_13 : decode cX11_ease 13 = .ok (.invokevirtual 310, 3) := by decide +kernel
theorem dX11_ease_16 : decode cX11_ease 16 = .ok (.ifCond .ne 6, 3) := by decide +kernel
theorem dX11_ease_19 : decode cX11_ease 19 = .ok (.ldc 115, 2) := by decide +kernel
theorem dX11_ease_21 : decode cX11_ease 21 = .ok (.ireturn, 1) := by decide +kernel
theorem dX11_ease_22 : decode cX11_ease 22 = .ok (.aload_n 0, 1) := by decide +kernel
theorem dX11_ease_23 : decode cX11_ease 23 = .ok (.iload_n 1, 1) := by decide +kernel
theorem dX11_ease_24 : decode cX11_ease 24 = .ok (.invokevirtual 313, 3) := by decide +kernel
theorem dX11_ease_27 : decode cX11_ease 27 = .ok (.istore_n 2, 1) := by decide +kernel
theorem dX11_ease_28 : decode cX11_ease 28 = .ok (.aload_n 0, 1) := by decide +kernel
theorem dX11_ease_29 : decode cX11_ease 29 = .ok (.iload_n 1, 1) := by decide +kernel
theorem dX11_ease_30 : decode cX11_ease 30 = .ok (.invokevirtual 316, 3) := by decide +kernel
theorem dX11_ease_33 : decode cX11_ease 33 = .ok (.istore_n 3, 1) := by decide +kernel
theorem dX11_ease_34 : decode cX11_ease 34 = .ok (.aload_n 0, 1) := by decide +kernel
theorem dX11_ease_35 : decode cX11_ease 35 = .ok (.iload_n 1, 1) := by decide +kernel
theorem dX11_ease_36 : decode cX11_ease 36 = .ok (.iconst 0, 1) := by decide +kernel
theorem dX11_ease_37 : decode cX11_ease 37 = .ok (.invokevirtual 201, 3) := by decide +kernel
theorem dX11_ease_40 : decode cX11_ease 40 = .ok (.istore 4, 2) := by decide +kernel
theorem dX11_ease_42 : decode cX11_ease 42 = .ok (.aload_n 0, 1) := by decide +kernel
theorem dX11_ease_43 : decode cX11_ease 43 = .ok (.iload_n 1, 1) := by decide +kernel
theorem dX11_ease_44 : decode cX11_ease 44 = .ok (.iconst 1, 1) := by decide +kernel
theorem dX11_ease_45 : decode cX11_ease 45 = .ok (.invokevirtual 201, 3) := by decide +kernel
theorem dX11_ease_48 : decode cX11_ease 48 = .ok (.istore 5, 2) := by decide +kernel
theorem dX11_ease_50 : decode cX11_ease 50 = .ok (.iload_n 2, 1) := by decide +kernel
theorem dX11_ease_51 : decode cX11_ease 51 = .ok (.invokestatic 294, 3) := by decide +kernel
theorem dX11_ease_54 : decode cX11_ease 54 = .ok (.ifCond .eq 26, 3) := by decide +kernel
theorem dX11_ease_57 : decode cX11_ease 57 = .ok (.iload_n 3, 1) := by decide +kernel
theorem dX11_ease_58 : decode cX11_ease 58 = .ok (.invokestatic 294, 3) := by decide +kernel
theorem dX11_ease_61 : decode cX11_ease 61 = .ok (.ifCond .eq 19, 3) := by decide +kernel
theorem dX11_ease_64 : decode cX11_ease 64 = .ok (.iload 4, 2) := by decide +kernel
theorem dX11_ease_66 : decode cX11_ease 66 = .ok (.invokestatic 297, 3) := by decide +kernel
theorem dX11_ease_69 : decode cX11_ease 69 = .ok (.ifCond .eq 11, 3) := by decide +kernel
theorem dX11_ease_72 : decode cX11_ease 72 = .ok (.iload 5, 2) := by decide +kernel
theorem dX11_ease_74 : decode cX11_ease 74 = .ok (.invokestatic 297, 3) := by decide +kernel
theorem dX11_ease_77 : decode cX11_ease 77 = .ok (.ifCond .ne 6, 3) := by decide +kernel
theorem dX11_ease_80 : decode cX11_ease 80 = .ok (.ldc 115, 2) := by decide +kernel
theorem dX11_ease_82 : decode cX11_ease 82 = .ok (.ireturn, 1) := by decide +kernel
theorem dX11_ease_83 : decode cX11_ease 83 = .ok (.aload_n 0, 1) := by decide +kernel
theorem dX11_ease_84 : decode cX11_ease 84 = .ok (.getfield 7, 3) := by decide +kernel
theorem dX11_ease_87 : decode cX11_ease 87 = .ok (.iload_n 1, 1) := by decide +kernel
theorem dX11_ease_88 : decode cX11_ease 88 = .ok (.iaload, 1) := by decide +kernel
theorem dX11_ease_89 : decode cX11_ease 89 = .ok (.istore 6, 2) := by decide +kernel
theorem dX11_ease_91 : decode cX11_ease 91 = .ok (.aload_n 0, 1) := by decide +kernel
theorem dX11_ease_92 : decode cX11_ease 92 = .ok (.iload_n 1, 1) := by decide +kernel
theorem dX11_ease_93 : decode cX11_ease 93 = .ok (.iconst 0, 1) := by decide +kernel
theorem dX11_ease_94 : decode cX11_ease 94 = .ok (.iload_n 2, 1) := by decide +kernel
theorem dX11_ease_95 : decode cX11_ease 95 = .ok (.iload_n 3, 1) := by decide +kernel
theorem dX11_ease_96 : decode cX11_ease 96 = .ok (.iload 4, 2) := by decide +kernel
theorem dX11_ease_98 : decode cX11_ease 98 = .ok (.iload 5, 2) := by decide +kernel
theorem dX11_ease_100 : decode cX11_ease 100 = .ok (.invokevirtual 290, 3) := by decide +kernel
theorem dX11_ease_103 : decode cX11_ease 103 = .ok (.iload 6, 2) := by decide +kernel
theorem dX11_ease_105 : decode cX11_ease 105 = .ok (.ireturn, 1) := by decide +kernel
theorem dX11_give_0 : decode cX11_give 0 = .ok (.iload_n 1, 1) := by decide +kernel
theorem dX11_give_1 : decode cX11_give 1 = .ok (.bipush (-99), 2) := by decide +kernel
theorem dX11_give_3 : decode cX11_give 3 = .ok (.bipush 99, 2) := by decide +kernel
theorem dX11_give_5 : decode cX11_give 5 = .ok (.invokestatic 68, 3) := by decide +kernel
theorem dX11_give_8 : decode cX11_give 8 = .ok (.ifCond .ne 6, 3) := by decide +kernel
theorem dX11_give_11 : decode cX11_give 11 = .ok (.ldc 72, 2) := by decide +kernel
theorem dX11_give_13 : decode cX11_give 13 = .ok (.ireturn, 1) := by decide +kernel
theorem dX11_give_14 : decode cX11_give 14 = .ok (.aload_n 0, 1) := by decide +kernel
theorem dX11_give_15 : decode cX11_give 15 = .ok (.getfield 319, 3) := by decide +kernel
theorem dX11_give_18 : decode cX11_give 18 = .ok (.bipush 8, 2) := by decide +kernel
theorem dX11_give_20 : decode cX11_give 20 = .ok (.if_icmp .ne 6, 3) := by decide +kernel
theorem dX11_give_23 : decode cX11_give 23 = .ok (.ldc 76, 2) := by decide +kernel
theorem dX11_give_25 : decode cX11_give 25 = .ok (.ireturn, 1) := by decide +kernel
theorem dX11_give_26 : decode cX11_give 26 = .ok (.aload_n 0, 1) := by decide +kernel
theorem dX11_give_27 : decode cX11_give 27 = .ok (.getfield 16, 3) := by decide +kernel
theorem dX11_give_30 : decode cX11_give 30 = .ok (.aload_n 0, 1) := by decide +kernel
theorem dX11_give_31 : decode cX11_give 31 = .ok (.getfield 319, 3) := by decide +kernel
theorem dX11_give_34 : decode cX11_give 34 = .ok (.iload_n 1, 1) := by decide +kernel
theorem dX11_give_35 : decode cX11_give 35 = .ok (.iastore, 1) := by decide +kernel
theorem dX11_give_36 : decode cX11_give 36 = .ok (.aload_n 0, 1) := by decide +kernel
theorem dX11_give_37 : decode cX11_give 37 = .ok (.dup, 1) := by decide +kernel
theorem dX11_give_38 : decode cX11_give 38 = .ok (.getfield 319, 3) := by decide +kernel
theorem dX11_give_41 : decode cX11_give 41 = .ok (.iconst 1, 1) := by decide +kernel
theorem dX11_give_42 : decode cX11_give 42 = .ok (.iadd, 1) := by decide +kernel
theorem dX11_give_43 : decode cX11_give 43 = .ok (.putfield 319, 3) := by decide +kernel
theorem dX11_give_46 : decode cX11_give 46 = .ok (.aload_n 0, 1) := by decide +kernel
theorem dX11_give_47 : decode cX11_give 47 = .ok (.getfield 319, 3) := by decide +kernel
theorem dX11_give_50 : decode cX11_give 50 = .ok (.ireturn, 1) := by decide +kernel
theorem dX11_forget_0 : decode cX11_forget 0 = .ok (.aload_n 0, 1) := by decide +kernel
theorem dX11_forget_1 : decode cX11_forget 1 = .ok (.getfield 319, 3) := by decide +kernel
theorem dX11_forget_4 : decode cX11_forget 4 = .ok (.istore_n 1, 1) := by decide +kernel
theorem dX11_forget_5 : decode cX11_forget 5 = .ok (.aload_n 0, 1) := by decide +kernel
theorem dX11_forget_6 : decode cX11_forget 6 = .ok (.iconst 0, 1) := by decide +kernel
theorem dX11_forget_7 : decode cX11_forget 7 = .ok (.putfield 319, 3) := by decide +kernel
theorem dX11_forget_10 : decode cX11_forget 10 = .ok (.iload_n 1, 1) := by decide +kernel
theorem dX11_forget_11 : decode cX11_forget 11 = .ok (.ireturn, 1) := by decide +kernel
theorem dX11_isGuess_0 : decode cX11_isGuess 0 = .ok (.iconst 1, 1) := by decide +kernel
theorem dX11_isGuess_1 : decode cX11_isGuess 1 = .ok (.istore 4, 2) := by decide +kernel
theorem dX11_isGuess_3 : decode cX11_isGuess 3 = .ok (.iload_n 1, 1) := by decide +kernel
theorem dX11_isGuess_4 : decode cX11_isGuess 4 = .ok (.istore 5, 2) := by decide +kernel
theorem dX11_isGuess_6 : decode cX11_isGuess 6 = .ok (.iload 5, 2) := by decide +kernel
theorem dX11_isGuess_8 : decode cX11_isGuess 8 = .ok (.aload_n 0, 1) := by decide +kernel
theorem dX11_isGuess_9 : decode cX11_isGuess 9 = .ok (.getfield 319, 3) := by decide +kernel
theorem dX11_isGuess_12 : decode cX11_isGuess 12 = .ok (.if_icmp .ge 85, 3) := by decide +kernel
theorem dX11_isGuess_15 : decode cX11_isGuess 15 = .ok (.iload_n 1, 1) := by decide +kernel
theorem dX11_isGuess_16 : decode cX11_isGuess 16 = .ok (.ifCond .ne 7, 3) := by decide +kernel
theorem dX11_isGuess_19 : decode cX11_isGuess 19 = .ok (.iconst 0, 1) := by decide +kernel
theorem dX11_isGuess_20 : decode cX11_isGuess 20 = .ok (.goto 45, 3) := by decide +kernel
theorem dX11_isGuess_23 : decode cX11_isGuess 23 = .ok (.iload_n 1, 1) := by decide +kernel
theorem dX11_isGuess_24 : decode cX11_isGuess 24 = .ok (.iconst 1, 1) := by decide +kernel
theorem dX11_isGuess_25 : decode cX11_isGuess 25 = .ok (.if_icmp .ne 17, 3) := by decide +kernel
theorem dX11_isGuess_28 : decode cX11_isGuess 28 = .ok (.iload_n 2, 1) := by decide +kernel
theorem dX11_isGuess_29 : decode cX11_isGuess 29 = .ok (.aload_n 0, 1) := by decide +kernel
theorem dX11_isGuess_30 : decode cX11_isGuess 30 = .ok (.getfield 16, 3) := by decide +kernel
theorem dX11_isGuess_33 : decode cX11_isGuess 33 = .ok (.iload 5, 2) := by decide +kernel
theorem dX11_isGuess_35 : decode cX11_isGuess 35 = .ok (.iconst 1, 1) := by decide +kernel
theorem dX11_isGuess_36 : decode cX11_isGuess 36 = .ok (.isub, 1) := by decide +kernel
theorem dX11_isGuess_37 : decode cX11_isGuess 37 = .ok (.iaload, 1) := by decide +kernel
theorem dX11_isGuess_38 : decode cX11_isGuess 38 = .ok (.imul, 1) := by decide +kernel
theorem dX11_isGuess_39 : decode cX11_isGuess 39 = .ok (.goto 26, 3) := by decide +kernel
theorem dX11_isGuess_42 : decode cX11_isGuess 42 = .ok (.iload_n 2, 1) := by decide +kernel
theorem dX11_isGuess_43 : decode cX11_isGuess 43 = .ok (.aload_n 0, 1) := by decide +kernel
theorem dX11_isGuess_44 : decode cX11_isGuess 44 = .ok (.getfield 16, 3) := by decide +kernel
theorem dX11_isGuess_47 : decode cX11_isGuess 47 = .ok (.iload 5, 2) := by decide +kernel
theorem dX11_isGuess_49 : decode cX11_isGuess 49 = .ok (.iconst 1, 1) := by decide +kernel
theorem dX11_isGuess_50 : decode cX11_isGuess 50 = .ok (.isub, 1) := by decide +kernel
theorem dX11_isGuess_51 : decode cX11_isGuess 51 = .ok (.iaload, 1) := by decide +kernel
theorem dX11_isGuess_52 : decode cX11_isGuess 52 = .ok (.imul, 1) := by decide +kernel
theorem dX11_isGuess_53 : decode cX11_isGuess 53 = .ok (.iload_n 3, 1) := by decide +kernel
theorem dX11_isGuess_54 : decode cX11_isGuess 54 = .ok (.aload_n 0, 1) := by decide +kernel
theorem dX11_isGuess_55 : decode cX11_isGuess 55 = .ok (.getfield 16, 3) := by decide +kernel
theorem dX11_isGuess_58 : decode cX11_isGuess 58 = .ok (.iload 5, 2) := by decide +kernel
theorem dX11_isGuess_60 : decode cX11_isGuess 60 = .ok (.iconst 2, 1) := by decide +kernel
theorem dX11_isGuess_61 : decode cX11_isGuess 61 = .ok (.isub, 1) := by decide +kernel
theorem dX11_isGuess_62 : decode cX11_isGuess 62 = .ok (.iaload, 1) := by decide +kernel
theorem dX11_isGuess_63 : decode cX11_isGuess 63 = .ok (.imul, 1) := by decide +kernel
theorem dX11_isGuess_64 : decode cX11_isGuess 64 = .ok (.iadd, 1) := by decide +kernel
theorem dX11_isGuess_65 : decode cX11_isGuess 65 = .ok (.istore 6, 2) := by decide +kernel
theorem dX11_isGuess_67 : decode cX11_isGuess 67 = .ok (.iload 4, 2) := by decide +kernel
theorem dX11_isGuess_69 : decode cX11_isGuess 69 = .ok (.ifCond .eq 19, 3) := by decide +kernel
theorem dX11_isGuess_72 : decode cX11_isGuess 72 = .ok (.aload_n 0, 1) := by decide +kernel
theorem dX11_isGuess_73 : decode cX11_isGuess 73 = .ok (.getfield 16, 3) := by decide +kernel
theorem dX11_isGuess_76 : decode cX11_isGuess 76 = .ok (.iload 5, 2) := by decide +kernel
theorem dX11_isGuess_78 : decode cX11_isGuess 78 = .ok (.iaload, 1) := by decide +kernel
theorem dX11_isGuess_79 : decode cX11_isGuess 79 = .ok (.iload 6, 2) := by decide +kernel
theorem dX11_isGuess_81 : decode cX11_isGuess 81 = .ok (.if_icmp .ne 7, 3) := by decide +kernel
theorem dX11_isGuess_84 : decode cX11_isGuess 84 = .ok (.iconst 1, 1) := by decide +kernel
theorem dX11_isGuess_85 : decode cX11_isGuess 85 = .ok (.goto 4, 3) := by decide +kernel
theorem dX11_isGuess_88 : decode cX11_isGuess 88 = .ok (.iconst 0, 1) := by decide +kernel
theorem dX11_isGuess_89 : decode cX11_isGuess 89 = .ok (.istore 4, 2) := by decide +kernel
theorem dX11_isGuess_91 : decode cX11_isGuess 91 = .ok (.iinc 5 1, 3) := by decide +kernel
theorem dX11_isGuess_94 : decode cX11_isGuess 94 = .ok (.goto (-88), 3) := by decide +kernel
theorem dX11_isGuess_97 : decode cX11_isGuess 97 = .ok (.iload 4, 2) := by decide +kernel
theorem dX11_isGuess_99 : decode cX11_isGuess 99 = .ok (.ireturn, 1) := by decide +kernel
theorem dX11_guessNow_0 : decode cX11_guessNow 0 = .ok (.aload_n 0, 1) := by decide +kernel
theorem dX11_guessNow_1 : decode cX11_guessNow 1 = .ok (.iconst 0, 1) := by decide +kernel
theorem dX11_guessNow_2 : decode cX11_guessNow 2 = .ok (.putfield 322, 3) := by decide +kernel
theorem dX11_guessNow_5 : decode cX11_guessNow 5 = .ok (.aload_n 0, 1) := by decide +kernel
theorem dX11_guessNow_6 : decode cX11_guessNow 6 = .ok (.iconst 0, 1) := by decide +kernel
theorem dX11_guessNow_7 : decode cX11_guessNow 7 = .ok (.putfield 325, 3) := by decide +kernel
theorem dX11_guessNow_10 : decode cX11_guessNow 10 = .ok (.aload_n 0, 1) := by decide +kernel
theorem dX11_guessNow_11 : decode cX11_guessNow 11 = .ok (.iconst 0, 1) := by decide +kernel
theorem dX11_guessNow_12 : decode cX11_guessNow 12 = .ok (.iconst 0, 1) := by decide +kernel
theorem dX11_guessNow_13 : decode cX11_guessNow 13 = .ok (.iconst 0, 1) := by decide +kernel
theorem dX11_guessNow_14 : decode cX11_guessNow 14 = .ok (.invokevirtual 328, 3) := by decide +kernel
theorem dX11_guessNow_17 : decode cX11_guessNow 17 = .ok (.ifCond .eq 5, 3) := by decide +kernel
theorem dX11_guessNow_20 : decode cX11_guessNow 20 = .ok (.iconst 0, 1) := by decide +kernel
theorem dX11_guessNow_21 : decode cX11_guessNow 21 = .ok (.ireturn, 1) := by decide +kernel
theorem dX11_guessNow_22 : decode cX11_guessNow 22 = .ok (.iconst 0, 1) := by decide +kernel
theorem dX11_guessNow_23 : decode cX11_guessNow 23 = .ok (.istore_n 1, 1) := by decide +kernel
theorem dX11_guessNow_24 : decode cX11_guessNow 24 = .ok (.iload_n 1, 1) := by decide +kernel
theorem dX11_guessNow_25 : decode cX11_guessNow 25 = .ok (.sipush 380, 3) := by decide +kernel
theorem dX11_guessNow_28 : decode cX11_guessNow 28 = .ok (.if_icmp .ge 85, 3) := by decide +kernel
theorem dX11_guessNow_31 : decode cX11_guessNow 31 = .ok (.iload_n 1, 1) := by decide +kernel
theorem dX11_guessNow_32 : decode cX11_guessNow 32 = .ok (.bipush 19, 2) := by decide +kernel
theorem dX11_guessNow_34 : decode cX11_guessNow 34 = .ok (.if_icmp .ge 7, 3) := by decide +kernel
theorem dX11_guessNow_37 : decode cX11_guessNow 37 = .ok (.iconst 1, 1) := by decide +kernel
theorem dX11_guessNow_38 : decode cX11_guessNow 38 = .ok (.goto 4, 3) := by decide +kernel
theorem dX11_guessNow_41 : decode cX11_guessNow 41 = .ok (.iconst 2, 1) := by decide +kernel
theorem dX11_guessNow_42 : decode cX11_guessNow 42 = .ok (.istore_n 2, 1) := by decide +kernel
theorem dX11_guessNow_43 : decode cX11_guessNow 43 = .ok (.aload_n 0, 1) := by decide +kernel
theorem dX11_guessNow_44 : decode cX11_guessNow 44 = .ok (.iload_n 2, 1) := by decide +kernel
theorem dX11_guessNow_45 : decode cX11_guessNow 45 = .ok (.iconst 1, 1) := by decide +kernel
theorem dX11_guessNow_46 : decode cX11_guessNow 46 = .ok (.if_icmp .ne 7, 3) := by decide +kernel
theorem dX11_guessNow_49 : decode cX11_guessNow 49 = .ok (.iload_n 1, 1) := by decide +kernel
theorem dX11_guessNow_50 : decode cX11_guessNow 50 = .ok (.goto 10, 3) := by decide +kernel
theorem dX11_guessNow_53 : decode cX11_guessNow 53 = .ok (.iload_n 1, 1) := by decide +kernel
theorem dX11_guessNow_54 : decode cX11_guessNow 54 = .ok (.bipush 19, 2) := by decide +kernel
theorem dX11_guessNow_56 : decode cX11_guessNow 56 = .ok (.isub, 1) := by decide +kernel
theorem dX11_guessNow_57 : decode cX11_guessNow 57 = .ok (.bipush 19, 2) := by decide +kernel
theorem dX11_guessNow_59 : decode cX11_guessNow 59 = .ok (.idiv, 1) := by decide +kernel
theorem dX11_guessNow_60 : decode cX11_guessNow 60 = .ok (.bipush 9, 2) := by decide +kernel
theorem dX11_guessNow_62 : decode cX11_guessNow 62 = .ok (.isub, 1) := by decide +kernel
theorem dX11_guessNow_63 : decode cX11_guessNow 63 = .ok (.putfield 322, 3) := by decide +kernel
theorem dX11_guessNow_66 : decode cX11_guessNow 66 = .ok (.aload_n 0, 1) := by decide +kernel
theorem dX11_guessNow_67 : decode cX11_guessNow 67 = .ok (.iload_n 2, 1) := by decide +kernel
theorem dX11_guessNow_68 : decode cX11_guessNow 68 = .ok (.iconst 1, 1) := by decide +kernel
theorem dX11_guessNow_69 : decode cX11_guessNow 69 = .ok (.if_icmp .ne 7, 3) := by decide +kernel
theorem dX11_guessNow_72 : decode cX11_guessNow 72 = .ok (.iconst 0, 1) := by decide +kernel
theorem dX11_guessNow_73 : decode cX11_guessNow 73 = .ok (.goto 13, 3) := by decide +kernel
theorem dX11_guessNow_76 : decode cX11_guessNow 76 = .ok (.iload_n 1, 1) := by decide +kernel
theorem dX11_guessNow_77 : decode cX11_guessNow 77 = .ok (.bipush 19, 2) := by decide +kernel
theorem dX11_guessNow_79 : decode cX11_guessNow 79 = .ok (.isub, 1) := by decide +kernel
theorem dX11_guessNow_80 : decode cX11_guessNow 80 = .ok (.bipush 19, 2) := by decide +kernel
theorem dX11_guessNow_82 : decode cX11_guessNow 82 = .ok (.irem, 1) := by decide +kernel
theorem dX11_guessNow_83 : decode cX11_guessNow 83 = .ok (.bipush 9, 2) := by decide +kernel
theorem dX11_guessNow_85 : decode cX11_guessNow 85 = .ok (.isub, 1) := by decide +kernel
theorem dX11_guessNow_86 : decode cX11_guessNow 86 = .ok (.putfield 325, 3) := by decide +kernel
theorem dX11_guessNow_89 : decode cX11_guessNow 89 = .ok (.aload_n 0, 1) := by decide +kernel
theorem dX11_guessNow_90 : decode cX11_guessNow 90 = .ok (.iload_n 2, 1) := by decide +kernel
theorem dX11_guessNow_91 : decode cX11_guessNow 91 = .ok (.aload_n 0, 1) := by decide +kernel
theorem dX11_guessNow_92 : decode cX11_guessNow 92 = .ok (.getfield 322, 3) := by decide +kernel
theorem dX11_guessNow_95 : decode cX11_guessNow 95 = .ok (.aload_n 0, 1) := by decide +kernel
theorem dX11_guessNow_96 : decode cX11_guessNow 96 = .ok (.getfield 325, 3) := by decide +kernel
theorem dX11_guessNow_99 : decode cX11_guessNow 99 = .ok (.invokevirtual 328, 3) := by decide +kernel
theorem dX11_guessNow_102 : decode cX11_guessNow 102 = .ok (.ifCond .eq 5, 3) := by decide +kernel
theorem dX11_guessNow_105 : decode cX11_guessNow 105 = .ok (.iload_n 2, 1) := by decide +kernel
theorem dX11_guessNow_106 : decode cX11_guessNow 106 = .ok (.ireturn, 1) := by decide +kernel
theorem dX11_guessNow_107 : decode cX11_guessNow 107 = .ok (.iinc 1 1, 3) := by decide +kernel
theorem dX11_guessNow_110 : decode cX11_guessNow 110 = .ok (.goto (-86), 3) := by decide +kernel
theorem dX11_guessNow_113 : decode cX11_guessNow 113 = .ok (.ldc 54, 2) := by decide +kernel
theorem dX11_guessNow_115 : decode cX11_guessNow 115 = .ok (.ireturn, 1) := by decide +kernel
theorem dX11_guessTold_0 : decode cX11_guessTold 0 = .ok (.aload_n 0, 1) := by decide +kernel
theorem dX11_guessTold_1 : decode cX11_guessTold 1 = .ok (.invokevirtual 331, 3) := by decide +kernel
theorem dX11_guessTold_4 : decode cX11_guessTold 4 = .ok (.istore_n 2, 1) := by decide +kernel
theorem dX11_guessTold_5 : decode cX11_guessTold 5 = .ok (.iload_n 2, 1) := by decide +kernel
theorem dX11_guessTold_6 : decode cX11_guessTold 6 = .ok (.ldc 54, 2) := by decide +kernel
theorem dX11_guessTold_8 : decode cX11_guessTold 8 = .ok (.if_icmp .eq 7, 3) := by decide +kernel
theorem dX11_guessTold_11 : decode cX11_guessTold 11 = .ok (.iload_n 1, 1) := by decide +kernel
theorem dX11_guessTold_12 : decode cX11_guessTold 12 = .ok (.ifCond .ne 7, 3) := by decide +kernel
theorem dX11_guessTold_15 : decode cX11_guessTold 15 = .ok (.iload_n 2, 1) := by decide +kernel
theorem dX11_guessTold_16 : decode cX11_guessTold 16 = .ok (.goto 19, 3) := by decide +kernel
theorem dX11_guessTold_19 : decode cX11_guessTold 19 = .ok (.iload_n 1, 1) := by decide +kernel
theorem dX11_guessTold_20 : decode cX11_guessTold 20 = .ok (.iconst 1, 1) := by decide +kernel
theorem dX11_guessTold_21 : decode cX11_guessTold 21 = .ok (.if_icmp .ne 10, 3) := by decide +kernel
theorem dX11_guessTold_24 : decode cX11_guessTold 24 = .ok (.aload_n 0, 1) := by decide +kernel
theorem dX11_guessTold_25 : decode cX11_guessTold 25 = .ok (.getfield 322, 3) := by decide +kernel
theorem dX11_guessTold_28 : decode cX11_guessTold 28 = .ok (.goto 7, 3) := by decide +kernel
theorem dX11_guessTold_31 : decode cX11_guessTold 31 = .ok (.aload_n 0, 1) := by decide +kernel
theorem dX11_guessTold_32 : decode cX11_guessTold 32 = .ok (.getfield 325, 3) := by decide +kernel
theorem dX11_guessTold_35 : decode cX11_guessTold 35 = .ok (.ireturn, 1) := by decide +kernel
theorem dX11_guess_0 : decode cX11_guess 0 = .ok (.iload_n 1, 1) := by decide +kernel
theorem dX11_guess_1 : decode cX11_guess 1 = .ok (.iconst 0, 1) := by decide +kernel
theorem dX11_guess_2 : decode cX11_guess 2 = .ok (.iconst 2, 1) := by decide +kernel
theorem dX11_guess_3 : decode cX11_guess 3 = .ok (.invokestatic 68, 3) := by decide +kernel
theorem dX11_guess_6 : decode cX11_guess 6 = .ok (.ifCond .eq 11, 3) := by decide +kernel
theorem dX11_guess_9 : decode cX11_guess 9 = .ok (.aload_n 0, 1) := by decide +kernel
theorem dX11_guess_10 : decode cX11_guess 10 = .ok (.iload_n 1, 1) := by decide +kernel
theorem dX11_guess_11 : decode cX11_guess 11 = .ok (.invokevirtual 334, 3) := by decide +kernel
theorem dX11_guess_14 : decode cX11_guess 14 = .ok (.goto 5, 3) := by decide +kernel
theorem dX11_guess_17 : decode cX11_guess 17 = .ok (.ldc 72, 2) := by decide +kernel
theorem dX11_guess_19 : decode cX11_guess 19 = .ok (.ireturn, 1) := by decide +kernel
theorem dX11_found_0 : decode cX11_found 0 = .ok (.aload_n 0, 1) := by decide +kernel
theorem dX11_found_1 : decode cX11_found 1 = .ok (.invokevirtual 331, 3) := by decide +kernel
theorem dX11_found_4 : decode cX11_found 4 = .ok (.istore_n 1, 1) := by decide +kernel
theorem dX11_found_5 : decode cX11_found 5 = .ok (.iload_n 1, 1) := by decide +kernel
theorem dX11_found_6 : decode cX11_found 6 = .ok (.ldc 54, 2) := by decide +kernel
theorem dX11_found_8 : decode cX11_found 8 = .ok (.if_icmp .ne 6, 3) := by decide +kernel
theorem dX11_found_11 : decode cX11_found 11 = .ok (.ldc 115, 2) := by decide +kernel
theorem dX11_found_13 : decode cX11_found 13 = .ok (.ireturn, 1) := by decide +kernel
theorem dX11_found_14 : decode cX11_found 14 = .ok (.iload_n 1, 1) := by decide +kernel
theorem dX11_found_15 : decode cX11_found 15 = .ok (.ifCond .ne 7, 3) := by decide +kernel
theorem dX11_found_18 : decode cX11_found 18 = .ok (.iconst 0, 1) := by decide +kernel
theorem dX11_found_19 : decode cX11_found 19 = .ok (.goto 9, 3) := by decide +kernel
theorem dX11_found_22 : decode cX11_found 22 = .ok (.aload_n 0, 1) := by decide +kernel
theorem dX11_found_23 : decode cX11_found 23 = .ok (.getfield 16, 3) := by decide +kernel
theorem dX11_found_26 : decode cX11_found 26 = .ok (.iconst 0, 1) := by decide +kernel
theorem dX11_found_27 : decode cX11_found 27 = .ok (.iaload, 1) := by decide +kernel
theorem dX11_found_28 : decode cX11_found 28 = .ok (.istore_n 2, 1) := by decide +kernel
theorem dX11_found_29 : decode cX11_found 29 = .ok (.aload_n 0, 1) := by decide +kernel
theorem dX11_found_30 : decode cX11_found 30 = .ok (.iconst 0, 1) := by decide +kernel
theorem dX11_found_31 : decode cX11_found 31 = .ok (.aload_n 0, 1) := by decide +kernel
theorem dX11_found_32 : decode cX11_found 32 = .ok (.getfield 322, 3) := by decide +kernel
theorem dX11_found_35 : decode cX11_found 35 = .ok (.aload_n 0, 1) := by decide +kernel
theorem dX11_found_36 : decode cX11_found 36 = .ok (.getfield 325, 3) := by decide +kernel
theorem dX11_found_39 : decode cX11_found 39 = .ok (.iload_n 2, 1) := by decide +kernel
theorem dX11_found_40 : decode cX11_found 40 = .ok (.iload_n 1, 1) := by decide +kernel
theorem dX11_found_41 : decode cX11_found 41 = .ok (.iconst 2, 1) := by decide +kernel
theorem dX11_found_42 : decode cX11_found 42 = .ok (.if_icmp .ne 12, 3) := by decide +kernel
theorem dX11_found_45 : decode cX11_found 45 = .ok (.aload_n 0, 1) := by decide +kernel
theorem dX11_found_46 : decode cX11_found 46 = .ok (.getfield 16, 3) := by decide +kernel
theorem dX11_found_49 : decode cX11_found 49 = .ok (.iconst 1, 1) := by decide +kernel
theorem dX11_found_50 : decode cX11_found 50 = .ok (.iaload, 1) := by decide +kernel
theorem dX11_found_51 : decode cX11_found 51 = .ok (.goto 9, 3) := by decide +kernel
theorem dX11_found_54 : decode cX11_found 54 = .ok (.aload_n 0, 1) := by decide +kernel
theorem dX11_found_55 : decode cX11_found 55 = .ok (.getfield 322, 3) := by decide +kernel
theorem dX11_found_58 : decode cX11_found 58 = .ok (.iload_n 2, 1) := by decide +kernel
theorem dX11_found_59 : decode cX11_found 59 = .ok (.imul, 1) := by decide +kernel
theorem dX11_found_60 : decode cX11_found 60 = .ok (.invokevirtual 300, 3) := by decide +kernel
theorem dX11_found_63 : decode cX11_found 63 = .ok (.ireturn, 1) := by decide +kernel
theorem dX11_drawOf_0 : decode cX11_drawOf 0 = .ok (.aload_n 0, 1) := by decide +kernel
theorem dX11_drawOf_1 : decode cX11_drawOf 1 = .ok (.ldc2_w 337, 3) := by decide +kernel
theorem dX11_drawOf_4 : decode cX11_drawOf 4 = .ok (.aload_n 0, 1) := by decide +kernel
theorem dX11_drawOf_5 : decode cX11_drawOf 5 = .ok (.getfield 339, 3) := by decide +kernel
theorem dX11_drawOf_8 : decode cX11_drawOf 8 = .ok (.lmul, 1) := by decide +kernel
theorem dX11_drawOf_9 : decode cX11_drawOf 9 = .ok (.ldc2_w 343, 3) := by decide +kernel
theorem dX11_drawOf_12 : decode cX11_drawOf 12 = .ok (.ladd, 1) := by decide +kernel
theorem dX11_drawOf_13 : decode cX11_drawOf 13 = .ok (.ldc2_w 345, 3) := by decide +kernel
theorem dX11_drawOf_16 : decode cX11_drawOf 16 = .ok (.lrem, 1) := by decide +kernel
theorem dX11_drawOf_17 : decode cX11_drawOf 17 = .ok (.putfield 339, 3) := by decide +kernel
theorem dX11_drawOf_20 : decode cX11_drawOf 20 = .ok (.aload_n 0, 1) := by decide +kernel
theorem dX11_drawOf_21 : decode cX11_drawOf 21 = .ok (.getfield 339, 3) := by decide +kernel
theorem dX11_drawOf_24 : decode cX11_drawOf 24 = .ok (.ldc2_w 347, 3) := by decide +kernel
theorem dX11_drawOf_27 : decode cX11_drawOf 27 = .ok (.ldiv, 1) := by decide +kernel
theorem dX11_drawOf_28 : decode cX11_drawOf 28 = .ok (.iload_n 1, 1) := by decide +kernel
theorem dX11_drawOf_29 : decode cX11_drawOf 29 = .ok (.i2l, 1) := by decide +kernel
theorem dX11_drawOf_30 : decode cX11_drawOf 30 = .ok (.lrem, 1) := by decide +kernel
theorem dX11_drawOf_31 : decode cX11_drawOf 31 = .ok (.l2i, 1) := by decide +kernel
theorem dX11_drawOf_32 : decode cX11_drawOf 32 = .ok (.ireturn, 1) := by decide +kernel
theorem dX11_drawnNow_0 : decode cX11_drawnNow 0 = .ok (.aload_n 0, 1) := by decide +kernel
theorem dX11_drawnNow_1 : decode cX11_drawnNow 1 = .ok (.iload_n 2, 1) := by decide +kernel
theorem dX11_drawnNow_2 : decode cX11_drawnNow 2 = .ok (.i2l, 1) := by decide +kernel
theorem dX11_drawnNow_3 : decode cX11_drawnNow 3 = .ok (.putfield 339, 3) := by decide +kernel
theorem dX11_drawnNow_6 : decode cX11_drawnNow 6 = .ok (.iconst 0, 1) := by decide +kernel
theorem dX11_drawnNow_7 : decode cX11_drawnNow 7 = .ok (.istore 4, 2) := by decide +kernel
theorem dX11_drawnNow_9 : decode cX11_drawnNow 9 = .ok (.iconst 0, 1) := by decide +kernel
theorem dX11_drawnNow_10 : decode cX11_drawnNow 10 = .ok (.istore 5, 2) := by decide +kernel
theorem dX11_drawnNow_12 : decode cX11_drawnNow 12 = .ok (.iconst 0, 1) := by decide +kernel
theorem dX11_drawnNow_13 : decode cX11_drawnNow 13 = .ok (.istore 6, 2) := by decide +kernel
theorem dX11_drawnNow_15 : decode cX11_drawnNow 15 = .ok (.iload 6, 2) := by decide +kernel
theorem dX11_drawnNow_17 : decode cX11_drawnNow 17 = .ok (.iload_n 1, 1) := by decide +kernel
theorem dX11_drawnNow_18 : decode cX11_drawnNow 18 = .ok (.if_icmp .ge 90, 3) := by decide +kernel
theorem dX11_drawnNow_21 : decode cX11_drawnNow 21 = .ok (.iconst 0, 1) := by decide +kernel
theorem dX11_drawnNow_22 : decode cX11_drawnNow 22 = .ok (.istore 7, 2) := by decide +kernel
theorem dX11_drawnNow_24 : decode cX11_drawnNow 24 = .ok (.iload 7, 2) := by decide +kernel
theorem dX11_drawnNow_26 : decode cX11_drawnNow 26 = .ok (.iconst 4, 1) := by decide +kernel
theorem dX11_drawnNow_27 : decode cX11_drawnNow 27 = .ok (.if_icmp .ge 27, 3) := by decide +kernel
theorem dX11_drawnNow_30 : decode cX11_drawnNow 30 = .ok (.aload_n 0, 1) := by decide +kernel
theorem dX11_drawnNow_31 : decode cX11_drawnNow 31 = .ok (.getfield 13, 3) := by decide +kernel
theorem dX11_drawnNow_34 : decode cX11_drawnNow 34 = .ok (.bipush 32, 2) := by decide +kernel
theorem dX11_drawnNow_36 : decode cX11_drawnNow 36 = .ok (.iload 7, 2) := by decide +kernel
theorem dX11_drawnNow_38 : decode cX11_drawnNow 38 = .ok (.iadd, 1) := by decide +kernel
theorem dX11_drawnNow_39 : decode cX11_drawnNow 39 = .ok (.aload_n 0, 1) := by decide +kernel
theorem dX11_drawnNow_40 : decode cX11_drawnNow 40 = .ok (.bipush 7, 2) := by decide +kernel
theorem dX11_drawnNow_42 : decode cX11_drawnNow 42 = .ok (.invokevirtual 349, 3) := by decide +kernel
theorem dX11_drawnNow_45 : decode cX11_drawnNow 45 = .ok (.iconst 3, 1) := by decide +kernel
theorem dX11_drawnNow_46 : decode cX11_drawnNow 46 = .ok (.isub, 1) := by decide +kernel
theorem dX11_drawnNow_47 : decode cX11_drawnNow 47 = .ok (.iastore, 1) := by decide +kernel
theorem dX11_drawnNow_48 : decode cX11_drawnNow 48 = .ok (.iinc 7 1, 3) := by decide +kernel
theorem dX11_drawnNow_51 : decode cX11_drawnNow 51 = .ok (.goto (-27), 3) := by decide +kernel
theorem dX11_drawnNow_54 : decode cX11_drawnNow 54 = .ok (.aload_n 0, 1) := by decide +kernel
theorem dX11_drawnNow_55 : decode cX11_drawnNow 55 = .ok (.bipush 8, 2) := by decide +kernel
theorem dX11_drawnNow_57 : decode cX11_drawnNow 57 = .ok (.iconst 5, 1) := by decide +kernel
theorem dX11_drawnNow_58 : decode cX11_drawnNow 58 = .ok (.invokevirtual 169, 3) := by decide +kernel
theorem dX11_drawnNow_61 : decode cX11_drawnNow 61 = .ok (.iload 4, 2) := by decide +kernel
theorem dX11_drawnNow_63 : decode cX11_drawnNow 63 = .ok (.aload_n 0, 1) := by decide +kernel
theorem dX11_drawnNow_64 : decode cX11_drawnNow 64 = .ok (.bipush 8, 2) := by decide +kernel
theorem dX11_drawnNow_66 : decode cX11_drawnNow 66 = .ok (.invokevirtual 187, 3) := by decide +kernel
theorem dX11_drawnNow_69 : decode cX11_drawnNow 69 = .ok (.iadd, 1) := by decide +kernel
theorem dX11_drawnNow_70 : decode cX11_drawnNow 70 = .ok (.istore 4, 2) := by decide +kernel
theorem dX11_drawnNow_72 : decode cX11_drawnNow 72 = .ok (.iload 5, 2) := by decide +kernel
theorem dX11_drawnNow_74 : decode cX11_drawnNow 74 = .ok (.aload_n 0, 1) := by decide +kernel
theorem dX11_drawnNow_75 : decode cX11_drawnNow 75 = .ok (.getfield 13, 3) := by decide +kernel
theorem dX11_drawnNow_78 : decode cX11_drawnNow 78 = .ok (.bipush 32, 2) := by decide +kernel
theorem dX11_drawnNow_80 : decode cX11_drawnNow 80 = .ok (.iaload, 1) := by decide +kernel
theorem dX11_drawnNow_81 : decode cX11_drawnNow 81 = .ok (.aload_n 0, 1) := by decide +kernel
theorem dX11_drawnNow_82 : decode cX11_drawnNow 82 = .ok (.getfield 13, 3) := by decide +kernel
theorem dX11_drawnNow_85 : decode cX11_drawnNow 85 = .ok (.bipush 33, 2) := by decide +kernel
theorem dX11_drawnNow_87 : decode cX11_drawnNow 87 = .ok (.iaload, 1) := by decide +kernel
theorem dX11_drawnNow_88 : decode cX11_drawnNow 88 = .ok (.invokestatic 272, 3) := by decide +kernel
theorem dX11_drawnNow_91 : decode cX11_drawnNow 91 = .ok (.ifCond .le 7, 3) := by decide +kernel
theorem dX11_drawnNow_94 : decode cX11_drawnNow 94 = .ok (.iconst 1, 1) := by decide +kernel
theorem dX11_drawnNow_95 : decode cX11_drawnNow 95 = .ok (.goto 4, 3) := by decide +kernel
theorem dX11_drawnNow_98 : decode cX11_drawnNow 98 = .ok (.iconst 0, 1) := by decide +kernel
theorem dX11_drawnNow_99 : decode cX11_drawnNow 99 = .ok (.iadd, 1) := by decide +kernel
theorem dX11_drawnNow_100 : decode cX11_drawnNow 100 = .ok (.istore 5, 2) := by decide +kernel
theorem dX11_drawnNow_102 : decode cX11_drawnNow 102 = .ok (.iinc 6 1, 3) := by decide +kernel
theorem dX11_drawnNow_105 : decode cX11_drawnNow 105 = .ok (.goto (-90), 3) := by decide +kernel
theorem dX11_drawnNow_108 : decode cX11_drawnNow 108 = .ok (.iload_n 3, 1) := by decide +kernel
theorem dX11_drawnNow_109 : decode cX11_drawnNow 109 = .ok (.ifCond .ne 8, 3) := by decide +kernel
theorem dX11_drawnNow_112 : decode cX11_drawnNow 112 = .ok (.iload 4, 2) := by decide +kernel
theorem dX11_drawnNow_114 : decode cX11_drawnNow 114 = .ok (.goto 18, 3) := by decide +kernel
theorem dX11_drawnNow_117 : decode cX11_drawnNow 117 = .ok (.iload_n 3, 1) := by decide +kernel
theorem dX11_drawnNow_118 : decode cX11_drawnNow 118 = .ok (.iconst 1, 1) := by decide +kernel
theorem dX11_drawnNow_119 : decode cX11_drawnNow 119 = .ok (.if_icmp .ne 8, 3) := by decide +kernel
theorem dX11_drawnNow_122 : decode cX11_drawnNow 122 = .ok (.iload 5, 2) := by decide +kernel
theorem dX11_drawnNow_124 : decode cX11_drawnNow 124 = .ok (.goto 8, 3) := by decide +kernel
theorem dX11_drawnNow_127 : decode cX11_drawnNow 127 = .ok (.aload_n 0, 1) := by decide +kernel
theorem dX11_drawnNow_128 : decode cX11_drawnNow 128 = .ok (.getfield 339, 3) := by decide +kernel
theorem dX11_drawnNow_131 : decode cX11_drawnNow 131 = .ok (.l2i, 1) := by decide +kernel
theorem dX11_drawnNow_132 : decode cX11_drawnNow 132 = .ok (.ireturn, 1) := by decide +kernel
theorem dX11_drawn_0 : decode cX11_drawn 0 = .ok (.iload_n 1, 1) := by decide +kernel
theorem dX11_drawn_1 : decode cX11_drawn 1 = .ok (.iconst 1, 1) := by decide +kernel
theorem dX11_drawn_2 : decode cX11_drawn 2 = .ok (.bipush 30, 2) := by decide +kernel
theorem dX11_drawn_4 : decode cX11_drawn 4 = .ok (.invokestatic 68, 3) := by decide +kernel
theorem dX11_drawn_7 : decode cX11_drawn 7 = .ok (.ifCond .eq 26, 3) := by decide +kernel
theorem dX11_drawn_10 : decode cX11_drawn 10 = .ok (.iload_n 2, 1) := by decide +kernel
theorem dX11_drawn_11 : decode cX11_drawn 11 = .ok (.ifCond .lt 22, 3) := by decide +kernel
theorem dX11_drawn_14 : decode cX11_drawn 14 = .ok (.iload_n 3, 1) := by decide +kernel
theorem dX11_drawn_15 : decode cX11_drawn 15 = .ok (.iconst 0, 1) := by decide +kernel
theorem dX11_drawn_16 : decode cX11_drawn 16 = .ok (.iconst 2, 1) := by decide +kernel
theorem dX11_drawn_17 : decode cX11_drawn 17 = .ok (.invokestatic 68, 3) := by decide +kernel
theorem dX11_drawn_20 : decode cX11_drawn 20 = .ok (.ifCond .eq 13, 3) := by decide +kernel
theorem dX11_drawn_23 : decode cX11_drawn 23 = .ok (.aload_n 0, 1) := by decide +kernel
theorem dX11_drawn_24 : decode cX11_drawn 24 = .ok (.iload_n 1, 1) := by decide +kernel
theorem dX11_drawn_25 : decode cX11_drawn 25 = .ok (.iload_n 2, 1) := by decide +kernel
theorem dX11_drawn_26 : decode cX11_drawn 26 = .ok (.iload_n 3, 1) := by decide +kernel
theorem dX11_drawn_27 : decode cX11_drawn 27 = .ok (.invokevirtual 352, 3) := by decide +kernel
theorem dX11_drawn_30 : decode cX11_drawn 30 = .ok (.goto 5, 3) := by decide +kernel
theorem dX11_drawn_33 : decode cX11_drawn 33 = .ok (.ldc 72, 2) := by decide +kernel
theorem dX11_drawn_35 : decode cX11_drawn 35 = .ok (.ireturn, 1) := by decide +kernel
theorem dX11_copy_0 : decode cX11_copy 0 = .ok (.iconst 0, 1) := by decide +kernel
theorem dX11_copy_1 : decode cX11_copy 1 = .ok (.istore_n 3, 1) := by decide +kernel
theorem dX11_copy_2 : decode cX11_copy 2 = .ok (.iload_n 3, 1) := by decide +kernel
theorem dX11_copy_3 : decode cX11_copy 3 = .ok (.iload_n 2, 1) := by decide +kernel
theorem dX11_copy_4 : decode cX11_copy 4 = .ok (.if_icmp .ge 15, 3) := by decide +kernel
theorem dX11_copy_7 : decode cX11_copy 7 = .ok (.aload_n 1, 1) := by decide +kernel
theorem dX11_copy_8 : decode cX11_copy 8 = .ok (.iload_n 3, 1) := by decide +kernel
theorem dX11_copy_9 : decode cX11_copy 9 = .ok (.aload_n 0, 1) := by decide +kernel
theorem dX11_copy_10 : decode cX11_copy 10 = .ok (.iload_n 3, 1) := by decide +kernel
theorem dX11_copy_11 : decode cX11_copy 11 = .ok (.iaload, 1) := by decide +kernel
theorem dX11_copy_12 : decode cX11_copy 12 = .ok (.iastore, 1) := by decide +kernel
theorem dX11_copy_13 : decode cX11_copy 13 = .ok (.iinc 3 1, 3) := by decide +kernel
theorem dX11_copy_16 : decode cX11_copy 16 = .ok (.goto (-14), 3) := by decide +kernel
theorem dX11_copy_19 : decode cX11_copy 19 = .ok (.return_, 1) := by decide +kernel
theorem dX11_image_0 : decode cX11_image 0 = .ok (.aload_n 0, 1) := by decide +kernel
theorem dX11_image_1 : decode cX11_image 1 = .ok (.getfield 116, 3) := by decide +kernel
theorem dX11_image_4 : decode cX11_image 4 = .ok (.ifCond .ne 6, 3) := by decide +kernel
theorem dX11_image_7 : decode cX11_image 7 = .ok (.ldc 115, 2) := by decide +kernel
theorem dX11_image_9 : decode cX11_image 9 = .ok (.ireturn, 1) := by decide +kernel
theorem dX11_image_10 : decode cX11_image 10 = .ok (.aload_n 0, 1) := by decide +kernel
theorem dX11_image_11 : decode cX11_image 11 = .ok (.aload_n 0, 1) := by decide +kernel
theorem dX11_image_12 : decode cX11_image 12 = .ok (.getfield 119, 3) := by decide +kernel
theorem dX11_image_15 : decode cX11_image 15 = .ok (.putfield 55, 3) := by decide +kernel
theorem dX11_image_18 : decode cX11_image 18 = .ok (.aload_n 0, 1) := by decide +kernel
theorem dX11_image_19 : decode cX11_image 19 = .ok (.aload_n 0, 1) := by decide +kernel
theorem dX11_image_20 : decode cX11_image 20 = .ok (.getfield 116, 3) := by decide +kernel
theorem dX11_image_23 : decode cX11_image 23 = .ok (.putfield 355, 3) := by decide +kernel
theorem dX11_image_26 : decode cX11_image 26 = .ok (.aload_n 0, 1) := by decide +kernel
theorem dX11_image_27 : decode cX11_image 27 = .ok (.aload_n 0, 1) := by decide +kernel
theorem dX11_image_28 : decode cX11_image 28 = .ok (.getfield 319, 3) := by decide +kernel
theorem dX11_image_31 : decode cX11_image 31 = .ok (.putfield 358, 3) := by decide +kernel
theorem dX11_image_34 : decode cX11_image 34 = .ok (.aload_n 0, 1) := by decide +kernel
theorem dX11_image_35 : decode cX11_image 35 = .ok (.getfield 7, 3) := by decide +kernel
theorem dX11_image_38 : decode cX11_image 38 = .ok (.aload_n 0, 1) := by decide +kernel
theorem dX11_image_39 : decode cX11_image 39 = .ok (.getfield 59, 3) := by decide +kernel
theorem dX11_image_42 : decode cX11_image 42 = .ok (.bipush 8, 2) := by decide +kernel
theorem dX11_image_44 : decode cX11_image 44 = .ok (.invokestatic 361, 3) := by decide +kernel
theorem dX11_image_47 : decode cX11_image 47 = .ok (.aload_n 0, 1) := by decide +kernel
theorem dX11_image_48 : decode cX11_image 48 = .ok (.getfield 13, 3) := by decide +kernel
theorem dX11_image_51 : decode cX11_image 51 = .ok (.aload_n 0, 1) := by decide +kernel
theorem dX11_image_52 : decode cX11_image 52 = .ok (.getfield 62, 3) := by decide +kernel
theorem dX11_image_55 : decode cX11_image 55 = .ok (.bipush 32, 2) := by decide +kernel
theorem dX11_image_57 : decode cX11_image 57 = .ok (.invokestatic 361, 3) := by decide +kernel
theorem dX11_image_60 : decode cX11_image 60 = .ok (.aload_n 0, 1) := by decide +kernel
theorem dX11_image_61 : decode cX11_image 61 = .ok (.getfield 16, 3) := by decide +kernel
theorem dX11_image_64 : decode cX11_image 64 = .ok (.aload_n 0, 1) := by decide +kernel
theorem dX11_image_65 : decode cX11_image 65 = .ok (.getfield 65, 3) := by decide +kernel
theorem dX11_image_68 : decode cX11_image 68 = .ok (.bipush 8, 2) := by decide +kernel
theorem dX11_image_70 : decode cX11_image 70 = .ok (.invokestatic 361, 3) := by decide +kernel
theorem dX11_image_73 : decode cX11_image 73 = .ok (.aload_n 0, 1) := by decide +kernel
theorem dX11_image_74 : decode cX11_image 74 = .ok (.getfield 116, 3) := by decide +kernel
theorem dX11_image_77 : decode cX11_image 77 = .ok (.ireturn, 1) := by decide +kernel
theorem dX11_restore_0 : decode cX11_restore 0 = .ok (.aload_n 0, 1) := by decide +kernel
theorem dX11_restore_1 : decode cX11_restore 1 = .ok (.getfield 55, 3) := by decide +kernel
theorem dX11_restore_4 : decode cX11_restore 4 = .ok (.aload_n 0, 1) := by decide +kernel
theorem dX11_restore_5 : decode cX11_restore 5 = .ok (.getfield 119, 3) := by decide +kernel
theorem dX11_restore_8 : decode cX11_restore 8 = .ok (.if_icmp .eq 6, 3) := by decide +kernel
theorem dX11_restore_11 : decode cX11_restore 11 = .ok (.ldc 115, 2) := by decide +kernel
theorem dX11_restore_13 : decode cX11_restore 13 = .ok (.ireturn, 1) := by decide +kernel
theorem dX11_restore_14 : decode cX11_restore 14 = .ok (.aload_n 0, 1) := by decide +kernel
theorem dX11_restore_15 : decode cX11_restore 15 = .ok (.aload_n 0, 1) := by decide +kernel
theorem dX11_restore_16 : decode cX11_restore 16 = .ok (.getfield 355, 3) := by decide +kernel
theorem dX11_restore_19 : decode cX11_restore 19 = .ok (.putfield 116, 3) := by decide +kernel
theorem dX11_restore_22 : decode cX11_restore 22 = .ok (.aload_n 0, 1) := by decide +kernel
theorem dX11_restore_23 : decode cX11_restore 23 = .ok (.aload_n 0, 1) := by decide +kernel
theorem dX11_restore_24 : decode cX11_restore 24 = .ok (.getfield 358, 3) := by decide +kernel
theorem dX11_restore_27 : decode cX11_restore 27 = .ok (.putfield 319, 3) := by decide +kernel
theorem dX11_restore_30 : decode cX11_restore 30 = .ok (.aload_n 0, 1) := by decide +kernel
theorem dX11_restore_31 : decode cX11_restore 31 = .ok (.getfield 59, 3) := by decide +kernel
theorem dX11_restore_34 : decode cX11_restore 34 = .ok (.aload_n 0, 1) := by decide +kernel
theorem dX11_restore_35 : decode cX11_restore 35 = .ok (.getfield 7, 3) := by decide +kernel
theorem dX11_restore_38 : decode cX11_restore 38 = .ok (.bipush 8, 2) := by decide +kernel
theorem dX11_restore_40 : decode cX11_restore 40 = .ok (.invokestatic 361, 3) := by decide +kernel
theorem dX11_restore_43 : decode cX11_restore 43 = .ok (.aload_n 0, 1) := by decide +kernel
theorem dX11_restore_44 : decode cX11_restore 44 = .ok (.getfield 62, 3) := by decide +kernel
theorem dX11_restore_47 : decode cX11_restore 47 = .ok (.aload_n 0, 1) := by decide +kernel
theorem dX11_restore_48 : decode cX11_restore 48 = .ok (.getfield 13, 3) := by decide +kernel
theorem dX11_restore_51 : decode cX11_restore 51 = .ok (.bipush 32, 2) := by decide +kernel
theorem dX11_restore_53 : decode cX11_restore 53 = .ok (.invokestatic 361, 3) := by decide +kernel
theorem dX11_restore_56 : decode cX11_restore 56 = .ok (.aload_n 0, 1) := by decide +kernel
theorem dX11_restore_57 : decode cX11_restore 57 = .ok (.getfield 65, 3) := by decide +kernel
theorem dX11_restore_60 : decode cX11_restore 60 = .ok (.aload_n 0, 1) := by decide +kernel
theorem dX11_restore_61 : decode cX11_restore 61 = .ok (.getfield 16, 3) := by decide +kernel
theorem dX11_restore_64 : decode cX11_restore 64 = .ok (.bipush 8, 2) := by decide +kernel
theorem dX11_restore_66 : decode cX11_restore 66 = .ok (.invokestatic 361, 3) := by decide +kernel
theorem dX11_restore_69 : decode cX11_restore 69 = .ok (.aload_n 0, 1) := by decide +kernel
theorem dX11_restore_70 : decode cX11_restore 70 = .ok (.invokevirtual 122, 3) := by decide +kernel
theorem dX11_restore_73 : decode cX11_restore 73 = .ok (.aload_n 0, 1) := by decide +kernel
theorem dX11_restore_74 : decode cX11_restore 74 = .ok (.getfield 116, 3) := by decide +kernel
theorem dX11_restore_77 : decode cX11_restore 77 = .ok (.ireturn, 1) := by decide +kernel
theorem dX11_toldMany_0 : decode cX11_toldMany 0 = .ok (.iconst 0, 1) := by decide +kernel
theorem dX11_toldMany_1 : decode cX11_toldMany 1 = .ok (.istore_n 2, 1) := by decide +kernel
theorem dX11_toldMany_2 : decode cX11_toldMany 2 = .ok (.iconst 0, 1) := by decide +kernel
theorem dX11_toldMany_3 : decode cX11_toldMany 3 = .ok (.istore_n 3, 1) := by decide +kernel
theorem dX11_toldMany_4 : decode cX11_toldMany 4 = .ok (.iload_n 3, 1) := by decide +kernel
theorem dX11_toldMany_5 : decode cX11_toldMany 5 = .ok (.aload_n 0, 1) := by decide +kernel
theorem dX11_toldMany_6 : decode cX11_toldMany 6 = .ok (.getfield 116, 3) := by decide +kernel
theorem dX11_toldMany_9 : decode cX11_toldMany 9 = .ok (.if_icmp .ge 53, 3) := by decide +kernel
theorem dX11_toldMany_12 : decode cX11_toldMany 12 = .ok (.iload_n 2, 1) := by decide +kernel
theorem dX11_toldMany_13 : decode cX11_toldMany 13 = .ok (.aload_n 0, 1) := by decide +kernel
theorem dX11_toldMany_14 : decode cX11_toldMany 14 = .ok (.iload_n 3, 1) := by decide +kernel
theorem dX11_toldMany_15 : decode cX11_toldMany 15 = .ok (.invokevirtual 245, 3) := by decide +kernel
theorem dX11_toldMany_18 : decode cX11_toldMany 18 = .ok (.ifCond .eq 35, 3) := by decide +kernel
theorem dX11_toldMany_21 : decode cX11_toldMany 21 = .ok (.iload_n 1, 1) := by decide +kernel
theorem dX11_toldMany_22 : decode cX11_toldMany 22 = .ok (.ifCond .eq 27, 3) := by decide +kernel
theorem dX11_toldMany_25 : decode cX11_toldMany 25 = .ok (.aload_n 0, 1) := by decide +kernel
theorem dX11_toldMany_26 : decode cX11_toldMany 26 = .ok (.getfield 13, 3) := by decide +kernel
theorem dX11_toldMany_29 : decode cX11_toldMany 29 = .ok (.iconst 4, 1) := by decide +kernel
theorem dX11_toldMany_30 : decode cX11_toldMany 30 = .ok (.iload_n 3, 1) := by decide +kernel
theorem dX11_toldMany_31 : decode cX11_toldMany 31 = .ok (.imul, 1) := by decide +kernel
theorem dX11_toldMany_32 : decode cX11_toldMany 32 = .ok (.iaload, 1) := by decide +kernel
theorem dX11_toldMany_33 : decode cX11_toldMany 33 = .ok (.aload_n 0, 1) := by decide +kernel
theorem dX11_toldMany_34 : decode cX11_toldMany 34 = .ok (.getfield 13, 3) := by decide +kernel
theorem dX11_toldMany_37 : decode cX11_toldMany 37 = .ok (.iconst 4, 1) := by decide +kernel
theorem dX11_toldMany_38 : decode cX11_toldMany 38 = .ok (.iload_n 3, 1) := by decide +kernel
theorem dX11_toldMany_39 : decode cX11_toldMany 39 = .ok (.imul, 1) := by decide +kernel
theorem dX11_toldMany_40 : decode cX11_toldMany 40 = .ok (.iconst 1, 1) := by decide +kernel
theorem dX11_toldMany_41 : decode cX11_toldMany 41 = .ok (.iadd, 1) := by decide +kernel
theorem dX11_toldMany_42 : decode cX11_toldMany 42 = .ok (.iaload, 1) := by decide +kernel
theorem dX11_toldMany_43 : decode cX11_toldMany 43 = .ok (.invokestatic 272, 3) := by decide +kernel
theorem dX11_toldMany_46 : decode cX11_toldMany 46 = .ok (.ifCond .le 7, 3) := by decide +kernel
theorem dX11_toldMany_49 : decode cX11_toldMany 49 = .ok (.iconst 1, 1) := by decide +kernel
theorem dX11_toldMany_50 : decode cX11_toldMany 50 = .ok (.goto 4, 3) := by decide +kernel
theorem dX11_toldMany_53 : decode cX11_toldMany 53 = .ok (.iconst 0, 1) := by decide +kernel
theorem dX11_toldMany_54 : decode cX11_toldMany 54 = .ok (.iadd, 1) := by decide +kernel
theorem dX11_toldMany_55 : decode cX11_toldMany 55 = .ok (.istore_n 2, 1) := by decide +kernel
theorem dX11_toldMany_56 : decode cX11_toldMany 56 = .ok (.iinc 3 1, 3) := by decide +kernel
theorem dX11_toldMany_59 : decode cX11_toldMany 59 = .ok (.goto (-55), 3) := by decide +kernel
theorem dX11_toldMany_62 : decode cX11_toldMany 62 = .ok (.iload_n 2, 1) := by decide +kernel
theorem dX11_toldMany_63 : decode cX11_toldMany 63 = .ok (.ireturn, 1) := by decide +kernel
theorem dX11_howMany_0 : decode cX11_howMany 0 = .ok (.iload_n 1, 1) := by decide +kernel
theorem dX11_howMany_1 : decode cX11_howMany 1 = .ok (.tableswitch 71 0 5 #[39, 44, 50, 56, 61, 66], 39) := by decide +kernel
theorem dX11_howMany_40 : decode cX11_howMany 40 = .ok (.aload_n 0, 1) := by decide +kernel
theorem dX11_howMany_41 : decode cX11_howMany 41 = .ok (.getfield 116, 3) := by decide +kernel
theorem dX11_howMany_44 : decode cX11_howMany 44 = .ok (.ireturn, 1) := by decide +kernel
theorem dX11_howMany_45 : decode cX11_howMany 45 = .ok (.aload_n 0, 1) := by decide +kernel
theorem dX11_howMany_46 : decode cX11_howMany 46 = .ok (.iconst 0, 1) := by decide +kernel
theorem dX11_howMany_47 : decode cX11_howMany 47 = .ok (.invokevirtual 365, 3) := by decide +kernel
theorem dX11_howMany_50 : decode cX11_howMany 50 = .ok (.ireturn, 1) := by decide +kernel
theorem dX11_howMany_51 : decode cX11_howMany 51 = .ok (.aload_n 0, 1) := by decide +kernel
theorem dX11_howMany_52 : decode cX11_howMany 52 = .ok (.iconst 1, 1) := by decide +kernel
theorem dX11_howMany_53 : decode cX11_howMany 53 = .ok (.invokevirtual 365, 3) := by decide +kernel
theorem dX11_howMany_56 : decode cX11_howMany 56 = .ok (.ireturn, 1) := by decide +kernel
theorem dX11_howMany_57 : decode cX11_howMany 57 = .ok (.aload_n 0, 1) := by decide +kernel
theorem dX11_howMany_58 : decode cX11_howMany 58 = .ok (.getfield 319, 3) := by decide +kernel
theorem dX11_howMany_61 : decode cX11_howMany 61 = .ok (.ireturn, 1) := by decide +kernel
theorem dX11_howMany_62 : decode cX11_howMany 62 = .ok (.aload_n 0, 1) := by decide +kernel
theorem dX11_howMany_63 : decode cX11_howMany 63 = .ok (.getfield 73, 3) := by decide +kernel
theorem dX11_howMany_66 : decode cX11_howMany 66 = .ok (.ireturn, 1) := by decide +kernel
theorem dX11_howMany_67 : decode cX11_howMany 67 = .ok (.aload_n 0, 1) := by decide +kernel
theorem dX11_howMany_68 : decode cX11_howMany 68 = .ok (.getfield 119, 3) := by decide +kernel
theorem dX11_howMany_71 : decode cX11_howMany 71 = .ok (.ireturn, 1) := by decide +kernel
theorem dX11_howMany_72 : decode cX11_howMany 72 = .ok (.ldc 72, 2) := by decide +kernel
theorem dX11_howMany_74 : decode cX11_howMany 74 = .ok (.ireturn, 1) := by decide +kernel
theorem dX11_count_0 : decode cX11_count 0 = .ok (.aload_n 0, 1) := by decide +kernel
theorem dX11_count_1 : decode cX11_count 1 = .ok (.iload_n 1, 1) := by decide +kernel
theorem dX11_count_2 : decode cX11_count 2 = .ok (.invokevirtual 369, 3) := by decide +kernel
theorem dX11_count_5 : decode cX11_count 5 = .ok (.ireturn, 1) := by decide +kernel
theorem dX11_mix_0 : decode cX11_mix 0 = .ok (.aload_n 0, 1) := by decide +kernel
theorem dX11_mix_1 : decode cX11_mix 1 = .ok (.ldc2_w 372, 3) := by decide +kernel
theorem dX11_mix_4 : decode cX11_mix 4 = .ok (.aload_n 0, 1) := by decide +kernel
theorem dX11_mix_5 : decode cX11_mix 5 = .ok (.getfield 374, 3) := by decide +kernel
theorem dX11_mix_8 : decode cX11_mix 8 = .ok (.lmul, 1) := by decide +kernel
theorem dX11_mix_9 : decode cX11_mix 9 = .ok (.lload_n 1, 1) := by decide +kernel
theorem dX11_mix_10 : decode cX11_mix 10 = .ok (.ladd, 1) := by decide +kernel
theorem dX11_mix_11 : decode cX11_mix 11 = .ok (.putfield 374, 3) := by decide +kernel
theorem dX11_mix_14 : decode cX11_mix 14 = .ok (.return_, 1) := by decide +kernel
theorem dX11_mixRow_0 : decode cX11_mixRow 0 = .ok (.aload_n 0, 1) := by decide +kernel
theorem dX11_mixRow_1 : decode cX11_mixRow 1 = .ok (.aload_n 0, 1) := by decide +kernel
theorem dX11_mixRow_2 : decode cX11_mixRow 2 = .ok (.getfield 7, 3) := by decide +kernel
theorem dX11_mixRow_5 : decode cX11_mixRow 5 = .ok (.iload_n 1, 1) := by decide +kernel
theorem dX11_mixRow_6 : decode cX11_mixRow 6 = .ok (.iaload, 1) := by decide +kernel
theorem dX11_mixRow_7 : decode cX11_mixRow 7 = .ok (.i2l, 1) := by decide +kernel
theorem dX11_mixRow_8 : decode cX11_mixRow 8 = .ok (.invokevirtual 377, 3) := by decide +kernel
theorem dX11_mixRow_11 : decode cX11_mixRow 11 = .ok (.iconst 0, 1) := by decide +kernel
theorem dX11_mixRow_12 : decode cX11_mixRow 12 = .ok (.istore_n 2, 1) := by decide +kernel
theorem dX11_mixRow_13 : decode cX11_mixRow 13 = .ok (.iload_n 2, 1) := by decide +kernel
theorem dX11_mixRow_14 : decode cX11_mixRow 14 = .ok (.iconst 4, 1) := by decide +kernel
theorem dX11_mixRow_15 : decode cX11_mixRow 15 = .ok (.if_icmp .ge 24, 3) := by decide +kernel
theorem dX11_mixRow_18 : decode cX11_mixRow 18 = .ok (.aload_n 0, 1) := by decide +kernel
theorem dX11_mixRow_19 : decode cX11_mixRow 19 = .ok (.aload_n 0, 1) := by decide +kernel
theorem dX11_mixRow_20 : decode cX11_mixRow 20 = .ok (.getfield 13, 3) := by decide +kernel
theorem dX11_mixRow_23 : decode cX11_mixRow 23 = .ok (.iconst 4, 1) := by decide +kernel
theorem dX11_mixRow_24 : decode cX11_mixRow 24 = .ok (.iload_n 1, 1) := by decide +kernel
theorem dX11_mixRow_25 : decode cX11_mixRow 25 = .ok (.imul, 1) := by decide +kernel
theorem dX11_mixRow_26 : decode cX11_mixRow 26 = .ok (.iload_n 2, 1) := by decide +kernel
theorem dX11_mixRow_27 : decode cX11_mixRow 27 = .ok (.iadd, 1) := by decide +kernel
theorem dX11_mixRow_28 : decode cX11_mixRow 28 = .ok (.iaload, 1) := by decide +kernel
theorem dX11_mixRow_29 : decode cX11_mixRow 29 = .ok (.i2l, 1) := by decide +kernel
theorem dX11_mixRow_30 : decode cX11_mixRow 30 = .ok (.invokevirtual 377, 3) := by decide +kernel
theorem dX11_mixRow_33 : decode cX11_mixRow 33 = .ok (.iinc 2 1, 3) := by decide +kernel
theorem dX11_mixRow_36 : decode cX11_mixRow 36 = .ok (.goto (-23), 3) := by decide +kernel
theorem dX11_mixRow_39 : decode cX11_mixRow 39 = .ok (.iconst 0, 1) := by decide +kernel
theorem dX11_mixRow_40 : decode cX11_mixRow 40 = .ok (.istore_n 2, 1) := by decide +kernel
theorem dX11_mixRow_41 : decode cX11_mixRow 41 = .ok (.iload_n 2, 1) := by decide +kernel
theorem dX11_mixRow_42 : decode cX11_mixRow 42 = .ok (.bipush 8, 2) := by decide +kernel
theorem dX11_mixRow_44 : decode cX11_mixRow 44 = .ok (.if_icmp .ge 20, 3) := by decide +kernel
theorem dX11_mixRow_47 : decode cX11_mixRow 47 = .ok (.aload_n 0, 1) := by decide +kernel
theorem dX11_mixRow_48 : decode cX11_mixRow 48 = .ok (.aload_n 0, 1) := by decide +kernel
theorem dX11_mixRow_49 : decode cX11_mixRow 49 = .ok (.iload_n 1, 1) := by decide +kernel
theorem dX11_mixRow_50 : decode cX11_mixRow 50 = .ok (.iload_n 2, 1) := by decide +kernel
theorem dX11_mixRow_51 : decode cX11_mixRow 51 = .ok (.invokevirtual 201, 3) := by decide +kernel
theorem dX11_mixRow_54 : decode cX11_mixRow 54 = .ok (.i2l, 1) := by decide +kernel
theorem dX11_mixRow_55 : decode cX11_mixRow 55 = .ok (.invokevirtual 377, 3) := by decide +kernel
theorem dX11_mixRow_58 : decode cX11_mixRow 58 = .ok (.iinc 2 1, 3) := by decide +kernel
theorem dX11_mixRow_61 : decode cX11_mixRow 61 = .ok (.goto (-20), 3) := by decide +kernel
theorem dX11_mixRow_64 : decode cX11_mixRow 64 = .ok (.aload_n 0, 1) := by decide +kernel
theorem dX11_mixRow_65 : decode cX11_mixRow 65 = .ok (.aload_n 0, 1) := by decide +kernel
theorem dX11_mixRow_66 : decode cX11_mixRow 66 = .ok (.iload_n 1, 1) := by decide +kernel
theorem dX11_mixRow_67 : decode cX11_mixRow 67 = .ok (.ldc_w 381, 3) := by decide +kernel
theorem dX11_mixRow_70 : decode cX11_mixRow 70 = .ok (.bipush 7, 2) := by decide +kernel
theorem dX11_mixRow_72 : decode cX11_mixRow 72 = .ok (.invokevirtual 207, 3) := by decide +kernel
theorem dX11_mixRow_75 : decode cX11_mixRow 75 = .ok (.i2l, 1) := by decide +kernel
theorem dX11_mixRow_76 : decode cX11_mixRow 76 = .ok (.invokevirtual 377, 3) := by decide +kernel
theorem dX11_mixRow_79 : decode cX11_mixRow 79 = .ok (.iconst 0, 1) := by decide +kernel
theorem dX11_mixRow_80 : decode cX11_mixRow 80 = .ok (.istore_n 2, 1) := by decide +kernel
theorem dX11_mixRow_81 : decode cX11_mixRow 81 = .ok (.iload_n 2, 1) := by decide +kernel
theorem dX11_mixRow_82 : decode cX11_mixRow 82 = .ok (.iconst 3, 1) := by decide +kernel
theorem dX11_mixRow_83 : decode cX11_mixRow 83 = .ok (.if_icmp .ge 21, 3) := by decide +kernel
theorem dX11_mixRow_86 : decode cX11_mixRow 86 = .ok (.aload_n 0, 1) := by decide +kernel
theorem dX11_mixRow_87 : decode cX11_mixRow 87 = .ok (.aload_n 0, 1) := by decide +kernel
theorem dX11_mixRow_88 : decode cX11_mixRow 88 = .ok (.iload_n 1, 1) := by decide +kernel
theorem dX11_mixRow_89 : decode cX11_mixRow 89 = .ok (.iconst 5, 1) := by decide +kernel
theorem dX11_mixRow_90 : decode cX11_mixRow 90 = .ok (.iload_n 2, 1) := by decide +kernel
theorem dX11_mixRow_91 : decode cX11_mixRow 91 = .ok (.invokevirtual 213, 3) := by decide +kernel
theorem dX11_mixRow_94 : decode cX11_mixRow 94 = .ok (.i2l, 1) := by decide +kernel
theorem dX11_mixRow_95 : decode cX11_mixRow 95 = .ok (.invokevirtual 377, 3) := by decide +kernel
theorem dX11_mixRow_98 : decode cX11_mixRow 98 = .ok (.iinc 2 1, 3) := by decide +kernel
theorem dX11_mixRow_101 : decode cX11_mixRow 101 = .ok (.goto (-20), 3) := by decide +kernel
theorem dX11_mixRow_104 : decode cX11_mixRow 104 = .ok (.aload_n 0, 1) := by decide +kernel
theorem dX11_mixRow_105 : decode cX11_mixRow 105 = .ok (.aload_n 0, 1) := by decide +kernel
theorem dX11_mixRow_106 : decode cX11_mixRow 106 = .ok (.iload_n 1, 1) := by decide +kernel
theorem dX11_mixRow_107 : decode cX11_mixRow 107 = .ok (.invokevirtual 278, 3) := by decide +kernel
theorem dX11_mixRow_110 : decode cX11_mixRow 110 = .ok (.i2l, 1) := by decide +kernel
theorem dX11_mixRow_111 : decode cX11_mixRow 111 = .ok (.invokevirtual 377, 3) := by decide +kernel
theorem dX11_mixRow_114 : decode cX11_mixRow 114 = .ok (.return_, 1) := by decide +kernel
theorem dX11_digest_0 : decode cX11_digest 0 = .ok (.aload_n 0, 1) := by decide +kernel
theorem dX11_digest_1 : decode cX11_digest 1 = .ok (.ldc2_w 382, 3) := by decide +kernel
theorem dX11_digest_4 : decode cX11_digest 4 = .ok (.putfield 374, 3) := by decide +kernel
theorem dX11_digest_7 : decode cX11_digest 7 = .ok (.iconst 0, 1) := by decide +kernel
theorem dX11_digest_8 : decode cX11_digest 8 = .ok (.istore_n 1, 1) := by decide +kernel
theorem dX11_digest_9 : decode cX11_digest 9 = .ok (.iload_n 1, 1) := by decide +kernel
theorem dX11_digest_10 : decode cX11_digest 10 = .ok (.aload_n 0, 1) := by decide +kernel
theorem dX11_digest_11 : decode cX11_digest 11 = .ok (.getfield 116, 3) := by decide +kernel
theorem dX11_digest_14 : decode cX11_digest 14 = .ok (.if_icmp .ge 14, 3) := by decide +kernel
theorem dX11_digest_17 : decode cX11_digest 17 = .ok (.aload_n 0, 1) := by decide +kernel
theorem dX11_digest_18 : decode cX11_digest 18 = .ok (.iload_n 1, 1) := by decide +kernel
theorem dX11_digest_19 : decode cX11_digest 19 = .ok (.invokevirtual 384, 3) := by decide +kernel
theorem dX11_digest_22 : decode cX11_digest 22 = .ok (.iinc 1 1, 3) := by decide +kernel
theorem dX11_digest_25 : decode cX11_digest 25 = .ok (.goto (-16), 3) := by decide +kernel
theorem dX11_digest_28 : decode cX11_digest 28 = .ok (.iconst 0, 1) := by decide +kernel
theorem dX11_digest_29 : decode cX11_digest 29 = .ok (.istore_n 1, 1) := by decide +kernel
theorem dX11_digest_30 : decode cX11_digest 30 = .ok (.iload_n 1, 1) := by decide +kernel
theorem dX11_digest_31 : decode cX11_digest 31 = .ok (.aload_n 0, 1) := by decide +kernel
theorem dX11_digest_32 : decode cX11_digest 32 = .ok (.getfield 319, 3) := by decide +kernel
theorem dX11_digest_35 : decode cX11_digest 35 = .ok (.if_icmp .ge 20, 3) := by decide +kernel
theorem dX11_digest_38 : decode cX11_digest 38 = .ok (.aload_n 0, 1) := by decide +kernel
theorem dX11_digest_39 : decode cX11_digest 39 = .ok (.aload_n 0, 1) := by decide +kernel
theorem dX11_digest_40 : decode cX11_digest 40 = .ok (.getfield 16, 3) := by decide +kernel
theorem dX11_digest_43 : decode cX11_digest 43 = .ok (.iload_n 1, 1) := by decide +kernel
theorem dX11_digest_44 : decode cX11_digest 44 = .ok (.iaload, 1) := by decide +kernel
theorem dX11_digest_45 : decode cX11_digest 45 = .ok (.i2l, 1) := by decide +kernel
theorem dX11_digest_46 : decode cX11_digest 46 = .ok (.invokevirtual 377, 3) := by decide +kernel
theorem dX11_digest_49 : decode cX11_digest 49 = .ok (.iinc 1 1, 3) := by decide +kernel
theorem dX11_digest_52 : decode cX11_digest 52 = .ok (.goto (-22), 3) := by decide +kernel
theorem dX11_digest_55 : decode cX11_digest 55 = .ok (.iconst 0, 1) := by decide +kernel
theorem dX11_digest_56 : decode cX11_digest 56 = .ok (.istore_n 1, 1) := by decide +kernel
theorem dX11_digest_57 : decode cX11_digest 57 = .ok (.iload_n 1, 1) := by decide +kernel
theorem dX11_digest_58 : decode cX11_digest 58 = .ok (.iconst 3, 1) := by decide +kernel
theorem dX11_digest_59 : decode cX11_digest 59 = .ok (.if_icmp .ge 19, 3) := by decide +kernel
theorem dX11_digest_62 : decode cX11_digest 62 = .ok (.aload_n 0, 1) := by decide +kernel
theorem dX11_digest_63 : decode cX11_digest 63 = .ok (.aload_n 0, 1) := by decide +kernel
theorem dX11_digest_64 : decode cX11_digest 64 = .ok (.iload_n 1, 1) := by decide +kernel
theorem dX11_digest_65 : decode cX11_digest 65 = .ok (.invokevirtual 334, 3) := by decide +kernel
theorem dX11_digest_68 : decode cX11_digest 68 = .ok (.i2l, 1) := by decide +kernel
theorem dX11_digest_69 : decode cX11_digest 69 = .ok (.invokevirtual 377, 3) := by decide +kernel
theorem dX11_digest_72 : decode cX11_digest 72 = .ok (.iinc 1 1, 3) := by decide +kernel
theorem dX11_digest_75 : decode cX11_digest 75 = .ok (.goto (-18), 3) := by decide +kernel
theorem dX11_digest_78 : decode cX11_digest 78 = .ok (.iconst 0, 1) := by decide +kernel
theorem dX11_digest_79 : decode cX11_digest 79 = .ok (.istore_n 1, 1) := by decide +kernel
theorem dX11_digest_80 : decode cX11_digest 80 = .ok (.iload_n 1, 1) := by decide +kernel
theorem dX11_digest_81 : decode cX11_digest 81 = .ok (.aload_n 0, 1) := by decide +kernel
theorem dX11_digest_82 : decode cX11_digest 82 = .ok (.getfield 73, 3) := by decide +kernel
theorem dX11_digest_85 : decode cX11_digest 85 = .ok (.if_icmp .ge 20, 3) := by decide +kernel
theorem dX11_digest_88 : decode cX11_digest 88 = .ok (.aload_n 0, 1) := by decide +kernel
theorem dX11_digest_89 : decode cX11_digest 89 = .ok (.aload_n 0, 1) := by decide +kernel
theorem dX11_digest_90 : decode cX11_digest 90 = .ok (.getfield 19, 3) := by decide +kernel
theorem dX11_digest_93 : decode cX11_digest 93 = .ok (.iload_n 1, 1) := by decide +kernel
theorem dX11_digest_94 : decode cX11_digest 94 = .ok (.baload, 1) := by decide +kernel
theorem dX11_digest_95 : decode cX11_digest 95 = .ok (.i2l, 1) := by decide +kernel
theorem dX11_digest_96 : decode cX11_digest 96 = .ok (.invokevirtual 377, 3) := by decide +kernel
theorem dX11_digest_99 : decode cX11_digest 99 = .ok (.iinc 1 1, 3) := by decide +kernel
theorem dX11_digest_102 : decode cX11_digest 102 = .ok (.goto (-22), 3) := by decide +kernel
theorem dX11_digest_105 : decode cX11_digest 105 = .ok (.iconst 0, 1) := by decide +kernel
theorem dX11_digest_106 : decode cX11_digest 106 = .ok (.istore_n 1, 1) := by decide +kernel
theorem dX11_digest_107 : decode cX11_digest 107 = .ok (.iload_n 1, 1) := by decide +kernel
theorem dX11_digest_108 : decode cX11_digest 108 = .ok (.bipush 6, 2) := by decide +kernel
theorem dX11_digest_110 : decode cX11_digest 110 = .ok (.if_icmp .ge 19, 3) := by decide +kernel
theorem dX11_digest_113 : decode cX11_digest 113 = .ok (.aload_n 0, 1) := by decide +kernel
theorem dX11_digest_114 : decode cX11_digest 114 = .ok (.aload_n 0, 1) := by decide +kernel
theorem dX11_digest_115 : decode cX11_digest 115 = .ok (.iload_n 1, 1) := by decide +kernel
theorem dX11_digest_116 : decode cX11_digest 116 = .ok (.invokevirtual 369, 3) := by decide +kernel
theorem dX11_digest_119 : decode cX11_digest 119 = .ok (.i2l, 1) := by decide +kernel
theorem dX11_digest_120 : decode cX11_digest 120 = .ok (.invokevirtual 377, 3) := by decide +kernel
theorem dX11_digest_123 : decode cX11_digest 123 = .ok (.iinc 1 1, 3) := by decide +kernel
theorem dX11_digest_126 : decode cX11_digest 126 = .ok (.goto (-19), 3) := by decide +kernel
theorem dX11_digest_129 : decode cX11_digest 129 = .ok (.aload_n 0, 1) := by decide +kernel
theorem dX11_digest_130 : decode cX11_digest 130 = .ok (.getfield 374, 3) := by decide +kernel
theorem dX11_digest_133 : decode cX11_digest 133 = .ok (.lreturn, 1) := by decide +kernel
end
section
theorem dL_law_0 : decode cL_law 0 = .ok (.new 7, 3) := by decide +kernel
theorem dL_law_3 : decode cL_law 3 = .ok (.dup, 1) := by decide +kernel
theorem dL_law_4 : decode cL_law 4 = .ok (.invokespecial 9, 3) := by decide +kernel
theorem dL_law_7 : decode cL_law 7 = .ok (.astore_n 1, 1) := by decide +kernel
theorem dL_law_8 : decode cL_law 8 = .ok (.new 10, 3) := by decide +kernel
theorem dL_law_11 : decode cL_law 11 = .ok (.dup, 1) := by decide +kernel
theorem dL_law_12 : decode cL_law 12 = .ok (.invokespecial 12, 3) := by decide +kernel
theorem dL_law_15 : decode cL_law 15 = .ok (.astore_n 2, 1) := by decide +kernel
theorem dL_law_16 : decode cL_law 16 = .ok (.iconst 0, 1) := by decide +kernel
theorem dL_law_17 : decode cL_law 17 = .ok (.istore_n 3, 1) := by decide +kernel
theorem dL_law_18 : decode cL_law 18 = .ok (.iload_n 3, 1) := by decide +kernel
theorem dL_law_19 : decode cL_law 19 = .ok (.aload_n 0, 1) := by decide +kernel
theorem dL_law_20 : decode cL_law 20 = .ok (.arraylength, 1) := by decide +kernel
theorem dL_law_21 : decode cL_law 21 = .ok (.iconst 5, 1) := by decide +kernel
theorem dL_law_22 : decode cL_law 22 = .ok (.isub, 1) := by decide +kernel
theorem dL_law_23 : decode cL_law 23 = .ok (.if_icmp .gt 1083, 3) := by decide +kernel
theorem dL_law_26 : decode cL_law 26 = .ok (.aload_n 0, 1) := by decide +kernel
theorem dL_law_27 : decode cL_law 27 = .ok (.iload_n 3, 1) := by decide +kernel
theorem dL_law_28 : decode cL_law 28 = .ok (.iaload, 1) := by decide +kernel
theorem dL_law_29 : decode cL_law 29 = .ok (.bipush 63, 2) := by decide +kernel
theorem dL_law_31 : decode cL_law 31 = .ok (.iand, 1) := by decide +kernel
theorem dL_law_32 : decode cL_law 32 = .ok (.tableswitch 1068 0 32 #[148, 171, 184, 197, 210, 243, 276, 309, 352, 395, 438, 471, 504, 527, 550, 583, 626, 679, 712, 745, 788, 811, 854, 867, 890, 913, 926, 949, 962, 1005, 1018, 1031, 1054], 148) := by decide +kernel
theorem dL_law_180 : decode cL_law 180 = .ok (.aload_n 1, 1) := by decide +kernel
theorem dL_law_181 : decode cL_law 181 = .ok (.aload_n 0, 1) := by decide +kernel
theorem dL_law_182 : decode cL_law 182 = .ok (.iload_n 3, 1) := by decide +kernel
theorem dL_law_183 : decode cL_law 183 = .ok (.iconst 1, 1) := by decide +kernel
theorem dL_law_184 : decode cL_law 184 = .ok (.iadd, 1) := by decide +kernel
theorem dL_law_185 : decode cL_law 185 = .ok (.iaload, 1) := by decide +kernel
theorem dL_law_186 : decode cL_law 186 = .ok (.invokevirtual 13, 3) := by decide +kernel
theorem dL_law_189 : decode cL_law 189 = .ok (.aload_n 2, 1) := by decide +kernel
theorem dL_law_190 : decode cL_law 190 = .ok (.aload_n 0, 1) := by decide +kernel
theorem dL_law_191 : decode cL_law 191 = .ok (.iload_n 3, 1) := by decide +kernel
theorem dL_law_192 : decode cL_law 192 = .ok (.iconst 1, 1) := by decide +kernel
theorem dL_law_193 : decode cL_law 193 = .ok (.iadd, 1) := by decide +kernel
theorem dL_law_194 : decode cL_law 194 = .ok (.iaload, 1) := by decide +kernel
theorem dL_law_195 : decode cL_law 195 = .ok (.invokevirtual 17, 3) := by decide +kernel
theorem dL_law_198 : decode cL_law 198 = .ok (.if_icmp .eq 902, 3) := by decide +kernel
theorem dL_law_201 : decode cL_law 201 = .ok (.iconst 0, 1) := by decide +kernel
theorem dL_law_202 : decode cL_law 202 = .ok (.ireturn, 1) := by decide +kernel
theorem dL_law_203 : decode cL_law 203 = .ok (.aload_n 1, 1) := by decide +kernel
theorem dL_law_204 : decode cL_law 204 = .ok (.invokevirtual 18, 3) := by decide +kernel
theorem dL_law_207 : decode cL_law 207 = .ok (.aload_n 2, 1) := by decide +kernel
theorem dL_law_208 : decode cL_law 208 = .ok (.invokevirtual 22, 3) := by decide +kernel
theorem dL_law_211 : decode cL_law 211 = .ok (.if_icmp .eq 889, 3) := by decide +kernel
theorem dL_law_214 : decode cL_law 214 = .ok (.iconst 0, 1) := by decide +kernel
theorem dL_law_215 : decode cL_law 215 = .ok (.ireturn, 1) := by decide +kernel
theorem dL_law_216 : decode cL_law 216 = .ok (.aload_n 1, 1) := by decide +kernel
theorem dL_law_217 : decode cL_law 217 = .ok (.invokevirtual 23, 3) := by decide +kernel
theorem dL_law_220 : decode cL_law 220 = .ok (.aload_n 2, 1) := by decide +kernel
theorem dL_law_221 : decode cL_law 221 = .ok (.invokevirtual 26, 3) := by decide +kernel
theorem dL_law_224 : decode cL_law 224 = .ok (.if_icmp .eq 876, 3) := by decide +kernel
theorem dL_law_227 : decode cL_law 227 = .ok (.iconst 0, 1) := by decide +kernel
theorem dL_law_228 : decode cL_law 228 = .ok (.ireturn, 1) := by decide +kernel
theorem dL_law_229 : decode cL_law 229 = .ok (.aload_n 1, 1) := by decide +kernel
theorem dL_law_230 : decode cL_law 230 = .ok (.invokevirtual 27, 3) := by decide +kernel
theorem dL_law_233 : decode cL_law 233 = .ok (.aload_n 2, 1) := by decide +kernel
theorem dL_law_234 : decode cL_law 234 = .ok (.invokevirtual 30, 3) := by decide +kernel
theorem dL_law_237 : decode cL_law 237 = .ok (.if_icmp .eq 863, 3) := by decide +kernel
theorem dL_law_240 : decode cL_law 240 = .ok (.iconst 0, 1) := by decide +kernel
theorem dL_law_241 : decode cL_law 241 = .ok (.ireturn, 1) := by decide +kernel
theorem dL_law_242 : decode cL_law 242 = .ok (.aload_n 1, 1) := by decide +kernel
theorem dL_law_243 : decode cL_law 243 = .ok (.aload_n 0, 1) := by decide +kernel
theorem dL_law_244 : decode cL_law 244 = .ok (.iload_n 3, 1) := by decide +kernel
theorem dL_law_245 : decode cL_law 245 = .ok (.iconst 1, 1) := by decide +kernel
theorem dL_law_246 : decode cL_law 246 = .ok (.iadd, 1) := by decide +kernel
theorem dL_law_247 : decode cL_law 247 = .ok (.iaload, 1) := by decide +kernel
theorem dL_law_248 : decode cL_law 248 = .ok (.aload_n 0, 1) := by decide +kernel
theorem dL_law_249 : decode cL_law 249 = .ok (.iload_n 3, 1) := by decide +kernel
theorem dL_law_250 : decode cL_law 250 = .ok (.iconst 2, 1) := by decide +kernel
theorem dL_law_251 : decode cL_law 251 = .ok (.iadd, 1) := by decide +kernel
theorem dL_law_252 : decode cL_law 252 = .ok (.iaload, 1) := by decide +kernel
theorem dL_law_253 : decode cL_law 253 = .ok (.invokevirtual 31, 3) := by decide +kernel
theorem dL_law_256 : decode cL_law 256 = .ok (.aload_n 2, 1) := by decide +kernel
theorem dL_law_257 : decode cL_law 257 = .ok (.aload_n 0, 1) := by decide +kernel
theorem dL_law_258 : decode cL_law 258 = .ok (.iload_n 3, 1) := by decide +kernel
theorem dL_law_259 : decode cL_law 259 = .ok (.iconst 1, 1) := by decide +kernel
theorem dL_law_260 : decode cL_law 260 = .ok (.iadd, 1) := by decide +kernel
theorem dL_law_261 : decode cL_law 261 = .ok (.iaload, 1) := by decide +kernel
theorem dL_law_262 : decode cL_law 262 = .ok (.aload_n 0, 1) := by decide +kernel
theorem dL_law_263 : decode cL_law 263 = .ok (.iload_n 3, 1) := by decide +kernel
theorem dL_law_264 : decode cL_law 264 = .ok (.iconst 2, 1) := by decide +kernel
theorem dL_law_265 : decode cL_law 265 = .ok (.iadd, 1) := by decide +kernel
theorem dL_law_266 : decode cL_law 266 = .ok (.iaload, 1) := by decide +kernel
theorem dL_law_267 : decode cL_law 267 = .ok (.invokevirtual 35, 3) := by decide +kernel
theorem dL_law_270 : decode cL_law 270 = .ok (.if_icmp .eq 830, 3) := by decide +kernel
theorem dL_law_273 : decode cL_law 273 = .ok (.iconst 0, 1) := by decide +kernel
theorem dL_law_274 : decode cL_law 274 = .ok (.ireturn, 1) := by decide +kernel
theorem dL_law_275 : decode cL_law 275 = .ok (.aload_n 1, 1) := by decide +kernel
theorem dL_law_276 : decode cL_law 276 = .ok (.aload_n 0, 1) := by decide +kernel
theorem dL_law_277 : decode cL_law 277 = .ok (.iload_n 3, 1) := by decide +kernel
theorem dL_law_278 : decode cL_law 278 = .ok (.iconst 1, 1) := by decide +kernel
theorem dL_law_279 : decode cL_law 279 = .ok (.iadd, 1) := by decide +kernel
theorem dL_law_280 : decode cL_law 280 = .ok (.iaload, 1) := by decide +kernel
theorem dL_law_281 : decode cL_law 281 = .ok (.aload_n 0, 1) := by decide +kernel
theorem dL_law_282 : decode cL_law 282 = .ok (.iload_n 3, 1) := by decide +kernel
theorem dL_law_283 : decode cL_law 283 = .ok (.iconst 2, 1) := by decide +kernel
theorem dL_law_284 : decode cL_law 284 = .ok (.iadd, 1) := by decide +kernel
theorem dL_law_285 : decode cL_law 285 = .ok (.iaload, 1) := by decide +kernel
theorem dL_law_286 : decode cL_law 286 = .ok (.invokevirtual 36, 3) := by decide +kernel
theorem dL_law_289 : decode cL_law 289 = .ok (.aload_n 2, 1) := by decide +kernel
theorem dL_law_290 : decode cL_law 290 = .ok (.aload_n 0, 1) := by decide +kernel
theorem dL_law_291 : decode cL_law 291 = .ok (.iload_n 3, 1) := by decide +kernel
theorem dL_law_292 : decode cL_law 292 = .ok (.iconst 1, 1) := by decide +kernel
theorem dL_law_293 : decode cL_law 293 = .ok (.iadd, 1) := by decide +kernel
theorem dL_law_294 : decode cL_law 294 = .ok (.iaload, 1) := by decide +kernel
theorem dL_law_295 : decode cL_law 295 = .ok (.aload_n 0, 1) := by decide +kernel
theorem dL_law_296 : decode cL_law 296 = .ok (.iload_n 3, 1) := by decide +kernel
theorem dL_law_297 : decode cL_law 297 = .ok (.iconst 2, 1) := by decide +kernel
theorem dL_law_298 : decode cL_law 298 = .ok (.iadd, 1) := by decide +kernel
theorem dL_law_299 : decode cL_law 299 = .ok (.iaload, 1) := by decide +kernel
theorem dL_law_300 : decode cL_law 300 = .ok (.invokevirtual 39, 3) := by decide +kernel
theorem dL_law_303 : decode cL_law 303 = .ok (.if_icmp .eq 797, 3) := by decide +kernel
theorem dL_law_306 : decode cL_law 306 = .ok (.iconst 0, 1) := by decide +kernel
theorem dL_law_307 : decode cL_law 307 = .ok (.ireturn, 1) := by decide +kernel
theorem dL_law_308 : decode cL_law 308 = .ok (.aload_n 1, 1) := by decide +kernel
theorem dL_law_309 : decode cL_law 309 = .ok (.aload_n 0, 1) := by decide +kernel
theorem dL_law_310 : decode cL_law 310 = .ok (.iload_n 3, 1) := by decide +kernel
theorem dL_law_311 : decode cL_law 311 = .ok (.iconst 1, 1) := by decide +kernel
theorem dL_law_312 : decode cL_law 312 = .ok (.iadd, 1) := by decide +kernel
theorem dL_law_313 : decode cL_law 313 = .ok (.iaload, 1) := by decide +kernel
theorem dL_law_314 : decode cL_law 314 = .ok (.aload_n 0, 1) := by decide +kernel
theorem dL_law_315 : decode cL_law 315 = .ok (.iload_n 3, 1) := by decide +kernel
theorem dL_law_316 : decode cL_law 316 = .ok (.iconst 2, 1) := by decide +kernel
theorem dL_law_317 : decode cL_law 317 = .ok (.iadd, 1) := by decide +kernel
theorem dL_law_318 : decode cL_law 318 = .ok (.iaload, 1) := by decide +kernel
theorem dL_law_319 : decode cL_law 319 = .ok (.invokevirtual 40, 3) := by decide +kernel
theorem dL_law_322 : decode cL_law 322 = .ok (.aload_n 2, 1) := by decide +kernel
theorem dL_law_323 : decode cL_law 323 = .ok (.aload_n 0, 1) := by decide +kernel
theorem dL_law_324 : decode cL_law 324 = .ok (.iload_n 3, 1) := by decide +kernel
theorem dL_law_325 : decode cL_law 325 = .ok (.iconst 1, 1) := by decide +kernel
theorem dL_law_326 : decode cL_law 326 = .ok (.iadd, 1) := by decide +kernel
theorem dL_law_327 : decode cL_law 327 = .ok (.iaload, 1) := by decide +kernel
theorem dL_law_328 : decode cL_law 328 = .ok (.aload_n 0, 1) := by decide +kernel
theorem dL_law_329 : decode cL_law 329 = .ok (.iload_n 3, 1) := by decide +kernel
theorem dL_law_330 : decode cL_law 330 = .ok (.iconst 2, 1) := by decide +kernel
theorem dL_law_331 : decode cL_law 331 = .ok (.iadd, 1) := by decide +kernel
theorem dL_law_332 : decode cL_law 332 = .ok (.iaload, 1) := by decide +kernel
theorem dL_law_333 : decode cL_law 333 = .ok (.invokevirtual 43, 3) := by decide +kernel
theorem dL_law_336 : decode cL_law 336 = .ok (.if_icmp .eq 764, 3) := by decide +kernel
theorem dL_law_339 : decode cL_law 339 = .ok (.iconst 0, 1) := by decide +kernel
theorem dL_law_340 : decode cL_law 340 = .ok (.ireturn, 1) := by decide +kernel
theorem dL_law_341 : decode cL_law 341 = .ok (.aload_n 1, 1) := by decide +kernel
theorem dL_law_342 : decode cL_law 342 = .ok (.aload_n 0, 1) := by decide +kernel
theorem dL_law_343 : decode cL_law 343 = .ok (.iload_n 3, 1) := by decide +kernel
theorem dL_law_344 : decode cL_law 344 = .ok (.iconst 1, 1) := by decide +kernel
theorem dL_law_345 : decode cL_law 345 = .ok (.iadd, 1) := by decide +kernel
theorem dL_law_346 : decode cL_law 346 = .ok (.iaload, 1) := by decide +kernel
theorem dL_law_347 : decode cL_law 347 = .ok (.aload_n 0, 1) := by decide +kernel
theorem dL_law_348 : decode cL_law 348 = .ok (.iload_n 3, 1) := by decide +kernel
theorem dL_law_349 : decode cL_law 349 = .ok (.iconst 2, 1) := by decide +kernel
theorem dL_law_350 : decode cL_law 350 = .ok (.iadd, 1) := by decide +kernel
theorem dL_law_351 : decode cL_law 351 = .ok (.iaload, 1) := by decide +kernel
theorem dL_law_352 : decode cL_law 352 = .ok (.aload_n 0, 1) := by decide +kernel
theorem dL_law_353 : decode cL_law 353 = .ok (.iload_n 3, 1) := by decide +kernel
theorem dL_law_354 : decode cL_law 354 = .ok (.iconst 3, 1) := by decide +kernel
theorem dL_law_355 : decode cL_law 355 = .ok (.iadd, 1) := by decide +kernel
theorem dL_law_356 : decode cL_law 356 = .ok (.iaload, 1) := by decide +kernel
theorem dL_law_357 : decode cL_law 357 = .ok (.invokevirtual 44, 3) := by decide +kernel
theorem dL_law_360 : decode cL_law 360 = .ok (.aload_n 2, 1) := by decide +kernel
theorem dL_law_361 : decode cL_law 361 = .ok (.aload_n 0, 1) := by decide +kernel
theorem dL_law_362 : decode cL_law 362 = .ok (.iload_n 3, 1) := by decide +kernel
theorem dL_law_363 : decode cL_law 363 = .ok (.iconst 1, 1) := by decide +kernel
theorem dL_law_364 : decode cL_law 364 = .ok (.iadd, 1) := by decide +kernel
theorem dL_law_365 : decode cL_law 365 = .ok (.iaload, 1) := by decide +kernel
theorem dL_law_366 : decode cL_law 366 = .ok (.aload_n 0, 1) := by decide +kernel
theorem dL_law_367 : decode cL_law 367 = .ok (.iload_n 3, 1) := by decide +kernel
theorem dL_law_368 : decode cL_law 368 = .ok (.iconst 2, 1) := by decide +kernel
theorem dL_law_369 : decode cL_law 369 = .ok (.iadd, 1) := by decide +kernel
theorem dL_law_370 : decode cL_law 370 = .ok (.iaload, 1) := by decide +kernel
theorem dL_law_371 : decode cL_law 371 = .ok (.aload_n 0, 1) := by decide +kernel
theorem dL_law_372 : decode cL_law 372 = .ok (.iload_n 3, 1) := by decide +kernel
theorem dL_law_373 : decode cL_law 373 = .ok (.iconst 3, 1) := by decide +kernel
theorem dL_law_374 : decode cL_law 374 = .ok (.iadd, 1) := by decide +kernel
theorem dL_law_375 : decode cL_law 375 = .ok (.iaload, 1) := by decide +kernel
theorem dL_law_376 : decode cL_law 376 = .ok (.invokevirtual 48, 3) := by decide +kernel
theorem dL_law_379 : decode cL_law 379 = .ok (.if_icmp .eq 721, 3) := by decide +kernel
theorem dL_law_382 : decode cL_law 382 = .ok (.iconst 0, 1) := by decide +kernel
theorem dL_law_383 : decode cL_law 383 = .ok (.ireturn, 1) := by decide +kernel
theorem dL_law_384 : decode cL_law 384 = .ok (.aload_n 1, 1) := by decide +kernel
theorem dL_law_385 : decode cL_law 385 = .ok (.aload_n 0, 1) := by decide +kernel
theorem dL_law_386 : decode cL_law 386 = .ok (.iload_n 3, 1) := by decide +kernel
theorem dL_law_387 : decode cL_law 387 = .ok (.iconst 1, 1) := by decide +kernel
theorem dL_law_388 : decode cL_law 388 = .ok (.iadd, 1) := by decide +kernel
theorem dL_law_389 : decode cL_law 389 = .ok (.iaload, 1) := by decide +kernel
theorem dL_law_390 : decode cL_law 390 = .ok (.aload_n 0, 1) := by decide +kernel
theorem dL_law_391 : decode cL_law 391 = .ok (.iload_n 3, 1) := by decide +kernel
theorem dL_law_392 : decode cL_law 392 = .ok (.iconst 2, 1) := by decide +kernel
theorem dL_law_393 : decode cL_law 393 = .ok (.iadd, 1) := by decide +kernel
theorem dL_law_394 : decode cL_law 394 = .ok (.iaload, 1) := by decide +kernel
theorem dL_law_395 : decode cL_law 395 = .ok (.aload_n 0, 1) := by decide +kernel
theorem dL_law_396 : decode cL_law 396 = .ok (.iload_n 3, 1) := by decide +kernel
theorem dL_law_397 : decode cL_law 397 = .ok (.iconst 3, 1) := by decide +kernel
theorem dL_law_398 : decode cL_law 398 = .ok (.iadd, 1) := by decide +kernel
theorem dL_law_399 : decode cL_law 399 = .ok (.iaload, 1) := by decide +kernel
theorem dL_law_400 : decode cL_law 400 = .ok (.invokevirtual 49, 3) := by decide +kernel
theorem dL_law_403 : decode cL_law 403 = .ok (.aload_n 2, 1) := by decide +kernel
theorem dL_law_404 : decode cL_law 404 = .ok (.aload_n 0, 1) := by decide +kernel
theorem dL_law_405 : decode cL_law 405 = .ok (.iload_n 3, 1) := by decide +kernel
theorem dL_law_406 : decode cL_law 406 = .ok (.iconst 1, 1) := by decide +kernel
theorem dL_law_407 : decode cL_law 407 = .ok (.iadd, 1) := by decide +kernel
theorem dL_law_408 : decode cL_law 408 = .ok (.iaload, 1) := by decide +kernel
theorem dL_law_409 : decode cL_law 409 = .ok (.aload_n 0, 1) := by decide +kernel
theorem dL_law_410 : decode cL_law 410 = .ok (.iload_n 3, 1) := by decide +kernel
theorem dL_law_411 : decode cL_law 411 = .ok (.iconst 2, 1) := by decide +kernel
theorem dL_law_412 : decode cL_law 412 = .ok (.iadd, 1) := by decide +kernel
theorem dL_law_413 : decode cL_law 413 = .ok (.iaload, 1) := by decide +kernel
theorem dL_law_414 : decode cL_law 414 = .ok (.aload_n 0, 1) := by decide +kernel
theorem dL_law_415 : decode cL_law 415 = .ok (.iload_n 3, 1) := by decide +kernel
theorem dL_law_416 : decode cL_law 416 = .ok (.iconst 3, 1) := by decide +kernel
theorem dL_law_417 : decode cL_law 417 = .ok (.iadd, 1) := by decide +kernel
theorem dL_law_418 : decode cL_law 418 = .ok (.iaload, 1) := by decide +kernel
theorem dL_law_419 : decode cL_law 419 = .ok (.invokevirtual 52, 3) := by decide +kernel
theorem dL_law_422 : decode cL_law 422 = .ok (.if_icmp .eq 678, 3) := by decide +kernel
theorem dL_law_425 : decode cL_law 425 = .ok (.iconst 0, 1) := by decide +kernel
theorem dL_law_426 : decode cL_law 426 = .ok (.ireturn, 1) := by decide +kernel
theorem dL_law_427 : decode cL_law 427 = .ok (.aload_n 1, 1) := by decide +kernel
theorem dL_law_428 : decode cL_law 428 = .ok (.aload_n 0, 1) := by decide +kernel
theorem dL_law_429 : decode cL_law 429 = .ok (.iload_n 3, 1) := by decide +kernel
theorem dL_law_430 : decode cL_law 430 = .ok (.iconst 1, 1) := by decide +kernel
theorem dL_law_431 : decode cL_law 431 = .ok (.iadd, 1) := by decide +kernel
theorem dL_law_432 : decode cL_law 432 = .ok (.iaload, 1) := by decide +kernel
theorem dL_law_433 : decode cL_law 433 = .ok (.aload_n 0, 1) := by decide +kernel
theorem dL_law_434 : decode cL_law 434 = .ok (.iload_n 3, 1) := by decide +kernel
theorem dL_law_435 : decode cL_law 435 = .ok (.iconst 2, 1) := by decide +kernel
theorem dL_law_436 : decode cL_law 436 = .ok (.iadd, 1) := by decide +kernel
theorem dL_law_437 : decode cL_law 437 = .ok (.iaload, 1) := by decide +kernel
theorem dL_law_438 : decode cL_law 438 = .ok (.aload_n 0, 1) := by decide +kernel
theorem dL_law_439 : decode cL_law 439 = .ok (.iload_n 3, 1) := by decide +kernel
theorem dL_law_440 : decode cL_law 440 = .ok (.iconst 3, 1) := by decide +kernel
theorem dL_law_441 : decode cL_law 441 = .ok (.iadd, 1) := by decide +kernel
theorem dL_law_442 : decode cL_law 442 = .ok (.iaload, 1) := by decide +kernel
theorem dL_law_443 : decode cL_law 443 = .ok (.invokevirtual 53, 3) := by decide +kernel
theorem dL_law_446 : decode cL_law 446 = .ok (.aload_n 2, 1) := by decide +kernel
theorem dL_law_447 : decode cL_law 447 = .ok (.aload_n 0, 1) := by decide +kernel
theorem dL_law_448 : decode cL_law 448 = .ok (.iload_n 3, 1) := by decide +kernel
theorem dL_law_449 : decode cL_law 449 = .ok (.iconst 1, 1) := by decide +kernel
theorem dL_law_450 : decode cL_law 450 = .ok (.iadd, 1) := by decide +kernel
theorem dL_law_451 : decode cL_law 451 = .ok (.iaload, 1) := by decide +kernel
theorem dL_law_452 : decode cL_law 452 = .ok (.aload_n 0, 1) := by decide +kernel
theorem dL_law_453 : decode cL_law 453 = .ok (.iload_n 3, 1) := by decide +kernel
theorem dL_law_454 : decode cL_law 454 = .ok (.iconst 2, 1) := by decide +kernel
theorem dL_law_455 : decode cL_law 455 = .ok (.iadd, 1) := by decide +kernel
theorem dL_law_456 : decode cL_law 456 = .ok (.iaload, 1) := by decide +kernel
theorem dL_law_457 : decode cL_law 457 = .ok (.aload_n 0, 1) := by decide +kernel
theorem dL_law_458 : decode cL_law 458 = .ok (.iload_n 3, 1) := by decide +kernel
theorem dL_law_459 : decode cL_law 459 = .ok (.iconst 3, 1) := by decide +kernel
theorem dL_law_460 : decode cL_law 460 = .ok (.iadd, 1) := by decide +kernel
theorem dL_law_461 : decode cL_law 461 = .ok (.iaload, 1) := by decide +kernel
theorem dL_law_462 : decode cL_law 462 = .ok (.invokevirtual 56, 3) := by decide +kernel
theorem dL_law_465 : decode cL_law 465 = .ok (.if_icmp .eq 635, 3) := by decide +kernel
theorem dL_law_468 : decode cL_law 468 = .ok (.iconst 0, 1) := by decide +kernel
theorem dL_law_469 : decode cL_law 469 = .ok (.ireturn, 1) := by decide +kernel
theorem dL_law_470 : decode cL_law 470 = .ok (.aload_n 1, 1) := by decide +kernel
theorem dL_law_471 : decode cL_law 471 = .ok (.aload_n 0, 1) := by decide +kernel
theorem dL_law_472 : decode cL_law 472 = .ok (.iload_n 3, 1) := by decide +kernel
theorem dL_law_473 : decode cL_law 473 = .ok (.iconst 1, 1) := by decide +kernel
theorem dL_law_474 : decode cL_law 474 = .ok (.iadd, 1) := by decide +kernel
theorem dL_law_475 : decode cL_law 475 = .ok (.iaload, 1) := by decide +kernel
theorem dL_law_476 : decode cL_law 476 = .ok (.aload_n 0, 1) := by decide +kernel
theorem dL_law_477 : decode cL_law 477 = .ok (.iload_n 3, 1) := by decide +kernel
theorem dL_law_478 : decode cL_law 478 = .ok (.iconst 2, 1) := by decide +kernel
theorem dL_law_479 : decode cL_law 479 = .ok (.iadd, 1) := by decide +kernel
theorem dL_law_480 : decode cL_law 480 = .ok (.iaload, 1) := by decide +kernel
theorem dL_law_481 : decode cL_law 481 = .ok (.invokevirtual 57, 3) := by decide +kernel
theorem dL_law_484 : decode cL_law 484 = .ok (.aload_n 2, 1) := by decide +kernel
theorem dL_law_485 : decode cL_law 485 = .ok (.aload_n 0, 1) := by decide +kernel
theorem dL_law_486 : decode cL_law 486 = .ok (.iload_n 3, 1) := by decide +kernel
theorem dL_law_487 : decode cL_law 487 = .ok (.iconst 1, 1) := by decide +kernel
theorem dL_law_488 : decode cL_law 488 = .ok (.iadd, 1) := by decide +kernel
theorem dL_law_489 : decode cL_law 489 = .ok (.iaload, 1) := by decide +kernel
theorem dL_law_490 : decode cL_law 490 = .ok (.aload_n 0, 1) := by decide +kernel
theorem dL_law_491 : decode cL_law 491 = .ok (.iload_n 3, 1) := by decide +kernel
theorem dL_law_492 : decode cL_law 492 = .ok (.iconst 2, 1) := by decide +kernel
theorem dL_law_493 : decode cL_law 493 = .ok (.iadd, 1) := by decide +kernel
theorem dL_law_494 : decode cL_law 494 = .ok (.iaload, 1) := by decide +kernel
theorem dL_law_495 : decode cL_law 495 = .ok (.invokevirtual 60, 3) := by decide +kernel
theorem dL_law_498 : decode cL_law 498 = .ok (.if_icmp .eq 602, 3) := by decide +kernel
theorem dL_law_501 : decode cL_law 501 = .ok (.iconst 0, 1) := by decide +kernel
theorem dL_law_502 : decode cL_law 502 = .ok (.ireturn, 1) := by decide +kernel
theorem dL_law_503 : decode cL_law 503 = .ok (.aload_n 1, 1) := by decide +kernel
theorem dL_law_504 : decode cL_law 504 = .ok (.aload_n 0, 1) := by decide +kernel
theorem dL_law_505 : decode cL_law 505 = .ok (.iload_n 3, 1) := by decide +kernel
theorem dL_law_506 : decode cL_law 506 = .ok (.iconst 1, 1) := by decide +kernel
theorem dL_law_507 : decode cL_law 507 = .ok (.iadd, 1) := by decide +kernel
theorem dL_law_508 : decode cL_law 508 = .ok (.iaload, 1) := by decide +kernel
theorem dL_law_509 : decode cL_law 509 = .ok (.aload_n 0, 1) := by decide +kernel
theorem dL_law_510 : decode cL_law 510 = .ok (.iload_n 3, 1) := by decide +kernel
theorem dL_law_511 : decode cL_law 511 = .ok (.iconst 2, 1) := by decide +kernel
theorem dL_law_512 : decode cL_law 512 = .ok (.iadd, 1) := by decide +kernel
theorem dL_law_513 : decode cL_law 513 = .ok (.iaload, 1) := by decide +kernel
theorem dL_law_514 : decode cL_law 514 = .ok (.invokevirtual 61, 3) := by decide +kernel
theorem dL_law_517 : decode cL_law 517 = .ok (.aload_n 2, 1) := by decide +kernel
theorem dL_law_518 : decode cL_law 518 = .ok (.aload_n 0, 1) := by decide +kernel
theorem dL_law_519 : decode cL_law 519 = .ok (.iload_n 3, 1) := by decide +kernel
theorem dL_law_520 : decode cL_law 520 = .ok (.iconst 1, 1) := by decide +kernel
theorem dL_law_521 : decode cL_law 521 = .ok (.iadd, 1) := by decide +kernel
theorem dL_law_522 : decode cL_law 522 = .ok (.iaload, 1) := by decide +kernel
theorem dL_law_523 : decode cL_law 523 = .ok (.aload_n 0, 1) := by decide +kernel
theorem dL_law_524 : decode cL_law 524 = .ok (.iload_n 3, 1) := by decide +kernel
theorem dL_law_525 : decode cL_law 525 = .ok (.iconst 2, 1) := by decide +kernel
theorem dL_law_526 : decode cL_law 526 = .ok (.iadd, 1) := by decide +kernel
theorem dL_law_527 : decode cL_law 527 = .ok (.iaload, 1) := by decide +kernel
theorem dL_law_528 : decode cL_law 528 = .ok (.invokevirtual 64, 3) := by decide +kernel
theorem dL_law_531 : decode cL_law 531 = .ok (.if_icmp .eq 569, 3) := by decide +kernel
theorem dL_law_534 : decode cL_law 534 = .ok (.iconst 0, 1) := by decide +kernel
theorem dL_law_535 : decode cL_law 535 = .ok (.ireturn, 1) := by decide +kernel
theorem dL_law_536 : decode cL_law 536 = .ok (.aload_n 1, 1) := by decide +kernel
theorem dL_law_537 : decode cL_law 537 = .ok (.aload_n 0, 1) := by decide +kernel
theorem dL_law_538 : decode cL_law 538 = .ok (.iload_n 3, 1) := by decide +kernel
theorem dL_law_539 : decode cL_law 539 = .ok (.iconst 1, 1) := by decide +kernel
theorem dL_law_540 : decode cL_law 540 = .ok (.iadd, 1) := by decide +kernel
theorem dL_law_541 : decode cL_law 541 = .ok (.iaload, 1) := by decide +kernel
theorem dL_law_542 : decode cL_law 542 = .ok (.invokevirtual 65, 3) := by decide +kernel
theorem dL_law_545 : decode cL_law 545 = .ok (.aload_n 2, 1) := by decide +kernel
theorem dL_law_546 : decode cL_law 546 = .ok (.aload_n 0, 1) := by decide +kernel
theorem dL_law_547 : decode cL_law 547 = .ok (.iload_n 3, 1) := by decide +kernel
theorem dL_law_548 : decode cL_law 548 = .ok (.iconst 1, 1) := by decide +kernel
theorem dL_law_549 : decode cL_law 549 = .ok (.iadd, 1) := by decide +kernel
theorem dL_law_550 : decode cL_law 550 = .ok (.iaload, 1) := by decide +kernel
theorem dL_law_551 : decode cL_law 551 = .ok (.invokevirtual 68, 3) := by decide +kernel
theorem dL_law_554 : decode cL_law 554 = .ok (.if_icmp .eq 546, 3) := by decide +kernel
theorem dL_law_557 : decode cL_law 557 = .ok (.iconst 0, 1) := by decide +kernel
theorem dL_law_558 : decode cL_law 558 = .ok (.ireturn, 1) := by decide +kernel
theorem dL_law_559 : decode cL_law 559 = .ok (.aload_n 1, 1) := by decide +kernel
theorem dL_law_560 : decode cL_law 560 = .ok (.aload_n 0, 1) := by decide +kernel
theorem dL_law_561 : decode cL_law 561 = .ok (.iload_n 3, 1) := by decide +kernel
theorem dL_law_562 : decode cL_law 562 = .ok (.iconst 1, 1) := by decide +kernel
theorem dL_law_563 : decode cL_law 563 = .ok (.iadd, 1) := by decide +kernel
theorem dL_law_564 : decode cL_law 564 = .ok (.iaload, 1) := by decide +kernel
theorem dL_law_565 : decode cL_law 565 = .ok (.invokevirtual 69, 3) := by decide +kernel
theorem dL_law_568 : decode cL_law 568 = .ok (.aload_n 2, 1) := by decide +kernel
theorem dL_law_569 : decode cL_law 569 = .ok (.aload_n 0, 1) := by decide +kernel
theorem dL_law_570 : decode cL_law 570 = .ok (.iload_n 3, 1) := by decide +kernel
theorem dL_law_571 : decode cL_law 571 = .ok (.iconst 1, 1) := by decide +kernel
theorem dL_law_572 : decode cL_law 572 = .ok (.iadd, 1) := by decide +kernel
theorem dL_law_573 : decode cL_law 573 = .ok (.iaload, 1) := by decide +kernel
theorem dL_law_574 : decode cL_law 574 = .ok (.invokevirtual 72, 3) := by decide +kernel
theorem dL_law_577 : decode cL_law 577 = .ok (.if_icmp .eq 523, 3) := by decide +kernel
theorem dL_law_580 : decode cL_law 580 = .ok (.iconst 0, 1) := by decide +kernel
theorem dL_law_581 : decode cL_law 581 = .ok (.ireturn, 1) := by decide +kernel
theorem dL_law_582 : decode cL_law 582 = .ok (.aload_n 1, 1) := by decide +kernel
theorem dL_law_583 : decode cL_law 583 = .ok (.aload_n 0, 1) := by decide +kernel
theorem dL_law_584 : decode cL_law 584 = .ok (.iload_n 3, 1) := by decide +kernel
theorem dL_law_585 : decode cL_law 585 = .ok (.iconst 1, 1) := by decide +kernel
theorem dL_law_586 : decode cL_law 586 = .ok (.iadd, 1) := by decide +kernel
theorem dL_law_587 : decode cL_law 587 = .ok (.iaload, 1) := by decide +kernel
theorem dL_law_588 : decode cL_law 588 = .ok (.aload_n 0, 1) := by decide +kernel
theorem dL_law_589 : decode cL_law 589 = .ok (.iload_n 3, 1) := by decide +kernel
theorem dL_law_590 : decode cL_law 590 = .ok (.iconst 2, 1) := by decide +kernel
theorem dL_law_591 : decode cL_law 591 = .ok (.iadd, 1) := by decide +kernel
theorem dL_law_592 : decode cL_law 592 = .ok (.iaload, 1) := by decide +kernel
theorem dL_law_593 : decode cL_law 593 = .ok (.invokevirtual 73, 3) := by decide +kernel
theorem dL_law_596 : decode cL_law 596 = .ok (.aload_n 2, 1) := by decide +kernel
theorem dL_law_597 : decode cL_law 597 = .ok (.aload_n 0, 1) := by decide +kernel
theorem dL_law_598 : decode cL_law 598 = .ok (.iload_n 3, 1) := by decide +kernel
theorem dL_law_599 : decode cL_law 599 = .ok (.iconst 1, 1) := by decide +kernel
theorem dL_law_600 : decode cL_law 600 = .ok (.iadd, 1) := by decide +kernel
theorem dL_law_601 : decode cL_law 601 = .ok (.iaload, 1) := by decide +kernel
theorem dL_law_602 : decode cL_law 602 = .ok (.aload_n 0, 1) := by decide +kernel
theorem dL_law_603 : decode cL_law 603 = .ok (.iload_n 3, 1) := by decide +kernel
theorem dL_law_604 : decode cL_law 604 = .ok (.iconst 2, 1) := by decide +kernel
theorem dL_law_605 : decode cL_law 605 = .ok (.iadd, 1) := by decide +kernel
theorem dL_law_606 : decode cL_law 606 = .ok (.iaload, 1) := by decide +kernel
theorem dL_law_607 : decode cL_law 607 = .ok (.invokevirtual 76, 3) := by decide +kernel
theorem dL_law_610 : decode cL_law 610 = .ok (.if_icmp .eq 490, 3) := by decide +kernel
theorem dL_law_613 : decode cL_law 613 = .ok (.iconst 0, 1) := by decide +kernel
theorem dL_law_614 : decode cL_law 614 = .ok (.ireturn, 1) := by decide +kernel
theorem dL_law_615 : decode cL_law 615 = .ok (.aload_n 1, 1) := by decide +kernel
theorem dL_law_616 : decode cL_law 616 = .ok (.aload_n 0, 1) := by decide +kernel
theorem dL_law_617 : decode cL_law 617 = .ok (.iload_n 3, 1) := by decide +kernel
theorem dL_law_618 : decode cL_law 618 = .ok (.iconst 1, 1) := by decide +kernel
theorem dL_law_619 : decode cL_law 619 = .ok (.iadd, 1) := by decide +kernel
theorem dL_law_620 : decode cL_law 620 = .ok (.iaload, 1) := by decide +kernel
theorem dL_law_621 : decode cL_law 621 = .ok (.aload_n 0, 1) := by decide +kernel
theorem dL_law_622 : decode cL_law 622 = .ok (.iload_n 3, 1) := by decide +kernel
theorem dL_law_623 : decode cL_law 623 = .ok (.iconst 2, 1) := by decide +kernel
theorem dL_law_624 : decode cL_law 624 = .ok (.iadd, 1) := by decide +kernel
theorem dL_law_625 : decode cL_law 625 = .ok (.iaload, 1) := by decide +kernel
theorem dL_law_626 : decode cL_law 626 = .ok (.aload_n 0, 1) := by decide +kernel
theorem dL_law_627 : decode cL_law 627 = .ok (.iload_n 3, 1) := by decide +kernel
theorem dL_law_628 : decode cL_law 628 = .ok (.iconst 3, 1) := by decide +kernel
theorem dL_law_629 : decode cL_law 629 = .ok (.iadd, 1) := by decide +kernel
theorem dL_law_630 : decode cL_law 630 = .ok (.iaload, 1) := by decide +kernel
theorem dL_law_631 : decode cL_law 631 = .ok (.invokevirtual 77, 3) := by decide +kernel
theorem dL_law_634 : decode cL_law 634 = .ok (.aload_n 2, 1) := by decide +kernel
theorem dL_law_635 : decode cL_law 635 = .ok (.aload_n 0, 1) := by decide +kernel
theorem dL_law_636 : decode cL_law 636 = .ok (.iload_n 3, 1) := by decide +kernel
theorem dL_law_637 : decode cL_law 637 = .ok (.iconst 1, 1) := by decide +kernel
theorem dL_law_638 : decode cL_law 638 = .ok (.iadd, 1) := by decide +kernel
theorem dL_law_639 : decode cL_law 639 = .ok (.iaload, 1) := by decide +kernel
theorem dL_law_640 : decode cL_law 640 = .ok (.aload_n 0, 1) := by decide +kernel
theorem dL_law_641 : decode cL_law 641 = .ok (.iload_n 3, 1) := by decide +kernel
theorem dL_law_642 : decode cL_law 642 = .ok (.iconst 2, 1) := by decide +kernel
theorem dL_law_643 : decode cL_law 643 = .ok (.iadd, 1) := by decide +kernel
theorem dL_law_644 : decode cL_law 644 = .ok (.iaload, 1) := by decide +kernel
theorem dL_law_645 : decode cL_law 645 = .ok (.aload_n 0, 1) := by decide +kernel
theorem dL_law_646 : decode cL_law 646 = .ok (.iload_n 3, 1) := by decide +kernel
theorem dL_law_647 : decode cL_law 647 = .ok (.iconst 3, 1) := by decide +kernel
theorem dL_law_648 : decode cL_law 648 = .ok (.iadd, 1) := by decide +kernel
theorem dL_law_649 : decode cL_law 649 = .ok (.iaload, 1) := by decide +kernel
theorem dL_law_650 : decode cL_law 650 = .ok (.invokevirtual 80, 3) := by decide +kernel
theorem dL_law_653 : decode cL_law 653 = .ok (.if_icmp .eq 447, 3) := by decide +kernel
theorem dL_law_656 : decode cL_law 656 = .ok (.iconst 0, 1) := by decide +kernel
theorem dL_law_657 : decode cL_law 657 = .ok (.ireturn, 1) := by decide +kernel
theorem dL_law_658 : decode cL_law 658 = .ok (.aload_n 1, 1) := by decide +kernel
theorem dL_law_659 : decode cL_law 659 = .ok (.aload_n 0, 1) := by decide +kernel
theorem dL_law_660 : decode cL_law 660 = .ok (.iload_n 3, 1) := by decide +kernel
theorem dL_law_661 : decode cL_law 661 = .ok (.iconst 1, 1) := by decide +kernel
theorem dL_law_662 : decode cL_law 662 = .ok (.iadd, 1) := by decide +kernel
theorem dL_law_663 : decode cL_law 663 = .ok (.iaload, 1) := by decide +kernel
theorem dL_law_664 : decode cL_law 664 = .ok (.aload_n 0, 1) := by decide +kernel
theorem dL_law_665 : decode cL_law 665 = .ok (.iload_n 3, 1) := by decide +kernel
theorem dL_law_666 : decode cL_law 666 = .ok (.iconst 2, 1) := by decide +kernel
theorem dL_law_667 : decode cL_law 667 = .ok (.iadd, 1) := by decide +kernel
theorem dL_law_668 : decode cL_law 668 = .ok (.iaload, 1) := by decide +kernel
theorem dL_law_669 : decode cL_law 669 = .ok (.aload_n 0, 1) := by decide +kernel
theorem dL_law_670 : decode cL_law 670 = .ok (.iload_n 3, 1) := by decide +kernel
theorem dL_law_671 : decode cL_law 671 = .ok (.iconst 3, 1) := by decide +kernel
theorem dL_law_672 : decode cL_law 672 = .ok (.iadd, 1) := by decide +kernel
theorem dL_law_673 : decode cL_law 673 = .ok (.iaload, 1) := by decide +kernel
theorem dL_law_674 : decode cL_law 674 = .ok (.aload_n 0, 1) := by decide +kernel
theorem dL_law_675 : decode cL_law 675 = .ok (.iload_n 3, 1) := by decide +kernel
theorem dL_law_676 : decode cL_law 676 = .ok (.iconst 4, 1) := by decide +kernel
theorem dL_law_677 : decode cL_law 677 = .ok (.iadd, 1) := by decide +kernel
theorem dL_law_678 : decode cL_law 678 = .ok (.iaload, 1) := by decide +kernel
theorem dL_law_679 : decode cL_law 679 = .ok (.invokevirtual 81, 3) := by decide +kernel
theorem dL_law_682 : decode cL_law 682 = .ok (.aload_n 2, 1) := by decide +kernel
theorem dL_law_683 : decode cL_law 683 = .ok (.aload_n 0, 1) := by decide +kernel
theorem dL_law_684 : decode cL_law 684 = .ok (.iload_n 3, 1) := by decide +kernel
theorem dL_law_685 : decode cL_law 685 = .ok (.iconst 1, 1) := by decide +kernel
theorem dL_law_686 : decode cL_law 686 = .ok (.iadd, 1) := by decide +kernel
theorem dL_law_687 : decode cL_law 687 = .ok (.iaload, 1) := by decide +kernel
theorem dL_law_688 : decode cL_law 688 = .ok (.aload_n 0, 1) := by decide +kernel
theorem dL_law_689 : decode cL_law 689 = .ok (.iload_n 3, 1) := by decide +kernel
theorem dL_law_690 : decode cL_law 690 = .ok (.iconst 2, 1) := by decide +kernel
theorem dL_law_691 : decode cL_law 691 = .ok (.iadd, 1) := by decide +kernel
theorem dL_law_692 : decode cL_law 692 = .ok (.iaload, 1) := by decide +kernel
theorem dL_law_693 : decode cL_law 693 = .ok (.aload_n 0, 1) := by decide +kernel
theorem dL_law_694 : decode cL_law 694 = .ok (.iload_n 3, 1) := by decide +kernel
theorem dL_law_695 : decode cL_law 695 = .ok (.iconst 3, 1) := by decide +kernel
theorem dL_law_696 : decode cL_law 696 = .ok (.iadd, 1) := by decide +kernel
theorem dL_law_697 : decode cL_law 697 = .ok (.iaload, 1) := by decide +kernel
theorem dL_law_698 : decode cL_law 698 = .ok (.aload_n 0, 1) := by decide +kernel
theorem dL_law_699 : decode cL_law 699 = .ok (.iload_n 3, 1) := by decide +kernel
theorem dL_law_700 : decode cL_law 700 = .ok (.iconst 4, 1) := by decide +kernel
theorem dL_law_701 : decode cL_law 701 = .ok (.iadd, 1) := by decide +kernel
theorem dL_law_702 : decode cL_law 702 = .ok (.iaload, 1) := by decide +kernel
theorem dL_law_703 : decode cL_law 703 = .ok (.invokevirtual 85, 3) := by decide +kernel
theorem dL_law_706 : decode cL_law 706 = .ok (.if_icmp .eq 394, 3) := by decide +kernel
theorem dL_law_709 : decode cL_law 709 = .ok (.iconst 0, 1) := by decide +kernel
theorem dL_law_710 : decode cL_law 710 = .ok (.ireturn, 1) := by decide +kernel
theorem dL_law_711 : decode cL_law 711 = .ok (.aload_n 1, 1) := by decide +kernel
theorem dL_law_712 : decode cL_law 712 = .ok (.aload_n 0, 1) := by decide +kernel
theorem dL_law_713 : decode cL_law 713 = .ok (.iload_n 3, 1) := by decide +kernel
theorem dL_law_714 : decode cL_law 714 = .ok (.iconst 1, 1) := by decide +kernel
theorem dL_law_715 : decode cL_law 715 = .ok (.iadd, 1) := by decide +kernel
theorem dL_law_716 : decode cL_law 716 = .ok (.iaload, 1) := by decide +kernel
theorem dL_law_717 : decode cL_law 717 = .ok (.aload_n 0, 1) := by decide +kernel
theorem dL_law_718 : decode cL_law 718 = .ok (.iload_n 3, 1) := by decide +kernel
theorem dL_law_719 : decode cL_law 719 = .ok (.iconst 2, 1) := by decide +kernel
theorem dL_law_720 : decode cL_law 720 = .ok (.iadd, 1) := by decide +kernel
theorem dL_law_721 : decode cL_law 721 = .ok (.iaload, 1) := by decide +kernel
theorem dL_law_722 : decode cL_law 722 = .ok (.invokevirtual 86, 3) := by decide +kernel
theorem dL_law_725 : decode cL_law 725 = .ok (.aload_n 2, 1) := by decide +kernel
theorem dL_law_726 : decode cL_law 726 = .ok (.aload_n 0, 1) := by decide +kernel
theorem dL_law_727 : decode cL_law 727 = .ok (.iload_n 3, 1) := by decide +kernel
theorem dL_law_728 : decode cL_law 728 = .ok (.iconst 1, 1) := by decide +kernel
theorem dL_law_729 : decode cL_law 729 = .ok (.iadd, 1) := by decide +kernel
theorem dL_law_730 : decode cL_law 730 = .ok (.iaload, 1) := by decide +kernel
theorem dL_law_731 : decode cL_law 731 = .ok (.aload_n 0, 1) := by decide +kernel
theorem dL_law_732 : decode cL_law 732 = .ok (.iload_n 3, 1) := by decide +kernel
theorem dL_law_733 : decode cL_law 733 = .ok (.iconst 2, 1) := by decide +kernel
theorem dL_law_734 : decode cL_law 734 = .ok (.iadd, 1) := by decide +kernel
theorem dL_law_735 : decode cL_law 735 = .ok (.iaload, 1) := by decide +kernel
theorem dL_law_736 : decode cL_law 736 = .ok (.invokevirtual 89, 3) := by decide +kernel
theorem dL_law_739 : decode cL_law 739 = .ok (.if_icmp .eq 361, 3) := by decide +kernel
theorem dL_law_742 : decode cL_law 742 = .ok (.iconst 0, 1) := by decide +kernel
theorem dL_law_743 : decode cL_law 743 = .ok (.ireturn, 1) := by decide +kernel
theorem dL_law_744 : decode cL_law 744 = .ok (.aload_n 1, 1) := by decide +kernel
theorem dL_law_745 : decode cL_law 745 = .ok (.aload_n 0, 1) := by decide +kernel
theorem dL_law_746 : decode cL_law 746 = .ok (.iload_n 3, 1) := by decide +kernel
theorem dL_law_747 : decode cL_law 747 = .ok (.iconst 1, 1) := by decide +kernel
theorem dL_law_748 : decode cL_law 748 = .ok (.iadd, 1) := by decide +kernel
theorem dL_law_749 : decode cL_law 749 = .ok (.iaload, 1) := by decide +kernel
theorem dL_law_750 : decode cL_law 750 = .ok (.aload_n 0, 1) := by decide +kernel
theorem dL_law_751 : decode cL_law 751 = .ok (.iload_n 3, 1) := by decide +kernel
theorem dL_law_752 : decode cL_law 752 = .ok (.iconst 2, 1) := by decide +kernel
theorem dL_law_753 : decode cL_law 753 = .ok (.iadd, 1) := by decide +kernel
theorem dL_law_754 : decode cL_law 754 = .ok (.iaload, 1) := by decide +kernel
theorem dL_law_755 : decode cL_law 755 = .ok (.invokevirtual 90, 3) := by decide +kernel
theorem dL_law_758 : decode cL_law 758 = .ok (.aload_n 2, 1) := by decide +kernel
theorem dL_law_759 : decode cL_law 759 = .ok (.aload_n 0, 1) := by decide +kernel
theorem dL_law_760 : decode cL_law 760 = .ok (.iload_n 3, 1) := by decide +kernel
theorem dL_law_761 : decode cL_law 761 = .ok (.iconst 1, 1) := by decide +kernel
theorem dL_law_762 : decode cL_law 762 = .ok (.iadd, 1) := by decide +kernel
theorem dL_law_763 : decode cL_law 763 = .ok (.iaload, 1) := by decide +kernel
theorem dL_law_764 : decode cL_law 764 = .ok (.aload_n 0, 1) := by decide +kernel
theorem dL_law_765 : decode cL_law 765 = .ok (.iload_n 3, 1) := by decide +kernel
theorem dL_law_766 : decode cL_law 766 = .ok (.iconst 2, 1) := by decide +kernel
theorem dL_law_767 : decode cL_law 767 = .ok (.iadd, 1) := by decide +kernel
theorem dL_law_768 : decode cL_law 768 = .ok (.iaload, 1) := by decide +kernel
theorem dL_law_769 : decode cL_law 769 = .ok (.invokevirtual 93, 3) := by decide +kernel
theorem dL_law_772 : decode cL_law 772 = .ok (.if_icmp .eq 328, 3) := by decide +kernel
theorem dL_law_775 : decode cL_law 775 = .ok (.iconst 0, 1) := by decide +kernel
theorem dL_law_776 : decode cL_law 776 = .ok (.ireturn, 1) := by decide +kernel
theorem dL_law_777 : decode cL_law 777 = .ok (.aload_n 1, 1) := by decide +kernel
theorem dL_law_778 : decode cL_law 778 = .ok (.aload_n 0, 1) := by decide +kernel
theorem dL_law_779 : decode cL_law 779 = .ok (.iload_n 3, 1) := by decide +kernel
theorem dL_law_780 : decode cL_law 780 = .ok (.iconst 1, 1) := by decide +kernel
theorem dL_law_781 : decode cL_law 781 = .ok (.iadd, 1) := by decide +kernel
theorem dL_law_782 : decode cL_law 782 = .ok (.iaload, 1) := by decide +kernel
theorem dL_law_783 : decode cL_law 783 = .ok (.aload_n 0, 1) := by decide +kernel
theorem dL_law_784 : decode cL_law 784 = .ok (.iload_n 3, 1) := by decide +kernel
theorem dL_law_785 : decode cL_law 785 = .ok (.iconst 2, 1) := by decide +kernel
theorem dL_law_786 : decode cL_law 786 = .ok (.iadd, 1) := by decide +kernel
theorem dL_law_787 : decode cL_law 787 = .ok (.iaload, 1) := by decide +kernel
theorem dL_law_788 : decode cL_law 788 = .ok (.aload_n 0, 1) := by decide +kernel
theorem dL_law_789 : decode cL_law 789 = .ok (.iload_n 3, 1) := by decide +kernel
theorem dL_law_790 : decode cL_law 790 = .ok (.iconst 3, 1) := by decide +kernel
theorem dL_law_791 : decode cL_law 791 = .ok (.iadd, 1) := by decide +kernel
theorem dL_law_792 : decode cL_law 792 = .ok (.iaload, 1) := by decide +kernel
theorem dL_law_793 : decode cL_law 793 = .ok (.invokevirtual 94, 3) := by decide +kernel
theorem dL_law_796 : decode cL_law 796 = .ok (.aload_n 2, 1) := by decide +kernel
theorem dL_law_797 : decode cL_law 797 = .ok (.aload_n 0, 1) := by decide +kernel
theorem dL_law_798 : decode cL_law 798 = .ok (.iload_n 3, 1) := by decide +kernel
theorem dL_law_799 : decode cL_law 799 = .ok (.iconst 1, 1) := by decide +kernel
theorem dL_law_800 : decode cL_law 800 = .ok (.iadd, 1) := by decide +kernel
theorem dL_law_801 : decode cL_law 801 = .ok (.iaload, 1) := by decide +kernel
theorem dL_law_802 : decode cL_law 802 = .ok (.aload_n 0, 1) := by decide +kernel
theorem dL_law_803 : decode cL_law 803 = .ok (.iload_n 3, 1) := by decide +kernel
theorem dL_law_804 : decode cL_law 804 = .ok (.iconst 2, 1) := by decide +kernel
theorem dL_law_805 : decode cL_law 805 = .ok (.iadd, 1) := by decide +kernel
theorem dL_law_806 : decode cL_law 806 = .ok (.iaload, 1) := by decide +kernel
theorem dL_law_807 : decode cL_law 807 = .ok (.aload_n 0, 1) := by decide +kernel
theorem dL_law_808 : decode cL_law 808 = .ok (.iload_n 3, 1) := by decide +kernel
theorem dL_law_809 : decode cL_law 809 = .ok (.iconst 3, 1) := by decide +kernel
theorem dL_law_810 : decode cL_law 810 = .ok (.iadd, 1) := by decide +kernel
theorem dL_law_811 : decode cL_law 811 = .ok (.iaload, 1) := by decide +kernel
theorem dL_law_812 : decode cL_law 812 = .ok (.invokevirtual 97, 3) := by decide +kernel
theorem dL_law_815 : decode cL_law 815 = .ok (.if_icmp .eq 285, 3) := by decide +kernel
theorem dL_law_818 : decode cL_law 818 = .ok (.iconst 0, 1) := by decide +kernel
theorem dL_law_819 : decode cL_law 819 = .ok (.ireturn, 1) := by decide +kernel
theorem dL_law_820 : decode cL_law 820 = .ok (.aload_n 1, 1) := by decide +kernel
theorem dL_law_821 : decode cL_law 821 = .ok (.aload_n 0, 1) := by decide +kernel
theorem dL_law_822 : decode cL_law 822 = .ok (.iload_n 3, 1) := by decide +kernel
theorem dL_law_823 : decode cL_law 823 = .ok (.iconst 1, 1) := by decide +kernel
theorem dL_law_824 : decode cL_law 824 = .ok (.iadd, 1) := by decide +kernel
theorem dL_law_825 : decode cL_law 825 = .ok (.iaload, 1) := by decide +kernel
theorem dL_law_826 : decode cL_law 826 = .ok (.invokevirtual 98, 3) := by decide +kernel
theorem dL_law_829 : decode cL_law 829 = .ok (.aload_n 2, 1) := by decide +kernel
theorem dL_law_830 : decode cL_law 830 = .ok (.aload_n 0, 1) := by decide +kernel
theorem dL_law_831 : decode cL_law 831 = .ok (.iload_n 3, 1) := by decide +kernel
theorem dL_law_832 : decode cL_law 832 = .ok (.iconst 1, 1) := by decide +kernel
theorem dL_law_833 : decode cL_law 833 = .ok (.iadd, 1) := by decide +kernel
theorem dL_law_834 : decode cL_law 834 = .ok (.iaload, 1) := by decide +kernel
theorem dL_law_835 : decode cL_law 835 = .ok (.invokevirtual 101, 3) := by decide +kernel
theorem dL_law_838 : decode cL_law 838 = .ok (.if_icmp .eq 262, 3) := by decide +kernel
theorem dL_law_841 : decode cL_law 841 = .ok (.iconst 0, 1) := by decide +kernel
theorem dL_law_842 : decode cL_law 842 = .ok (.ireturn, 1) := by decide +kernel
theorem dL_law_843 : decode cL_law 843 = .ok (.aload_n 1, 1) := by decide +kernel
theorem dL_law_844 : decode cL_law 844 = .ok (.aload_n 0, 1) := by decide +kernel
theorem dL_law_845 : decode cL_law 845 = .ok (.iload_n 3, 1) := by decide +kernel
theorem dL_law_846 : decode cL_law 846 = .ok (.iconst 1, 1) := by decide +kernel
theorem dL_law_847 : decode cL_law 847 = .ok (.iadd, 1) := by decide +kernel
theorem dL_law_848 : decode cL_law 848 = .ok (.iaload, 1) := by decide +kernel
theorem dL_law_849 : decode cL_law 849 = .ok (.aload_n 0, 1) := by decide +kernel
theorem dL_law_850 : decode cL_law 850 = .ok (.iload_n 3, 1) := by decide +kernel
theorem dL_law_851 : decode cL_law 851 = .ok (.iconst 2, 1) := by decide +kernel
theorem dL_law_852 : decode cL_law 852 = .ok (.iadd, 1) := by decide +kernel
theorem dL_law_853 : decode cL_law 853 = .ok (.iaload, 1) := by decide +kernel
theorem dL_law_854 : decode cL_law 854 = .ok (.aload_n 0, 1) := by decide +kernel
theorem dL_law_855 : decode cL_law 855 = .ok (.iload_n 3, 1) := by decide +kernel
theorem dL_law_856 : decode cL_law 856 = .ok (.iconst 3, 1) := by decide +kernel
theorem dL_law_857 : decode cL_law 857 = .ok (.iadd, 1) := by decide +kernel
theorem dL_law_858 : decode cL_law 858 = .ok (.iaload, 1) := by decide +kernel
theorem dL_law_859 : decode cL_law 859 = .ok (.invokevirtual 102, 3) := by decide +kernel
theorem dL_law_862 : decode cL_law 862 = .ok (.aload_n 2, 1) := by decide +kernel
theorem dL_law_863 : decode cL_law 863 = .ok (.aload_n 0, 1) := by decide +kernel
theorem dL_law_864 : decode cL_law 864 = .ok (.iload_n 3, 1) := by decide +kernel
theorem dL_law_865 : decode cL_law 865 = .ok (.iconst 1, 1) := by decide +kernel
theorem dL_law_866 : decode cL_law 866 = .ok (.iadd, 1) := by decide +kernel
theorem dL_law_867 : decode cL_law 867 = .ok (.iaload, 1) := by decide +kernel
theorem dL_law_868 : decode cL_law 868 = .ok (.aload_n 0, 1) := by decide +kernel
theorem dL_law_869 : decode cL_law 869 = .ok (.iload_n 3, 1) := by decide +kernel
theorem dL_law_870 : decode cL_law 870 = .ok (.iconst 2, 1) := by decide +kernel
theorem dL_law_871 : decode cL_law 871 = .ok (.iadd, 1) := by decide +kernel
theorem dL_law_872 : decode cL_law 872 = .ok (.iaload, 1) := by decide +kernel
theorem dL_law_873 : decode cL_law 873 = .ok (.aload_n 0, 1) := by decide +kernel
theorem dL_law_874 : decode cL_law 874 = .ok (.iload_n 3, 1) := by decide +kernel
theorem dL_law_875 : decode cL_law 875 = .ok (.iconst 3, 1) := by decide +kernel
theorem dL_law_876 : decode cL_law 876 = .ok (.iadd, 1) := by decide +kernel
theorem dL_law_877 : decode cL_law 877 = .ok (.iaload, 1) := by decide +kernel
theorem dL_law_878 : decode cL_law 878 = .ok (.invokevirtual 105, 3) := by decide +kernel
theorem dL_law_881 : decode cL_law 881 = .ok (.if_icmp .eq 219, 3) := by decide +kernel
theorem dL_law_884 : decode cL_law 884 = .ok (.iconst 0, 1) := by decide +kernel
theorem dL_law_885 : decode cL_law 885 = .ok (.ireturn, 1) := by decide +kernel
theorem dL_law_886 : decode cL_law 886 = .ok (.aload_n 1, 1) := by decide +kernel
theorem dL_law_887 : decode cL_law 887 = .ok (.invokevirtual 106, 3) := by decide +kernel
theorem dL_law_890 : decode cL_law 890 = .ok (.aload_n 2, 1) := by decide +kernel
theorem dL_law_891 : decode cL_law 891 = .ok (.invokevirtual 109, 3) := by decide +kernel
theorem dL_law_894 : decode cL_law 894 = .ok (.if_icmp .eq 206, 3) := by decide +kernel
theorem dL_law_897 : decode cL_law 897 = .ok (.iconst 0, 1) := by decide +kernel
theorem dL_law_898 : decode cL_law 898 = .ok (.ireturn, 1) := by decide +kernel
theorem dL_law_899 : decode cL_law 899 = .ok (.aload_n 1, 1) := by decide +kernel
theorem dL_law_900 : decode cL_law 900 = .ok (.aload_n 0, 1) := by decide +kernel
theorem dL_law_901 : decode cL_law 901 = .ok (.iload_n 3, 1) := by decide +kernel
theorem dL_law_902 : decode cL_law 902 = .ok (.iconst 1, 1) := by decide +kernel
theorem dL_law_903 : decode cL_law 903 = .ok (.iadd, 1) := by decide +kernel
theorem dL_law_904 : decode cL_law 904 = .ok (.iaload, 1) := by decide +kernel
theorem dL_law_905 : decode cL_law 905 = .ok (.invokevirtual 110, 3) := by decide +kernel
theorem dL_law_908 : decode cL_law 908 = .ok (.aload_n 2, 1) := by decide +kernel
theorem dL_law_909 : decode cL_law 909 = .ok (.aload_n 0, 1) := by decide +kernel
theorem dL_law_910 : decode cL_law 910 = .ok (.iload_n 3, 1) := by decide +kernel
theorem dL_law_911 : decode cL_law 911 = .ok (.iconst 1, 1) := by decide +kernel
theorem dL_law_912 : decode cL_law 912 = .ok (.iadd, 1) := by decide +kernel
theorem dL_law_913 : decode cL_law 913 = .ok (.iaload, 1) := by decide +kernel
theorem dL_law_914 : decode cL_law 914 = .ok (.invokevirtual 113, 3) := by decide +kernel
theorem dL_law_917 : decode cL_law 917 = .ok (.if_icmp .eq 183, 3) := by decide +kernel
theorem dL_law_920 : decode cL_law 920 = .ok (.iconst 0, 1) := by decide +kernel
theorem dL_law_921 : decode cL_law 921 = .ok (.ireturn, 1) := by decide +kernel
theorem dL_law_922 : decode cL_law 922 = .ok (.aload_n 1, 1) := by decide +kernel
theorem dL_law_923 : decode cL_law 923 = .ok (.aload_n 0, 1) := by decide +kernel
theorem dL_law_924 : decode cL_law 924 = .ok (.iload_n 3, 1) := by decide +kernel
theorem dL_law_925 : decode cL_law 925 = .ok (.iconst 1, 1) := by decide +kernel
theorem dL_law_926 : decode cL_law 926 = .ok (.iadd, 1) := by decide +kernel
theorem dL_law_927 : decode cL_law 927 = .ok (.iaload, 1) := by decide +kernel
theorem dL_law_928 : decode cL_law 928 = .ok (.invokevirtual 114, 3) := by decide +kernel
theorem dL_law_931 : decode cL_law 931 = .ok (.aload_n 2, 1) := by decide +kernel
theorem dL_law_932 : decode cL_law 932 = .ok (.aload_n 0, 1) := by decide +kernel
theorem dL_law_933 : decode cL_law 933 = .ok (.iload_n 3, 1) := by decide +kernel
theorem dL_law_934 : decode cL_law 934 = .ok (.iconst 1, 1) := by decide +kernel
theorem dL_law_935 : decode cL_law 935 = .ok (.iadd, 1) := by decide +kernel
theorem dL_law_936 : decode cL_law 936 = .ok (.iaload, 1) := by decide +kernel
theorem dL_law_937 : decode cL_law 937 = .ok (.invokevirtual 117, 3) := by decide +kernel
theorem dL_law_940 : decode cL_law 940 = .ok (.if_icmp .eq 160, 3) := by decide +kernel
theorem dL_law_943 : decode cL_law 943 = .ok (.iconst 0, 1) := by decide +kernel
theorem dL_law_944 : decode cL_law 944 = .ok (.ireturn, 1) := by decide +kernel
theorem dL_law_945 : decode cL_law 945 = .ok (.aload_n 1, 1) := by decide +kernel
theorem dL_law_946 : decode cL_law 946 = .ok (.invokevirtual 118, 3) := by decide +kernel
theorem dL_law_949 : decode cL_law 949 = .ok (.aload_n 2, 1) := by decide +kernel
theorem dL_law_950 : decode cL_law 950 = .ok (.invokevirtual 121, 3) := by decide +kernel
theorem dL_law_953 : decode cL_law 953 = .ok (.if_icmp .eq 147, 3) := by decide +kernel
theorem dL_law_956 : decode cL_law 956 = .ok (.iconst 0, 1) := by decide +kernel
theorem dL_law_957 : decode cL_law 957 = .ok (.ireturn, 1) := by decide +kernel
theorem dL_law_958 : decode cL_law 958 = .ok (.aload_n 1, 1) := by decide +kernel
theorem dL_law_959 : decode cL_law 959 = .ok (.aload_n 0, 1) := by decide +kernel
theorem dL_law_960 : decode cL_law 960 = .ok (.iload_n 3, 1) := by decide +kernel
theorem dL_law_961 : decode cL_law 961 = .ok (.iconst 1, 1) := by decide +kernel
theorem dL_law_962 : decode cL_law 962 = .ok (.iadd, 1) := by decide +kernel
theorem dL_law_963 : decode cL_law 963 = .ok (.iaload, 1) := by decide +kernel
theorem dL_law_964 : decode cL_law 964 = .ok (.invokevirtual 122, 3) := by decide +kernel
theorem dL_law_967 : decode cL_law 967 = .ok (.aload_n 2, 1) := by decide +kernel
theorem dL_law_968 : decode cL_law 968 = .ok (.aload_n 0, 1) := by decide +kernel
theorem dL_law_969 : decode cL_law 969 = .ok (.iload_n 3, 1) := by decide +kernel
theorem dL_law_970 : decode cL_law 970 = .ok (.iconst 1, 1) := by decide +kernel
theorem dL_law_971 : decode cL_law 971 = .ok (.iadd, 1) := by decide +kernel
theorem dL_law_972 : decode cL_law 972 = .ok (.iaload, 1) := by decide +kernel
theorem dL_law_973 : decode cL_law 973 = .ok (.invokevirtual 125, 3) := by decide +kernel
theorem dL_law_976 : decode cL_law 976 = .ok (.if_icmp .eq 124, 3) := by decide +kernel
theorem dL_law_979 : decode cL_law 979 = .ok (.iconst 0, 1) := by decide +kernel
theorem dL_law_980 : decode cL_law 980 = .ok (.ireturn, 1) := by decide +kernel
theorem dL_law_981 : decode cL_law 981 = .ok (.aload_n 1, 1) := by decide +kernel
theorem dL_law_982 : decode cL_law 982 = .ok (.invokevirtual 126, 3) := by decide +kernel
theorem dL_law_985 : decode cL_law 985 = .ok (.aload_n 2, 1) := by decide +kernel
theorem dL_law_986 : decode cL_law 986 = .ok (.invokevirtual 129, 3) := by decide +kernel
theorem dL_law_989 : decode cL_law 989 = .ok (.if_icmp .eq 111, 3) := by decide +kernel
theorem dL_law_992 : decode cL_law 992 = .ok (.iconst 0, 1) := by decide +kernel
theorem dL_law_993 : decode cL_law 993 = .ok (.ireturn, 1) := by decide +kernel
theorem dL_law_994 : decode cL_law 994 = .ok (.aload_n 1, 1) := by decide +kernel
theorem dL_law_995 : decode cL_law 995 = .ok (.aload_n 0, 1) := by decide +kernel
theorem dL_law_996 : decode cL_law 996 = .ok (.iload_n 3, 1) := by decide +kernel
theorem dL_law_997 : decode cL_law 997 = .ok (.iconst 1, 1) := by decide +kernel
theorem dL_law_998 : decode cL_law 998 = .ok (.iadd, 1) := by decide +kernel
theorem dL_law_999 : decode cL_law 999 = .ok (.iaload, 1) := by decide +kernel
theorem dL_law_1000 : decode cL_law 1000 = .ok (.aload_n 0, 1) := by decide +kernel
theorem dL_law_1001 : decode cL_law 1001 = .ok (.iload_n 3, 1) := by decide +kernel
theorem dL_law_1002 : decode cL_law 1002 = .ok (.iconst 2, 1) := by decide +kernel
theorem dL_law_1003 : decode cL_law 1003 = .ok (.iadd, 1) := by decide +kernel
theorem dL_law_1004 : decode cL_law 1004 = .ok (.iaload, 1) := by decide +kernel
theorem dL_law_1005 : decode cL_law 1005 = .ok (.aload_n 0, 1) := by decide +kernel
theorem dL_law_1006 : decode cL_law 1006 = .ok (.iload_n 3, 1) := by decide +kernel
theorem dL_law_1007 : decode cL_law 1007 = .ok (.iconst 3, 1) := by decide +kernel
theorem dL_law_1008 : decode cL_law 1008 = .ok (.iadd, 1) := by decide +kernel
theorem dL_law_1009 : decode cL_law 1009 = .ok (.iaload, 1) := by decide +kernel
theorem dL_law_1010 : decode cL_law 1010 = .ok (.invokevirtual 130, 3) := by decide +kernel
theorem dL_law_1013 : decode cL_law 1013 = .ok (.aload_n 2, 1) := by decide +kernel
theorem dL_law_1014 : decode cL_law 1014 = .ok (.aload_n 0, 1) := by decide +kernel
theorem dL_law_1015 : decode cL_law 1015 = .ok (.iload_n 3, 1) := by decide +kernel
theorem dL_law_1016 : decode cL_law 1016 = .ok (.iconst 1, 1) := by decide +kernel
theorem dL_law_1017 : decode cL_law 1017 = .ok (.iadd, 1) := by decide +kernel
theorem dL_law_1018 : decode cL_law 1018 = .ok (.iaload, 1) := by decide +kernel
theorem dL_law_1019 : decode cL_law 1019 = .ok (.aload_n 0, 1) := by decide +kernel
theorem dL_law_1020 : decode cL_law 1020 = .ok (.iload_n 3, 1) := by decide +kernel
theorem dL_law_1021 : decode cL_law 1021 = .ok (.iconst 2, 1) := by decide +kernel
theorem dL_law_1022 : decode cL_law 1022 = .ok (.iadd, 1) := by decide +kernel
theorem dL_law_1023 : decode cL_law 1023 = .ok (.iaload, 1) := by decide +kernel
theorem dL_law_1024 : decode cL_law 1024 = .ok (.aload_n 0, 1) := by decide +kernel
theorem dL_law_1025 : decode cL_law 1025 = .ok (.iload_n 3, 1) := by decide +kernel
theorem dL_law_1026 : decode cL_law 1026 = .ok (.iconst 3, 1) := by decide +kernel
theorem dL_law_1027 : decode cL_law 1027 = .ok (.iadd, 1) := by decide +kernel
theorem dL_law_1028 : decode cL_law 1028 = .ok (.iaload, 1) := by decide +kernel
theorem dL_law_1029 : decode cL_law 1029 = .ok (.invokevirtual 133, 3) := by decide +kernel
theorem dL_law_1032 : decode cL_law 1032 = .ok (.if_icmp .eq 68, 3) := by decide +kernel
theorem dL_law_1035 : decode cL_law 1035 = .ok (.iconst 0, 1) := by decide +kernel
theorem dL_law_1036 : decode cL_law 1036 = .ok (.ireturn, 1) := by decide +kernel
theorem dL_law_1037 : decode cL_law 1037 = .ok (.aload_n 1, 1) := by decide +kernel
theorem dL_law_1038 : decode cL_law 1038 = .ok (.invokevirtual 134, 3) := by decide +kernel
theorem dL_law_1041 : decode cL_law 1041 = .ok (.aload_n 2, 1) := by decide +kernel
theorem dL_law_1042 : decode cL_law 1042 = .ok (.invokevirtual 137, 3) := by decide +kernel
theorem dL_law_1045 : decode cL_law 1045 = .ok (.if_icmp .eq 55, 3) := by decide +kernel
theorem dL_law_1048 : decode cL_law 1048 = .ok (.iconst 0, 1) := by decide +kernel
theorem dL_law_1049 : decode cL_law 1049 = .ok (.ireturn, 1) := by decide +kernel
theorem dL_law_1050 : decode cL_law 1050 = .ok (.aload_n 1, 1) := by decide +kernel
theorem dL_law_1051 : decode cL_law 1051 = .ok (.invokevirtual 138, 3) := by decide +kernel
theorem dL_law_1054 : decode cL_law 1054 = .ok (.aload_n 2, 1) := by decide +kernel
theorem dL_law_1055 : decode cL_law 1055 = .ok (.invokevirtual 141, 3) := by decide +kernel
theorem dL_law_1058 : decode cL_law 1058 = .ok (.if_icmp .eq 42, 3) := by decide +kernel
theorem dL_law_1061 : decode cL_law 1061 = .ok (.iconst 0, 1) := by decide +kernel
theorem dL_law_1062 : decode cL_law 1062 = .ok (.ireturn, 1) := by decide +kernel
theorem dL_law_1063 : decode cL_law 1063 = .ok (.aload_n 1, 1) := by decide +kernel
theorem dL_law_1064 : decode cL_law 1064 = .ok (.aload_n 0, 1) := by decide +kernel
theorem dL_law_1065 : decode cL_law 1065 = .ok (.iload_n 3, 1) := by decide +kernel
theorem dL_law_1066 : decode cL_law 1066 = .ok (.iconst 1, 1) := by decide +kernel
theorem dL_law_1067 : decode cL_law 1067 = .ok (.iadd, 1) := by decide +kernel
theorem dL_law_1068 : decode cL_law 1068 = .ok (.iaload, 1) := by decide +kernel
theorem dL_law_1069 : decode cL_law 1069 = .ok (.invokevirtual 142, 3) := by decide +kernel
theorem dL_law_1072 : decode cL_law 1072 = .ok (.aload_n 2, 1) := by decide +kernel
theorem dL_law_1073 : decode cL_law 1073 = .ok (.aload_n 0, 1) := by decide +kernel
theorem dL_law_1074 : decode cL_law 1074 = .ok (.iload_n 3, 1) := by decide +kernel
theorem dL_law_1075 : decode cL_law 1075 = .ok (.iconst 1, 1) := by decide +kernel
theorem dL_law_1076 : decode cL_law 1076 = .ok (.iadd, 1) := by decide +kernel
theorem dL_law_1077 : decode cL_law 1077 = .ok (.iaload, 1) := by decide +kernel
theorem dL_law_1078 : decode cL_law 1078 = .ok (.invokevirtual 145, 3) := by decide +kernel
theorem dL_law_1081 : decode cL_law 1081 = .ok (.if_icmp .eq 19, 3) := by decide +kernel
theorem dL_law_1084 : decode cL_law 1084 = .ok (.iconst 0, 1) := by decide +kernel
theorem dL_law_1085 : decode cL_law 1085 = .ok (.ireturn, 1) := by decide +kernel
theorem dL_law_1086 : decode cL_law 1086 = .ok (.aload_n 1, 1) := by decide +kernel
theorem dL_law_1087 : decode cL_law 1087 = .ok (.invokevirtual 146, 3) := by decide +kernel
theorem dL_law_1090 : decode cL_law 1090 = .ok (.aload_n 2, 1) := by decide +kernel
theorem dL_law_1091 : decode cL_law 1091 = .ok (.invokevirtual 150, 3) := by decide +kernel
theorem dL_law_1094 : decode cL_law 1094 = .ok (.lcmp, 1) := by decide +kernel
theorem dL_law_1095 : decode cL_law 1095 = .ok (.ifCond .eq 5, 3) := by decide +kernel
theorem dL_law_1098 : decode cL_law 1098 = .ok (.iconst 0, 1) := by decide +kernel
theorem dL_law_1099 : decode cL_law 1099 = .ok (.ireturn, 1) := by decide +kernel
theorem dL_law_1100 : decode cL_law 1100 = .ok (.iinc 3 5, 3) := by decide +kernel
theorem dL_law_1103 : decode cL_law 1103 = .ok (.goto (-1085), 3) := by decide +kernel
theorem dL_law_1106 : decode cL_law 1106 = .ok (.iconst 1, 1) := by decide +kernel
theorem dL_law_1107 : decode cL_law 1107 = .ok (.ireturn, 1) := by decide +kernel
end
section
/-! A small logic over the kit's W: worlds are lists of cells whose references are places in the list ('ids'); Go: from a program counter, locals, stack and world the method comes to its end with Q; Ct: a method's contract. -/
abbrev q_Cel : Type := (Nat × vp_A) ⊕ (Nat × List Value)
abbrev q_Wd : Type := List q_Cel
abbrev q_Ls : Type := List (Option Value)
abbrev q_M : Type := Room × MethodName × ByteArray × Nat × Option FieldType
abbrev q_P : Type := Option Value → q_Wd → Prop
def q_v (ad : Nat → Nat) (v : Value) : Value := match v with
  | .ref i => .ref (ad i)
  | x => x
def q_A (ad : Nat → Nat) (a : vp_A) : vp_A := match a with
  | (n, .inr (.inr (.inr (.inr f)))) => (n, .inr (.inr (.inr (.inr (fun j => (f j).map ad)))))
  | x => x
def q_c (tc : Nat → ClassId) (ad : Nat → Nat) (c : q_Cel) : va_E := match c with
  | .inl a => .inl (tc a.1, q_A ad a.2)
  | .inr o => .inr (o.1, o.2.map (q_v ad))
def q_w (tc : Nat → ClassId) (ad : Nat → Nat) (w : q_Wd) : va_W := w.mapIdx (fun i c => (ad i, q_c tc ad c))
theorem q_w_get {tc : Nat → ClassId} {ad : Nat → Nat} {w : q_Wd} (k : Nat) : (q_w tc ad w)[k]? = (w[k]?).map (fun c => (ad k, q_c tc ad c)) := by
  simp [q_w, List.getElem?_mapIdx]
theorem q_w_at {tc : Nat → ClassId} {ad : Nat → Nat} {w : q_Wd} {k : Nat} {c : q_Cel} (h : w[k]? = some c) : (q_w tc ad w)[k]? = some (ad k, q_c tc ad c) := by
  rw [q_w_get, h]; rfl
theorem q_w_len {tc : Nat → ClassId} {ad : Nat → Nat} {w : q_Wd} : (q_w tc ad w).length = w.length := by simp [q_w]
theorem q_w_set {tc : Nat → ClassId} {ad : Nat → Nat} {w : q_Wd} {k : Nat} {c : q_Cel} : (q_w tc ad w).set k (ad k, q_c tc ad c) = q_w tc ad (w.set k c) := by
  apply List.ext_getElem?
  intro i
  rw [q_w_get, List.getElem?_set, List.getElem?_set, q_w_len]
  by_cases h : k = i
  · subst h
    by_cases h2 : k < w.length <;> simp [h2]
  · simp [h, q_w_get]
def q_ok (n : Nat) (v : Value) : Prop := ∀ i, v = .ref i → i < n
def q_okc (n : Nat) (c : q_Cel) : Prop := match c with
  | .inl a => ∀ f, a.2.2 = .inr (.inr (.inr (.inr f))) → ∀ j i, f j = some i → i < n
  | .inr o => ∀ v ∈ o.2, q_ok n v
def q_okw (w : q_Wd) : Prop := ∀ (k : Nat) (c : q_Cel), w[k]? = some c → q_okc w.length c
def q_okL (n : Nat) (L : q_Ls) : Prop := ∀ (i : Nat) (v : Value), L[i]? = some (some v) → q_ok n v
theorem q_ok_int {n : Nat} {x : Int32} : q_ok n (.int x) := fun i h => by cases h
theorem q_ok_long {n : Nat} {x : Int64} : q_ok n (.long x) := fun i h => by cases h
theorem q_ok_null {n : Nat} : q_ok n .null := fun i h => by cases h
theorem q_ok_ref {n i : Nat} (h : i < n) : q_ok n (.ref i) := fun j e => by cases e; exact h
theorem q_ok.mono {n k : Nat} {v : Value} (h : q_ok n v) (hk : n ≤ k) : q_ok k v := fun i e => Nat.lt_of_lt_of_le (h i e) hk
theorem q_okc.mono {n k : Nat} {c : q_Cel} (h : q_okc n c) (hk : n ≤ k) : q_okc k c := by
  cases c with
  | inl a => exact fun f e j i hf => Nat.lt_of_lt_of_le (h f e j i hf) hk
  | inr o => exact fun v hv => (h v hv).mono hk
theorem q_okL.mono {n k : Nat} {L : q_Ls} (h : q_okL n L) (hk : n ≤ k) : q_okL k L := fun i v e => (h i v e).mono hk
theorem q_v_same {ad ad' : Nat → Nat} {n : Nat} {v : Value} (h : ∀ i, i < n → ad' i = ad i) (hv : q_ok n v) : q_v ad' v = q_v ad v := by
  cases v with
  | ref i => exact congrArg Value.ref (h i (hv i rfl))
  | _ => rfl
theorem q_A_same {ad ad' : Nat → Nat} {n : Nat} {a : vp_A} (h : ∀ i, i < n → ad' i = ad i) (ha : ∀ f, a.2 = .inr (.inr (.inr (.inr f))) → ∀ j i, f j = some i → i < n) : q_A ad' a = q_A ad a := by
  obtain ⟨k, f | f | f | f | f⟩ := a
  · rfl
  · rfl
  · rfl
  · rfl
  · have e : (fun j => (f j).map ad') = fun j => (f j).map ad := by
      funext j
      cases hj : f j with
      | none => rfl
      | some i => exact congrArg some (h i (ha f rfl j i hj))
    show (k, Sum.inr (Sum.inr (Sum.inr (Sum.inr (fun j => (f j).map ad'))))) = (k, Sum.inr (Sum.inr (Sum.inr (Sum.inr (fun j => (f j).map ad)))))
    rw [e]
theorem q_c_same {tc : Nat → ClassId} {ad ad' : Nat → Nat} {n : Nat} {c : q_Cel} (h : ∀ i, i < n → ad' i = ad i) (hc : q_okc n c) : q_c tc ad' c = q_c tc ad c := by
  cases c with
  | inl a =>
    show Sum.inl (tc a.1, q_A ad' a.2) = Sum.inl (tc a.1, q_A ad a.2)
    rw [q_A_same h hc]
  | inr o =>
    show Sum.inr (o.1, o.2.map (q_v ad')) = Sum.inr (o.1, o.2.map (q_v ad))
    rw [List.map_congr_left (fun v hv => q_v_same h (hc v hv))]
theorem q_w_same {tc : Nat → ClassId} {ad ad' : Nat → Nat} {w : q_Wd} (h : ∀ i, i < w.length → ad' i = ad i) (hw : q_okw w) : q_w tc ad' w = q_w tc ad w := by
  apply List.ext_getElem?
  intro i
  rw [q_w_get, q_w_get]
  cases hi : w[i]? with
  | none => rfl
  | some c =>
    have hlt : i < w.length := (List.getElem?_eq_some_iff.mp hi).1
    show some (ad' i, q_c tc ad' c) = some (ad i, q_c tc ad c)
    rw [h i hlt, q_c_same h (hw i c hi)]
theorem q_w_push {tc : Nat → ClassId} {ad : Nat → Nat} {w : q_Wd} {c : q_Cel} : q_w tc ad (w ++ [c]) = q_w tc ad w ++ [(ad w.length, q_c tc ad c)] := by
  simp [q_w, List.mapIdx_append]
theorem q_okw_set {w : q_Wd} {k : Nat} {c : q_Cel} (h : q_okw w) (hc : q_okc w.length c) : q_okw (w.set k c) := by
  intro i d hd
  rw [List.length_set]
  rw [List.getElem?_set] at hd
  by_cases e : k = i
  · subst e
    by_cases h2 : k < w.length
    · simp [h2] at hd
      exact hd ▸ hc
    · simp [h2] at hd
  · simp [e] at hd
    exact h i d hd
theorem q_okw_push {w : q_Wd} {c : q_Cel} (h : q_okw w) (hc : q_okc (w.length + 1) c) : q_okw (w ++ [c]) := by
  intro i d hd
  rw [List.length_append, List.length_singleton]
  by_cases hl : i < w.length
  · rw [List.getElem?_append_left hl] at hd
    exact (h i d hd).mono (by omega)
  · rw [List.getElem?_append_right (by omega)] at hd
    have hz : i - w.length < 1 := (List.getElem?_eq_some_iff.mp hd).1
    rw [show i - w.length = 0 by omega] at hd
    cases hd
    exact hc
/-! locals -/
def q_L (ad : Nat → Nat) (ls : Array Slot) (nL : Nat) (L : q_Ls) : Prop := ls.size = nL ∧ lv_wf ls ∧ ∀ (i : Nat) (v : Value), L[i]? = some (some v) → ls[i]? = some (.val (q_v ad v))
def q_clr : q_Ls → q_Ls
  | [] => []
  | _ :: t => none :: t
def q_cut (o : Option Value) : Option Value := match o with
  | none => none
  | some v => if v.category = 2 then none else some v
def q_sto : q_Ls → Nat → Value → q_Ls
  | [], _, _ => []
  | _ :: t, 0, v => some v :: (if v.category = 2 then q_clr t else t)
  | o :: t, i + 1, v => (if i = 0 then q_cut o else o) :: q_sto t i v
theorem q_sto_spec : ∀ (L : q_Ls) (i : Nat) (v : Value) (j : Nat) (u : Value), (q_sto L i v)[j]? = some (some u) → (j = i ∧ u = v) ∨ (j ≠ i ∧ L[j]? = some (some u) ∧ ¬ (j + 1 = i ∧ u.category = 2) ∧ ¬ (j = i + 1 ∧ v.category = 2))
  | [], i, v, j, u, h => by simp [q_sto] at h
  | o :: t, 0, v, 0, u, h => by
    simp [q_sto] at h
    exact Or.inl ⟨rfl, h.symm⟩
  | o :: t, 0, v, j + 1, u, h => by
    simp only [q_sto, List.getElem?_cons_succ] at h
    refine Or.inr ⟨by omega, ?_, by omega, ?_⟩
    · by_cases hc : v.category = 2
      · rw [if_pos hc] at h
        cases t with
        | nil => simp [q_clr] at h
        | cons a t =>
          cases j with
          | zero => simp [q_clr] at h
          | succ j => simpa [q_clr] using h
      · rw [if_neg hc] at h
        simpa using h
    · rintro ⟨hj, hc⟩
      rw [if_pos hc] at h
      have : j = 0 := by omega
      subst this
      cases t with
      | nil => simp [q_clr] at h
      | cons a t => simp [q_clr] at h
  | o :: t, i + 1, v, 0, u, h => by
    simp only [q_sto, List.getElem?_cons_zero, Option.some.injEq] at h
    by_cases hi : i = 0
    · rw [if_pos hi] at h
      cases o with
      | none => simp [q_cut] at h
      | some z =>
        by_cases hz : z.category = 2
        · simp [q_cut, hz] at h
        · simp [q_cut, hz] at h
          subst h
          exact Or.inr ⟨by omega, rfl, fun q => hz q.2, by omega⟩
    · rw [if_neg hi] at h
      exact Or.inr ⟨by omega, by rw [h]; rfl, by omega, by omega⟩
  | o :: t, i + 1, v, j + 1, u, h => by
    simp only [q_sto, List.getElem?_cons_succ] at h
    rcases q_sto_spec t i v j u h with ⟨h1, h2⟩ | ⟨h1, h2, h3, h4⟩
    · exact Or.inl ⟨by omega, h2⟩
    · exact Or.inr ⟨by omega, by simpa using h2, fun q => h3 ⟨by omega, q.2⟩, fun q => h4 ⟨by omega, q.2⟩⟩
def q_al (ad : Nat → Nat) (L : q_Ls) : List (Nat × Value) := (List.range L.length).filterMap (fun i => match L[i]? with
  | some (some v) => some (i, q_v ad v)
  | _ => none)
theorem q_al_mem {ad : Nat → Nat} {L : q_Ls} {i : Nat} {v : Value} (h : L[i]? = some (some v)) : (i, q_v ad v) ∈ q_al ad L :=
  List.mem_filterMap.mpr ⟨i, List.mem_range.mpr (List.getElem?_eq_some_iff.mp h).1, by rw [h]⟩
theorem q_al_of {ad : Nat → Nat} {L : q_Ls} {q : Nat × Value} (h : q ∈ q_al ad L) : ∃ v, L[q.1]? = some (some v) ∧ q.2 = q_v ad v := by
  obtain ⟨i, -, hi⟩ := List.mem_filterMap.mp h
  split at hi
  · rename_i v hv
    cases hi
    exact ⟨v, hv, rfl⟩
  · cases hi
theorem q_L.has {ad : Nat → Nat} {ls : Array Slot} {nL : Nat} {L : q_Ls} (h : q_L ad ls nL L) : lv_has ls nL (q_al ad L) :=
  ⟨h.1, h.2.1, fun q hq => by
    obtain ⟨v, h1, h2⟩ := q_al_of hq
    rw [h2]
    exact h.2.2 q.1 v h1⟩
theorem q_cat {ad : Nat → Nat} {v : Value} : (q_v ad v).category = v.category := by cases v <;> rfl
theorem q_cats {ad : Nat → Nat} {st : List Value} : ((st.map (q_v ad)).map fun v => v.category).sum = (st.map fun v => v.category).sum := by
  rw [List.map_map]
  congr 1
  exact List.map_congr_left (fun v _ => q_cat)
theorem q_L.sto1 {ad : Nat → Nat} {ls' : Array Slot} {nL i : Nat} {L : q_Ls} {v : Value} (h : lv_has ls' nL ((i, q_v ad v) :: (q_al ad L).filter (fun q => !(q.1 == i) && !(q.1 + 1 == i && q.2.category == 2)))) : q_L ad ls' nL (q_sto L i v) := by
  refine ⟨h.1, h.2.1, fun j u hj => ?_⟩
  rcases q_sto_spec L i v j u hj with ⟨rfl, rfl⟩ | ⟨h1, h2, h3, -⟩
  · exact h.2.2 _ List.mem_cons_self
  · refine h.2.2 (j, q_v ad u) (List.mem_cons_of_mem _ (List.mem_filter.mpr ⟨q_al_mem h2, ?_⟩))
    simp only [q_cat]
    simp [h1]
    exact Classical.not_and_iff_not_or_not.mp h3
theorem q_L.sto2 {ad : Nat → Nat} {ls' : Array Slot} {nL i : Nat} {L : q_Ls} {v : Value} (hv : v.category = 2) (h : lv_has ls' nL ((i, q_v ad v) :: (q_al ad L).filter (fun q => !(q.1 == i) && (!(q.1 == i + 1) && !(q.1 + 1 == i && q.2.category == 2))))) : q_L ad ls' nL (q_sto L i v) := by
  refine ⟨h.1, h.2.1, fun j u hj => ?_⟩
  rcases q_sto_spec L i v j u hj with ⟨rfl, rfl⟩ | ⟨h1, h2, h3, h4⟩
  · exact h.2.2 _ List.mem_cons_self
  · refine h.2.2 (j, q_v ad u) (List.mem_cons_of_mem _ (List.mem_filter.mpr ⟨q_al_mem h2, ?_⟩))
    simp only [q_cat]
    simp [h1]
    exact ⟨fun q => h4 ⟨q, hv⟩, Classical.not_and_iff_not_or_not.mp h3⟩
theorem q_okL_sto {n i : Nat} {L : q_Ls} {v : Value} (h : q_okL n L) (hv : q_ok n v) : q_okL n (q_sto L i v) := by
  intro j u hj
  rcases q_sto_spec L i v j u hj with ⟨-, rfl⟩ | ⟨-, h2, -, -⟩
  · exact hv
  · exact h j u h2
/-- fewer locals -/
def q_less : q_Ls → q_Ls → Bool
  | _, [] => true
  | [], none :: t => q_less [] t
  | [], some _ :: _ => false
  | _ :: t, none :: u => q_less t u
  | a :: t, some v :: u => (match a with | some x => decide (x = v) | none => false) && q_less t u
/-! the world's own facts -/
def q_tys (tc : Nat → ClassId) : List (ClassId × FieldType) := [(tc 0, .int), (tc 1, .byte), (tc 2, .boolean), (tc 3, .object "AheadRows$Cycle")]
def q_K (D : va_G) (tc : Nat → ClassId) (U : State) : Prop := va_K D vwCl (q_tys tc) U
def q_rounds (j : Nat) : Int32 := ([6, 24, 12, 120, 24, 336, 24, 72, 120] : List Int32).getD j 0
def q_S (A : Nat → Prop) (U : State) : Prop := ∃ t : Nat, va_Z "AheadRows$Cycle" "ROUNDS" "[I" (.ref t) A U U.heap ∧ va_T .int t 9 (fun j => .int (q_rounds j)) A U U.heap
def q_tb : List Cond := lw_tbl.filter goodWord
theorem q_in {w : Cond} (k : Nat) (h : lw_tbl[k]? = some w) (hg : goodWord w = true) : w ∈ q_tb := List.mem_filter.mpr ⟨List.mem_of_getElem? h, hg⟩
def q_nst : List Cond := [.methodLinkNest RX10 9 yX3_init RX10, .methodLinkNest RX10 30 yX5_init RX10, .methodLinkNest RX5 11 yX3_init RX10, .methodLinkNest RX10 37 yX2_init RX10, .methodLinkNest RX10 44 yX9_init RX10, .methodLinkNest RX1 9 yX10_isModulus RX10, .methodLinkNest RX10 58 yX0_init RX10, .methodLinkNest RX5 59 yX10_numbersOf RX10, .methodLinkNest RX5 79 yX10_isWithin RX10, .methodLinkNest RX0 54 yX10_isPrime RX10]
def q_N (U : State) : Prop := (∀ w ∈ q_nst, va_Nw w U) ∧ va_AO "AheadRows$Cycle" U
def q_X (M : q_M) (p : Program) (s : State) (m : MethodId) (args : Array Value) (meth : Method) (c : Code) (A : Nat → Prop) : Prop :=
  p.tables.exec = Jvm.exec ∧ c.code = M.2.2.1 ∧ c.maxLocals = M.2.2.2.1 ∧ s.vm.findClass M.2.1.cls = some m.cls ∧ (∀ w ∈ q_tb, w.before args s = true) ∧ meth.sig.returnType = M.2.2.2.2 ∧ meth.locks = false ∧ meth.name = M.2.1.name ∧ (∀ q, s.heap.size ≤ q → A q) ∧ q_S A s ∧ q_N s
def q_I (M : q_M) (n0 : Nat) (L : q_Ls) (st : List Value) (w : q_Wd) (p : Program) (s : State) (m : MethodId) (args : Array Value) (meth : Method) (c : Code) (D : va_G) (tc : Nat → ClassId) (ad0 ad : Nat → Nat) (A : Nat → Prop) (H : Heap) (locs : List Loc) (ls : Array Slot) : Prop :=
  q_X M p s m args meth c A ∧ q_K D tc s ∧ (∀ i, i < n0 → ad i = ad0 i) ∧ n0 ≤ w.length ∧ q_okw w ∧ q_okL w.length L ∧ (∀ v ∈ st, q_ok w.length v) ∧ va_P D vwCl (q_w tc ad w) H ∧ va_D A (q_w tc ad w) ∧ va_S A s.heap H locs ∧ q_L ad ls M.2.2.2.1 L
def q_Q (D : va_G) (tc : Nat → ClassId) (ad0 : Nat → Nat) (n0 : Nat) (A : Nat → Prop) (Q : q_P) : Array Value → State → Outcome → State → Prop := fun _ st oc t =>
  (∃ (ad : Nat → Nat) (r : Option Value) (w : q_Wd), Q r w ∧ oc = .returned (r.map (q_v ad)) ∧ (∀ i, i < n0 → ad i = ad0 i) ∧ n0 ≤ w.length ∧ q_okw w ∧ (∀ v, r = some v → q_ok w.length v) ∧ va_P D vwCl (q_w tc ad w) t.heap ∧ q_K D tc t ∧ va_D A (q_w tc ad w)) ∧ va_F A st t
def Go (l : Launch) (M : q_M) (n0 : Nat) (Q : q_P) (k : Nat × Nat) (pc : Nat) (L : q_Ls) (st : List Value) (w : q_Wd) : Prop :=
  ∀ (p : Program) (e : Env) (s : State) (m : MethodId) (args : Array Value) (below : List Frame) (meth : Method) (c : Code) (D : va_G) (tc : Nat → ClassId) (ad0 ad : Nat → Nat) (A : Nat → Prop) (H : Heap) (locs : List Loc) (ls : Array Slot),
    q_I M n0 L st w p s m args meth c D tc ad0 ad A H locs ls → W p l e M.1 s m args below meth c H locs k.1 k.2 (MQ below (q_Q D tc ad0 n0 A Q) args s M.1.cells M.1.slots A) (F0 m pc ls (st.map (q_v ad)))
section G1
variable {l : Launch} {M : q_M} {n0 : Nat} {Q : q_P} {k : Nat × Nat} {pc : Nat} {L : q_Ls} {st : List Value} {w : q_Wd}
/-- an instruction that moves the stack alone -/
theorem Go.go1 {pc' : Nat} {st st' : List Value} (hok : ∀ n, (∀ v ∈ st, q_ok n v) → ∀ v ∈ st', q_ok n v)
    (hr : ∀ {p : Program} {e : Env} {s : State} {m : MethodId} {args : Array Value} {below : List Frame} {meth : Method} {c : Code} {H : Heap} {locs : List Loc} {cells slots : Nat} {Q : State → Prop} {ls : Array Slot} (ad : Nat → Nat), p.tables.exec = Jvm.exec → c.code = M.2.2.1 → W p l e M.1 s m args below meth c H locs cells slots Q (F0 m pc' ls (st'.map (q_v ad))) → W p l e M.1 s m args below meth c H locs cells slots Q (F0 m pc ls (st.map (q_v ad))))
    (kk : Go l M n0 Q k pc' L st' w) : Go l M n0 Q k pc L st w := by
  intro p e s m args below meth c D tc ad0 ad A H locs ls hI
  obtain ⟨hX, hK, had, hn0, how, hoL, hos, hP, hD, hS, hl⟩ := hI
  exact hr ad hX.1 hX.2.1 (kk p e s m args below meth c D tc ad0 ad A H locs ls ⟨hX, hK, had, hn0, how, hoL, hok _ hos, hP, hD, hS, hl⟩)
theorem q_okp {n : Nat} {v : Value} {st st' : List Value} (hv : q_ok n v) (h : ∀ u ∈ st', u ∈ st) (hs : ∀ u ∈ st, q_ok n u) : ∀ u ∈ v :: st', q_ok n u := by
  intro u hu
  rcases List.mem_cons.mp hu with rfl | hu
  · exact hv
  · exact hs u (h u hu)
theorem q_ok1 {a : Value} : ∀ u ∈ st, u ∈ a :: st := fun _ h => List.mem_cons_of_mem _ h
theorem q_ok2 {a b : Value} : ∀ u ∈ st, u ∈ a :: b :: st := fun _ h => List.mem_cons_of_mem _ (List.mem_cons_of_mem _ h)
theorem g_iconst {n : Int} (hd : decode M.2.2.1 pc = .ok (.iconst n, 1)) (kk : Go l M n0 Q k (pc + 1) L (.int (Int32.ofInt n) :: st) w) : Go l M n0 Q k pc L st w :=
  Go.go1 (fun _ h => q_okp q_ok_int (fun _ h => h) h) (fun _ hx hb z => lv_iconst hx hb hd rfl z) kk
theorem g_bipush {n : Int} (hd : decode M.2.2.1 pc = .ok (.bipush n, 2)) (kk : Go l M n0 Q k (pc + 2) L (.int (Int8.ofInt n).toInt32 :: st) w) : Go l M n0 Q k pc L st w :=
  Go.go1 (fun _ h => q_okp q_ok_int (fun _ h => h) h) (fun _ hx hb z => lv_bipush hx hb hd rfl z) kk
theorem g_sipush {n : Int} (hd : decode M.2.2.1 pc = .ok (.sipush n, 3)) (kk : Go l M n0 Q k (pc + 3) L (.int (Int16.ofInt n).toInt32 :: st) w) : Go l M n0 Q k pc L st w :=
  Go.go1 (fun _ h => q_okp q_ok_int (fun _ h => h) h) (fun _ hx hb z => lv_sipush hx hb hd rfl z) kk
theorem g_lconst {n : Fin 2} (hd : decode M.2.2.1 pc = .ok (.lconst n, 1)) (kk : Go l M n0 Q k (pc + 1) L (.long (Int64.ofNat (n : Nat)) :: st) w) : Go l M n0 Q k pc L st w :=
  Go.go1 (fun _ h => q_okp q_ok_long (fun _ h => h) h) (fun _ hx hb z => lv_lconst hx hb hd rfl z) kk
theorem g_iadd {x y : Int32} (hd : decode M.2.2.1 pc = .ok (.iadd, 1)) (kk : Go l M n0 Q k (pc + 1) L (.int (x + y) :: st) w) : Go l M n0 Q k pc L (.int y :: .int x :: st) w :=
  Go.go1 (fun _ h => q_okp q_ok_int q_ok2 h) (fun _ hx hb z => lv_iadd hx hb hd z) kk
theorem g_isub {x y : Int32} (hd : decode M.2.2.1 pc = .ok (.isub, 1)) (kk : Go l M n0 Q k (pc + 1) L (.int (x - y) :: st) w) : Go l M n0 Q k pc L (.int y :: .int x :: st) w :=
  Go.go1 (fun _ h => q_okp q_ok_int q_ok2 h) (fun _ hx hb z => lv_isub hx hb hd z) kk
theorem g_imul {x y : Int32} (hd : decode M.2.2.1 pc = .ok (.imul, 1)) (kk : Go l M n0 Q k (pc + 1) L (.int (x * y) :: st) w) : Go l M n0 Q k pc L (.int y :: .int x :: st) w :=
  Go.go1 (fun _ h => q_okp q_ok_int q_ok2 h) (fun _ hx hb z => lv_imul hx hb hd z) kk
theorem g_iand {x y : Int32} (hd : decode M.2.2.1 pc = .ok (.iand, 1)) (kk : Go l M n0 Q k (pc + 1) L (.int (x &&& y) :: st) w) : Go l M n0 Q k pc L (.int y :: .int x :: st) w :=
  Go.go1 (fun _ h => q_okp q_ok_int q_ok2 h) (fun _ hx hb z => lv_iand hx hb hd z) kk
theorem g_ior {x y : Int32} (hd : decode M.2.2.1 pc = .ok (.ior, 1)) (kk : Go l M n0 Q k (pc + 1) L (.int (x ||| y) :: st) w) : Go l M n0 Q k pc L (.int y :: .int x :: st) w :=
  Go.go1 (fun _ h => q_okp q_ok_int q_ok2 h) (fun _ hx hb z => lv_ior hx hb hd z) kk
theorem g_ixor {x y : Int32} (hd : decode M.2.2.1 pc = .ok (.ixor, 1)) (kk : Go l M n0 Q k (pc + 1) L (.int (x ^^^ y) :: st) w) : Go l M n0 Q k pc L (.int y :: .int x :: st) w :=
  Go.go1 (fun _ h => q_okp q_ok_int q_ok2 h) (fun _ hx hb z => lv_ixor hx hb hd z) kk
theorem g_ishl {x y : Int32} (hd : decode M.2.2.1 pc = .ok (.ishl, 1)) (kk : Go l M n0 Q k (pc + 1) L (.int (x <<< (y &&& 31)) :: st) w) : Go l M n0 Q k pc L (.int y :: .int x :: st) w :=
  Go.go1 (fun _ h => q_okp q_ok_int q_ok2 h) (fun _ hx hb z => lv_ishl hx hb hd z) kk
theorem g_idiv {x y : Int32} (hd : decode M.2.2.1 pc = .ok (.idiv, 1)) (hy : ¬ y = 0) (kk : Go l M n0 Q k (pc + 1) L (.int (x / y) :: st) w) : Go l M n0 Q k pc L (.int y :: .int x :: st) w :=
  Go.go1 (fun _ h => q_okp q_ok_int q_ok2 h) (fun _ hx hb z => lv_idiv hx hb hd hy z) kk
theorem g_irem {x y : Int32} (hd : decode M.2.2.1 pc = .ok (.irem, 1)) (hy : ¬ y = 0) (kk : Go l M n0 Q k (pc + 1) L (.int (x - x / y * y) :: st) w) : Go l M n0 Q k pc L (.int y :: .int x :: st) w :=
  Go.go1 (fun _ h => q_okp q_ok_int q_ok2 h) (fun _ hx hb z => lv_irem hx hb hd hy z) kk
theorem g_ineg {x : Int32} (hd : decode M.2.2.1 pc = .ok (.ineg, 1)) (kk : Go l M n0 Q k (pc + 1) L (.int (-x) :: st) w) : Go l M n0 Q k pc L (.int x :: st) w :=
  Go.go1 (fun _ h => q_okp q_ok_int q_ok1 h) (fun _ hx hb z => lv_ineg hx hb hd z) kk
theorem g_ladd {x y : Int64} (hd : decode M.2.2.1 pc = .ok (.ladd, 1)) (kk : Go l M n0 Q k (pc + 1) L (.long (x + y) :: st) w) : Go l M n0 Q k pc L (.long y :: .long x :: st) w :=
  Go.go1 (fun _ h => q_okp q_ok_long q_ok2 h) (fun _ hx hb z => lv_ladd hx hb hd z) kk
theorem g_lsub {x y : Int64} (hd : decode M.2.2.1 pc = .ok (.lsub, 1)) (kk : Go l M n0 Q k (pc + 1) L (.long (x - y) :: st) w) : Go l M n0 Q k pc L (.long y :: .long x :: st) w :=
  Go.go1 (fun _ h => q_okp q_ok_long q_ok2 h) (fun _ hx hb z => lv_lsub hx hb hd z) kk
theorem g_lmul {x y : Int64} (hd : decode M.2.2.1 pc = .ok (.lmul, 1)) (kk : Go l M n0 Q k (pc + 1) L (.long (x * y) :: st) w) : Go l M n0 Q k pc L (.long y :: .long x :: st) w :=
  Go.go1 (fun _ h => q_okp q_ok_long q_ok2 h) (fun _ hx hb z => lv_lmul hx hb hd z) kk
theorem g_land {x y : Int64} (hd : decode M.2.2.1 pc = .ok (.land, 1)) (kk : Go l M n0 Q k (pc + 1) L (.long (x &&& y) :: st) w) : Go l M n0 Q k pc L (.long y :: .long x :: st) w :=
  Go.go1 (fun _ h => q_okp q_ok_long q_ok2 h) (fun _ hx hb z => lv_land hx hb hd z) kk
theorem g_ldiv {x y : Int64} (hd : decode M.2.2.1 pc = .ok (.ldiv, 1)) (hy : ¬ y = 0) (kk : Go l M n0 Q k (pc + 1) L (.long (x / y) :: st) w) : Go l M n0 Q k pc L (.long y :: .long x :: st) w :=
  Go.go1 (fun _ h => q_okp q_ok_long q_ok2 h) (fun _ hx hb z => lv_ldiv hx hb hd hy z) kk
theorem g_lrem {x y : Int64} (hd : decode M.2.2.1 pc = .ok (.lrem, 1)) (hy : ¬ y = 0) (kk : Go l M n0 Q k (pc + 1) L (.long (x - x / y * y) :: st) w) : Go l M n0 Q k pc L (.long y :: .long x :: st) w :=
  Go.go1 (fun _ h => q_okp q_ok_long q_ok2 h) (fun _ hx hb z => lv_lrem hx hb hd hy z) kk
theorem g_lcmp {x y : Int64} (hd : decode M.2.2.1 pc = .ok (.lcmp, 1)) (kk : Go l M n0 Q k (pc + 1) L (.int (lg_cmp x y) :: st) w) : Go l M n0 Q k pc L (.long y :: .long x :: st) w :=
  Go.go1 (fun _ h => q_okp q_ok_int q_ok2 h) (fun _ hx hb z => W.lcmp hx hb hd z) kk
theorem g_i2l {x : Int32} (hd : decode M.2.2.1 pc = .ok (.i2l, 1)) (kk : Go l M n0 Q k (pc + 1) L (.long x.toInt64 :: st) w) : Go l M n0 Q k pc L (.int x :: st) w :=
  Go.go1 (fun _ h => q_okp q_ok_long q_ok1 h) (fun _ hx hb z => lv_i2l hx hb hd rfl z) kk
theorem g_l2i {x : Int64} (hd : decode M.2.2.1 pc = .ok (.l2i, 1)) (kk : Go l M n0 Q k (pc + 1) L (.int x.toInt32 :: st) w) : Go l M n0 Q k pc L (.long x :: st) w :=
  Go.go1 (fun _ h => q_okp q_ok_int q_ok1 h) (fun _ hx hb z => lv_l2i hx hb hd rfl z) kk
theorem g_i2b {x : Int32} (hd : decode M.2.2.1 pc = .ok (.i2b, 1)) (kk : Go l M n0 Q k (pc + 1) L (.int x.toInt8.toInt32 :: st) w) : Go l M n0 Q k pc L (.int x :: st) w :=
  Go.go1 (fun _ h => q_okp q_ok_int q_ok1 h) (fun _ hx hb z => lv_i2b hx hb hd rfl z) kk
theorem g_dup {v : Value} (hd : decode M.2.2.1 pc = .ok (.dup, 1)) (hv : v.category = 1) (kk : Go l M n0 Q k (pc + 1) L (v :: v :: st) w) : Go l M n0 Q k pc L (v :: st) w :=
  Go.go1 (fun _ h => q_okp (h _ List.mem_cons_self) (fun _ z => z) h) (fun _ hx hb z => lv_dup hx hb hd (q_cat.trans hv) z) kk
theorem g_dup2 {v u : Value} (hd : decode M.2.2.1 pc = .ok (.dup2, 1)) (hv : v.category = 1) (hu : u.category = 1) (kk : Go l M n0 Q k (pc + 1) L (v :: u :: v :: u :: st) w) : Go l M n0 Q k pc L (v :: u :: st) w :=
  Go.go1 (fun _ h => by
    intro z hz
    rcases List.mem_cons.mp hz with rfl | hz
    · exact h _ List.mem_cons_self
    rcases List.mem_cons.mp hz with rfl | hz
    · exact h _ (List.mem_cons_of_mem _ List.mem_cons_self)
    exact h z hz) (fun _ hx hb z => lv_dup2_11 hx hb hd (q_cat.trans hv) (q_cat.trans hu) z) kk
theorem g_pop {v : Value} (hd : decode M.2.2.1 pc = .ok (.pop, 1)) (hv : v.category = 1) (kk : Go l M n0 Q k (pc + 1) L st w) : Go l M n0 Q k pc L (v :: st) w :=
  Go.go1 (fun _ h u hu => h u (List.mem_cons_of_mem _ hu)) (fun _ hx hb z => lv_pop hx hb hd (q_cat.trans hv) z) kk
theorem g_goto {off : Int} {tgt : Nat} (hd : decode M.2.2.1 pc = .ok (.goto off, 3)) (ht : (pc : Int) + off = (tgt : Int)) (kk : Go l M n0 Q k tgt L st w) : Go l M n0 Q k pc L st w :=
  Go.go1 (fun _ h => h) (fun _ hx hb z => lv_goto hx hb hd ht z) kk
end G1
end
section
section G2
variable {l : Launch} {M : q_M} {n0 : Nat} {Q : q_P} {k : Nat × Nat} {pc : Nat} {L : q_Ls} {st : List Value} {w : q_Wd}
theorem g_if_eq {x : Int32} {off : Int} {tgt : Nat} (hd : decode M.2.2.1 pc = .ok (.ifCond .eq off, 3)) (ht : (pc : Int) + off = (tgt : Int)) (kt : x = 0 → Go l M n0 Q k tgt L st w) (kf : ¬ (x = 0) → Go l M n0 Q k (pc + 3) L st w) : Go l M n0 Q k pc L (.int x :: st) w := by
  intro p e s m args below meth c D tc ad0 ad A H locs ls hI
  obtain ⟨hX, hK, had, hn0, how, hoL, hos, hP, hD, hS, hl⟩ := hI
  exact lv_if_eq hX.1 hX.2.1 hd ht (fun z => kt z p e s m args below meth c D tc ad0 ad A H locs ls ⟨hX, hK, had, hn0, how, hoL, fun v hv => hos v (List.mem_cons_of_mem _ hv), hP, hD, hS, hl⟩) (fun z => kf z p e s m args below meth c D tc ad0 ad A H locs ls ⟨hX, hK, had, hn0, how, hoL, fun v hv => hos v (List.mem_cons_of_mem _ hv), hP, hD, hS, hl⟩)
theorem g_icmp_eq {x y : Int32} {off : Int} {tgt : Nat} (hd : decode M.2.2.1 pc = .ok (.if_icmp .eq off, 3)) (ht : (pc : Int) + off = (tgt : Int)) (kt : x = y → Go l M n0 Q k tgt L st w) (kf : ¬ (x = y) → Go l M n0 Q k (pc + 3) L st w) : Go l M n0 Q k pc L (.int y :: .int x :: st) w := by
  intro p e s m args below meth c D tc ad0 ad A H locs ls hI
  obtain ⟨hX, hK, had, hn0, how, hoL, hos, hP, hD, hS, hl⟩ := hI
  exact lv_icmp_eq hX.1 hX.2.1 hd ht (fun z => kt z p e s m args below meth c D tc ad0 ad A H locs ls ⟨hX, hK, had, hn0, how, hoL, fun v hv => hos v (List.mem_cons_of_mem _ (List.mem_cons_of_mem _ hv)), hP, hD, hS, hl⟩) (fun z => kf z p e s m args below meth c D tc ad0 ad A H locs ls ⟨hX, hK, had, hn0, how, hoL, fun v hv => hos v (List.mem_cons_of_mem _ (List.mem_cons_of_mem _ hv)), hP, hD, hS, hl⟩)
theorem g_if_ne {x : Int32} {off : Int} {tgt : Nat} (hd : decode M.2.2.1 pc = .ok (.ifCond .ne off, 3)) (ht : (pc : Int) + off = (tgt : Int)) (kt : ¬ x = 0 → Go l M n0 Q k tgt L st w) (kf : x = 0 → Go l M n0 Q k (pc + 3) L st w) : Go l M n0 Q k pc L (.int x :: st) w := by
  intro p e s m args below meth c D tc ad0 ad A H locs ls hI
  obtain ⟨hX, hK, had, hn0, how, hoL, hos, hP, hD, hS, hl⟩ := hI
  exact lv_if_ne hX.1 hX.2.1 hd ht (fun z => kt z p e s m args below meth c D tc ad0 ad A H locs ls ⟨hX, hK, had, hn0, how, hoL, fun v hv => hos v (List.mem_cons_of_mem _ hv), hP, hD, hS, hl⟩) (fun z => kf z p e s m args below meth c D tc ad0 ad A H locs ls ⟨hX, hK, had, hn0, how, hoL, fun v hv => hos v (List.mem_cons_of_mem _ hv), hP, hD, hS, hl⟩)
theorem g_icmp_ne {x y : Int32} {off : Int} {tgt : Nat} (hd : decode M.2.2.1 pc = .ok (.if_icmp .ne off, 3)) (ht : (pc : Int) + off = (tgt : Int)) (kt : ¬ x = y → Go l M n0 Q k tgt L st w) (kf : x = y → Go l M n0 Q k (pc + 3) L st w) : Go l M n0 Q k pc L (.int y :: .int x :: st) w := by
  intro p e s m args below meth c D tc ad0 ad A H locs ls hI
  obtain ⟨hX, hK, had, hn0, how, hoL, hos, hP, hD, hS, hl⟩ := hI
  exact lv_icmp_ne hX.1 hX.2.1 hd ht (fun z => kt z p e s m args below meth c D tc ad0 ad A H locs ls ⟨hX, hK, had, hn0, how, hoL, fun v hv => hos v (List.mem_cons_of_mem _ (List.mem_cons_of_mem _ hv)), hP, hD, hS, hl⟩) (fun z => kf z p e s m args below meth c D tc ad0 ad A H locs ls ⟨hX, hK, had, hn0, how, hoL, fun v hv => hos v (List.mem_cons_of_mem _ (List.mem_cons_of_mem _ hv)), hP, hD, hS, hl⟩)
theorem g_if_lt {x : Int32} {off : Int} {tgt : Nat} (hd : decode M.2.2.1 pc = .ok (.ifCond .lt off, 3)) (ht : (pc : Int) + off = (tgt : Int)) (kt : x < 0 → Go l M n0 Q k tgt L st w) (kf : ¬ (x < 0) → Go l M n0 Q k (pc + 3) L st w) : Go l M n0 Q k pc L (.int x :: st) w := by
  intro p e s m args below meth c D tc ad0 ad A H locs ls hI
  obtain ⟨hX, hK, had, hn0, how, hoL, hos, hP, hD, hS, hl⟩ := hI
  exact lv_if_lt hX.1 hX.2.1 hd ht (fun z => kt z p e s m args below meth c D tc ad0 ad A H locs ls ⟨hX, hK, had, hn0, how, hoL, fun v hv => hos v (List.mem_cons_of_mem _ hv), hP, hD, hS, hl⟩) (fun z => kf z p e s m args below meth c D tc ad0 ad A H locs ls ⟨hX, hK, had, hn0, how, hoL, fun v hv => hos v (List.mem_cons_of_mem _ hv), hP, hD, hS, hl⟩)
theorem g_icmp_lt {x y : Int32} {off : Int} {tgt : Nat} (hd : decode M.2.2.1 pc = .ok (.if_icmp .lt off, 3)) (ht : (pc : Int) + off = (tgt : Int)) (kt : x < y → Go l M n0 Q k tgt L st w) (kf : ¬ (x < y) → Go l M n0 Q k (pc + 3) L st w) : Go l M n0 Q k pc L (.int y :: .int x :: st) w := by
  intro p e s m args below meth c D tc ad0 ad A H locs ls hI
  obtain ⟨hX, hK, had, hn0, how, hoL, hos, hP, hD, hS, hl⟩ := hI
  exact lv_icmp_lt hX.1 hX.2.1 hd ht (fun z => kt z p e s m args below meth c D tc ad0 ad A H locs ls ⟨hX, hK, had, hn0, how, hoL, fun v hv => hos v (List.mem_cons_of_mem _ (List.mem_cons_of_mem _ hv)), hP, hD, hS, hl⟩) (fun z => kf z p e s m args below meth c D tc ad0 ad A H locs ls ⟨hX, hK, had, hn0, how, hoL, fun v hv => hos v (List.mem_cons_of_mem _ (List.mem_cons_of_mem _ hv)), hP, hD, hS, hl⟩)
theorem g_if_ge {x : Int32} {off : Int} {tgt : Nat} (hd : decode M.2.2.1 pc = .ok (.ifCond .ge off, 3)) (ht : (pc : Int) + off = (tgt : Int)) (kt : 0 ≤ x → Go l M n0 Q k tgt L st w) (kf : ¬ (0 ≤ x) → Go l M n0 Q k (pc + 3) L st w) : Go l M n0 Q k pc L (.int x :: st) w := by
  intro p e s m args below meth c D tc ad0 ad A H locs ls hI
  obtain ⟨hX, hK, had, hn0, how, hoL, hos, hP, hD, hS, hl⟩ := hI
  exact lv_if_ge hX.1 hX.2.1 hd ht (fun z => kt z p e s m args below meth c D tc ad0 ad A H locs ls ⟨hX, hK, had, hn0, how, hoL, fun v hv => hos v (List.mem_cons_of_mem _ hv), hP, hD, hS, hl⟩) (fun z => kf z p e s m args below meth c D tc ad0 ad A H locs ls ⟨hX, hK, had, hn0, how, hoL, fun v hv => hos v (List.mem_cons_of_mem _ hv), hP, hD, hS, hl⟩)
theorem g_icmp_ge {x y : Int32} {off : Int} {tgt : Nat} (hd : decode M.2.2.1 pc = .ok (.if_icmp .ge off, 3)) (ht : (pc : Int) + off = (tgt : Int)) (kt : y ≤ x → Go l M n0 Q k tgt L st w) (kf : ¬ (y ≤ x) → Go l M n0 Q k (pc + 3) L st w) : Go l M n0 Q k pc L (.int y :: .int x :: st) w := by
  intro p e s m args below meth c D tc ad0 ad A H locs ls hI
  obtain ⟨hX, hK, had, hn0, how, hoL, hos, hP, hD, hS, hl⟩ := hI
  exact lv_icmp_ge hX.1 hX.2.1 hd ht (fun z => kt z p e s m args below meth c D tc ad0 ad A H locs ls ⟨hX, hK, had, hn0, how, hoL, fun v hv => hos v (List.mem_cons_of_mem _ (List.mem_cons_of_mem _ hv)), hP, hD, hS, hl⟩) (fun z => kf z p e s m args below meth c D tc ad0 ad A H locs ls ⟨hX, hK, had, hn0, how, hoL, fun v hv => hos v (List.mem_cons_of_mem _ (List.mem_cons_of_mem _ hv)), hP, hD, hS, hl⟩)
theorem g_if_gt {x : Int32} {off : Int} {tgt : Nat} (hd : decode M.2.2.1 pc = .ok (.ifCond .gt off, 3)) (ht : (pc : Int) + off = (tgt : Int)) (kt : 0 < x → Go l M n0 Q k tgt L st w) (kf : ¬ (0 < x) → Go l M n0 Q k (pc + 3) L st w) : Go l M n0 Q k pc L (.int x :: st) w := by
  intro p e s m args below meth c D tc ad0 ad A H locs ls hI
  obtain ⟨hX, hK, had, hn0, how, hoL, hos, hP, hD, hS, hl⟩ := hI
  exact lv_if_gt hX.1 hX.2.1 hd ht (fun z => kt z p e s m args below meth c D tc ad0 ad A H locs ls ⟨hX, hK, had, hn0, how, hoL, fun v hv => hos v (List.mem_cons_of_mem _ hv), hP, hD, hS, hl⟩) (fun z => kf z p e s m args below meth c D tc ad0 ad A H locs ls ⟨hX, hK, had, hn0, how, hoL, fun v hv => hos v (List.mem_cons_of_mem _ hv), hP, hD, hS, hl⟩)
theorem g_icmp_gt {x y : Int32} {off : Int} {tgt : Nat} (hd : decode M.2.2.1 pc = .ok (.if_icmp .gt off, 3)) (ht : (pc : Int) + off = (tgt : Int)) (kt : y < x → Go l M n0 Q k tgt L st w) (kf : ¬ (y < x) → Go l M n0 Q k (pc + 3) L st w) : Go l M n0 Q k pc L (.int y :: .int x :: st) w := by
  intro p e s m args below meth c D tc ad0 ad A H locs ls hI
  obtain ⟨hX, hK, had, hn0, how, hoL, hos, hP, hD, hS, hl⟩ := hI
  exact lv_icmp_gt hX.1 hX.2.1 hd ht (fun z => kt z p e s m args below meth c D tc ad0 ad A H locs ls ⟨hX, hK, had, hn0, how, hoL, fun v hv => hos v (List.mem_cons_of_mem _ (List.mem_cons_of_mem _ hv)), hP, hD, hS, hl⟩) (fun z => kf z p e s m args below meth c D tc ad0 ad A H locs ls ⟨hX, hK, had, hn0, how, hoL, fun v hv => hos v (List.mem_cons_of_mem _ (List.mem_cons_of_mem _ hv)), hP, hD, hS, hl⟩)
theorem g_if_le {x : Int32} {off : Int} {tgt : Nat} (hd : decode M.2.2.1 pc = .ok (.ifCond .le off, 3)) (ht : (pc : Int) + off = (tgt : Int)) (kt : x ≤ 0 → Go l M n0 Q k tgt L st w) (kf : ¬ (x ≤ 0) → Go l M n0 Q k (pc + 3) L st w) : Go l M n0 Q k pc L (.int x :: st) w := by
  intro p e s m args below meth c D tc ad0 ad A H locs ls hI
  obtain ⟨hX, hK, had, hn0, how, hoL, hos, hP, hD, hS, hl⟩ := hI
  exact lv_if_le hX.1 hX.2.1 hd ht (fun z => kt z p e s m args below meth c D tc ad0 ad A H locs ls ⟨hX, hK, had, hn0, how, hoL, fun v hv => hos v (List.mem_cons_of_mem _ hv), hP, hD, hS, hl⟩) (fun z => kf z p e s m args below meth c D tc ad0 ad A H locs ls ⟨hX, hK, had, hn0, how, hoL, fun v hv => hos v (List.mem_cons_of_mem _ hv), hP, hD, hS, hl⟩)
theorem g_icmp_le {x y : Int32} {off : Int} {tgt : Nat} (hd : decode M.2.2.1 pc = .ok (.if_icmp .le off, 3)) (ht : (pc : Int) + off = (tgt : Int)) (kt : x ≤ y → Go l M n0 Q k tgt L st w) (kf : ¬ (x ≤ y) → Go l M n0 Q k (pc + 3) L st w) : Go l M n0 Q k pc L (.int y :: .int x :: st) w := by
  intro p e s m args below meth c D tc ad0 ad A H locs ls hI
  obtain ⟨hX, hK, had, hn0, how, hoL, hos, hP, hD, hS, hl⟩ := hI
  exact lv_icmp_le hX.1 hX.2.1 hd ht (fun z => kt z p e s m args below meth c D tc ad0 ad A H locs ls ⟨hX, hK, had, hn0, how, hoL, fun v hv => hos v (List.mem_cons_of_mem _ (List.mem_cons_of_mem _ hv)), hP, hD, hS, hl⟩) (fun z => kf z p e s m args below meth c D tc ad0 ad A H locs ls ⟨hX, hK, had, hn0, how, hoL, fun v hv => hos v (List.mem_cons_of_mem _ (List.mem_cons_of_mem _ hv)), hP, hD, hS, hl⟩)
theorem g_lookup {dflt : Int} {ps : Array (Int × Int)} {len : Nat} {x : Int32} {off : Int} {tgt : Nat} (hd : decode M.2.2.1 pc = .ok (.lookupswitch dflt ps, len)) (hp : (ps.toList.zip (ps.toList.drop 1)).all (fun (a, next) => a.1 < next.1) = true) (ho : Op.lookupswitch.offset ps.toList dflt x.toInt = off) (ht : (pc : Int) + off = (tgt : Int)) (kk : Go l M n0 Q k tgt L st w) : Go l M n0 Q k pc L (.int x :: st) w :=
  Go.go1 (fun _ h u hu => h u (List.mem_cons_of_mem _ hu)) (fun _ hx hb z => lv_lookup hx hb hd hp ho ht z) kk
theorem g_tableIn {dflt lo hi : Int} {offs : Array Int} {len : Nat} {x : Int32} {off : Int} {tgt : Nat} (hd : decode M.2.2.1 pc = .ok (.tableswitch dflt lo hi offs, len)) (h1 : ¬ x.toInt < lo) (h2 : ¬ hi < x.toInt) (ho : offs[(x.toInt - lo).toNat]? = some off) (ht : (pc : Int) + off = (tgt : Int)) (kk : Go l M n0 Q k tgt L st w) : Go l M n0 Q k pc L (.int x :: st) w :=
  Go.go1 (fun _ h u hu => h u (List.mem_cons_of_mem _ hu)) (fun _ hx hb z => lv_tableIn hx hb hd h1 h2 ho ht z) kk
theorem g_tableOut {dflt lo hi : Int} {offs : Array Int} {len : Nat} {x : Int32} {tgt : Nat} (hd : decode M.2.2.1 pc = .ok (.tableswitch dflt lo hi offs, len)) (h : x.toInt < lo ∨ hi < x.toInt) (ht : (pc : Int) + dflt = (tgt : Int)) (kk : Go l M n0 Q k tgt L st w) : Go l M n0 Q k pc L (.int x :: st) w :=
  Go.go1 (fun _ h u hu => h u (List.mem_cons_of_mem _ hu)) (fun _ hx hb z => lv_tableOut hx hb hd h ht z) kk
theorem g_iload_n {j : Fin 4} {i : Nat} {x : Int32} (hd : decode M.2.2.1 pc = .ok (.iload_n j, 1)) (hi : (j : Nat) = i) (hl : L[i]? = some (some (.int x))) (kk : Go l M n0 Q k (pc + 1) L (.int x :: st) w) : Go l M n0 Q k pc L st w := by
  intro p e s m args below meth c D tc ad0 ad A H locs ls hI
  obtain ⟨hX, hK, had, hn0, how, hoL, hos, hP, hD, hS, hls⟩ := hI
  exact lv_iload_n hX.1 hX.2.1 hd hi (hls.2.2 _ _ hl) (kk p e s m args below meth c D tc ad0 ad A H locs ls ⟨hX, hK, had, hn0, how, hoL, q_okp q_ok_int (fun _ z => z) hos, hP, hD, hS, hls⟩)
theorem g_iload {i : Nat} {x : Int32} (hd : decode M.2.2.1 pc = .ok (.iload i, 2)) (hl : L[i]? = some (some (.int x))) (kk : Go l M n0 Q k (pc + 2) L (.int x :: st) w) : Go l M n0 Q k pc L st w := by
  intro p e s m args below meth c D tc ad0 ad A H locs ls hI
  obtain ⟨hX, hK, had, hn0, how, hoL, hos, hP, hD, hS, hls⟩ := hI
  exact lv_iload hX.1 hX.2.1 hd (hls.2.2 _ _ hl) (kk p e s m args below meth c D tc ad0 ad A H locs ls ⟨hX, hK, had, hn0, how, hoL, q_okp q_ok_int (fun _ z => z) hos, hP, hD, hS, hls⟩)
theorem g_lload_n {j : Fin 4} {i : Nat} {x : Int64} (hd : decode M.2.2.1 pc = .ok (.lload_n j, 1)) (hi : (j : Nat) = i) (hl : L[i]? = some (some (.long x))) (kk : Go l M n0 Q k (pc + 1) L (.long x :: st) w) : Go l M n0 Q k pc L st w := by
  intro p e s m args below meth c D tc ad0 ad A H locs ls hI
  obtain ⟨hX, hK, had, hn0, how, hoL, hos, hP, hD, hS, hls⟩ := hI
  exact lv_lload_n hX.1 hX.2.1 hd hi (hls.2.2 _ _ hl) (kk p e s m args below meth c D tc ad0 ad A H locs ls ⟨hX, hK, had, hn0, how, hoL, q_okp q_ok_long (fun _ z => z) hos, hP, hD, hS, hls⟩)
theorem g_lload {i : Nat} {x : Int64} (hd : decode M.2.2.1 pc = .ok (.lload i, 2)) (hl : L[i]? = some (some (.long x))) (kk : Go l M n0 Q k (pc + 2) L (.long x :: st) w) : Go l M n0 Q k pc L st w := by
  intro p e s m args below meth c D tc ad0 ad A H locs ls hI
  obtain ⟨hX, hK, had, hn0, how, hoL, hos, hP, hD, hS, hls⟩ := hI
  exact lv_lload hX.1 hX.2.1 hd (hls.2.2 _ _ hl) (kk p e s m args below meth c D tc ad0 ad A H locs ls ⟨hX, hK, had, hn0, how, hoL, q_okp q_ok_long (fun _ z => z) hos, hP, hD, hS, hls⟩)
theorem g_aload_n {j : Fin 4} {i : Nat} {x : Nat} (hd : decode M.2.2.1 pc = .ok (.aload_n j, 1)) (hi : (j : Nat) = i) (hl : L[i]? = some (some (.ref x))) (kk : Go l M n0 Q k (pc + 1) L (.ref x :: st) w) : Go l M n0 Q k pc L st w := by
  intro p e s m args below meth c D tc ad0 ad A H locs ls hI
  obtain ⟨hX, hK, had, hn0, how, hoL, hos, hP, hD, hS, hls⟩ := hI
  exact lv_aload_n hX.1 hX.2.1 hd hi (hls.2.2 _ _ hl) (kk p e s m args below meth c D tc ad0 ad A H locs ls ⟨hX, hK, had, hn0, how, hoL, q_okp (hoL _ _ hl) (fun _ z => z) hos, hP, hD, hS, hls⟩)
theorem g_aload {i : Nat} {x : Nat} (hd : decode M.2.2.1 pc = .ok (.aload i, 2)) (hl : L[i]? = some (some (.ref x))) (kk : Go l M n0 Q k (pc + 2) L (.ref x :: st) w) : Go l M n0 Q k pc L st w := by
  intro p e s m args below meth c D tc ad0 ad A H locs ls hI
  obtain ⟨hX, hK, had, hn0, how, hoL, hos, hP, hD, hS, hls⟩ := hI
  exact lv_aload hX.1 hX.2.1 hd (hls.2.2 _ _ hl) (kk p e s m args below meth c D tc ad0 ad A H locs ls ⟨hX, hK, had, hn0, how, hoL, q_okp (hoL _ _ hl) (fun _ z => z) hos, hP, hD, hS, hls⟩)
theorem g_istore_n {j : Fin 4} {i : Nat} {x : Int32} {L' : q_Ls} (hd : decode M.2.2.1 pc = .ok (.istore_n j, 1)) (hi : (j : Nat) = i) (hn : i < M.2.2.2.1) (hL : q_sto L i (.int x) = L') (kk : Go l M n0 Q k (pc + 1) L' st w) : Go l M n0 Q k pc L (.int x :: st) w := by
  subst hL
  intro p e s m args below meth c D tc ad0 ad A H locs ls hI
  obtain ⟨hX, hK, had, hn0, how, hoL, hos, hP, hD, hS, hls⟩ := hI
  exact lv_istore_n hX.1 hX.2.1 hd hi hls.has hn rfl (fun ls' hl' => kk p e s m args below meth c D tc ad0 ad A H locs ls' ⟨hX, hK, had, hn0, how, q_okL_sto hoL (hos _ List.mem_cons_self), fun v hv => hos v (List.mem_cons_of_mem _ hv), hP, hD, hS, q_L.sto1 (v := .int x) hl'⟩)
theorem g_istore {i : Nat} {x : Int32} {L' : q_Ls} (hd : decode M.2.2.1 pc = .ok (.istore i, 2)) (hn : i < M.2.2.2.1) (hL : q_sto L i (.int x) = L') (kk : Go l M n0 Q k (pc + 2) L' st w) : Go l M n0 Q k pc L (.int x :: st) w := by
  subst hL
  intro p e s m args below meth c D tc ad0 ad A H locs ls hI
  obtain ⟨hX, hK, had, hn0, how, hoL, hos, hP, hD, hS, hls⟩ := hI
  exact lv_istore hX.1 hX.2.1 hd hls.has hn rfl (fun ls' hl' => kk p e s m args below meth c D tc ad0 ad A H locs ls' ⟨hX, hK, had, hn0, how, q_okL_sto hoL (hos _ List.mem_cons_self), fun v hv => hos v (List.mem_cons_of_mem _ hv), hP, hD, hS, q_L.sto1 (v := .int x) hl'⟩)
theorem g_lstore_n {j : Fin 4} {i : Nat} {x : Int64} {L' : q_Ls} (hd : decode M.2.2.1 pc = .ok (.lstore_n j, 1)) (hi : (j : Nat) = i) (hn : i + 1 < M.2.2.2.1) (hL : q_sto L i (.long x) = L') (kk : Go l M n0 Q k (pc + 1) L' st w) : Go l M n0 Q k pc L (.long x :: st) w := by
  subst hL
  intro p e s m args below meth c D tc ad0 ad A H locs ls hI
  obtain ⟨hX, hK, had, hn0, how, hoL, hos, hP, hD, hS, hls⟩ := hI
  exact lv_lstore_n hX.1 hX.2.1 hd hi hls.has hn rfl (fun ls' hl' => kk p e s m args below meth c D tc ad0 ad A H locs ls' ⟨hX, hK, had, hn0, how, q_okL_sto hoL (hos _ List.mem_cons_self), fun v hv => hos v (List.mem_cons_of_mem _ hv), hP, hD, hS, q_L.sto2 rfl (v := .long x) hl'⟩)
theorem g_lstore {i : Nat} {x : Int64} {L' : q_Ls} (hd : decode M.2.2.1 pc = .ok (.lstore i, 2)) (hn : i + 1 < M.2.2.2.1) (hL : q_sto L i (.long x) = L') (kk : Go l M n0 Q k (pc + 2) L' st w) : Go l M n0 Q k pc L (.long x :: st) w := by
  subst hL
  intro p e s m args below meth c D tc ad0 ad A H locs ls hI
  obtain ⟨hX, hK, had, hn0, how, hoL, hos, hP, hD, hS, hls⟩ := hI
  exact lv_lstore hX.1 hX.2.1 hd hls.has hn rfl (fun ls' hl' => kk p e s m args below meth c D tc ad0 ad A H locs ls' ⟨hX, hK, had, hn0, how, q_okL_sto hoL (hos _ List.mem_cons_self), fun v hv => hos v (List.mem_cons_of_mem _ hv), hP, hD, hS, q_L.sto2 rfl (v := .long x) hl'⟩)
theorem g_astore_n {j : Fin 4} {i : Nat} {x : Nat} {L' : q_Ls} (hd : decode M.2.2.1 pc = .ok (.astore_n j, 1)) (hi : (j : Nat) = i) (hn : i < M.2.2.2.1) (hL : q_sto L i (.ref x) = L') (kk : Go l M n0 Q k (pc + 1) L' st w) : Go l M n0 Q k pc L (.ref x :: st) w := by
  subst hL
  intro p e s m args below meth c D tc ad0 ad A H locs ls hI
  obtain ⟨hX, hK, had, hn0, how, hoL, hos, hP, hD, hS, hls⟩ := hI
  exact lv_astore_n hX.1 hX.2.1 hd hi hls.has hn rfl (fun ls' hl' => kk p e s m args below meth c D tc ad0 ad A H locs ls' ⟨hX, hK, had, hn0, how, q_okL_sto hoL (hos _ List.mem_cons_self), fun v hv => hos v (List.mem_cons_of_mem _ hv), hP, hD, hS, q_L.sto1 (v := .ref x) hl'⟩)
theorem g_astore {i : Nat} {x : Nat} {L' : q_Ls} (hd : decode M.2.2.1 pc = .ok (.astore i, 2)) (hn : i < M.2.2.2.1) (hL : q_sto L i (.ref x) = L') (kk : Go l M n0 Q k (pc + 2) L' st w) : Go l M n0 Q k pc L (.ref x :: st) w := by
  subst hL
  intro p e s m args below meth c D tc ad0 ad A H locs ls hI
  obtain ⟨hX, hK, had, hn0, how, hoL, hos, hP, hD, hS, hls⟩ := hI
  exact lv_astore hX.1 hX.2.1 hd hls.has hn rfl (fun ls' hl' => kk p e s m args below meth c D tc ad0 ad A H locs ls' ⟨hX, hK, had, hn0, how, q_okL_sto hoL (hos _ List.mem_cons_self), fun v hv => hos v (List.mem_cons_of_mem _ hv), hP, hD, hS, q_L.sto1 (v := .ref x) hl'⟩)
theorem g_iinc {i : Nat} {n : Int} {x : Int32} {L' : q_Ls} (hd : decode M.2.2.1 pc = .ok (.iinc i n, 3)) (hl : L[i]? = some (some (.int x))) (hn : i < M.2.2.2.1) (hL : q_sto L i (.int (x + Int32.ofInt n)) = L') (kk : Go l M n0 Q k (pc + 3) L' st w) : Go l M n0 Q k pc L st w := by
  subst hL
  intro p e s m args below meth c D tc ad0 ad A H locs ls hI
  obtain ⟨hX, hK, had, hn0, how, hoL, hos, hP, hD, hS, hls⟩ := hI
  obtain ⟨q, hq⟩ := List.getElem?_of_mem (q_al_mem (ad := ad) hl)
  exact lv_iinc hX.1 hX.2.1 hd hls.has hq rfl hn rfl (fun ls' hl' => kk p e s m args below meth c D tc ad0 ad A H locs ls' ⟨hX, hK, had, hn0, how, q_okL_sto hoL q_ok_int, hos, hP, hD, hS, q_L.sto1 (v := .int (x + Int32.ofInt n)) hl'⟩)
end G2
end
section
def q_FL (own : String) (cp ci kf : Nat) : Prop := ∃ (C : String) (T : u_T) (N : Nat), vwCl[ci]? = some (C, T, N) ∧ kf < N ∧ Cond.fieldLink own cp (T kf).1 (T kf).2.1 (T kf).2.2.1 ∈ q_tb ∧ ∀ w ∈ u_ws C T N, w ∈ q_tb
def q_FP (own : String) (cp ci kf : Nat) (ty : FieldType) (fin : Bool) : Prop := ∃ (C : String) (T : u_T) (N : Nat) (ty0 : Nat → FieldType), vwCl[ci]? = some (C, T, N) ∧ kf < N ∧ Cond.fieldLink own cp (T kf).1 (T kf).2.1 (T kf).2.2.1 ∈ q_tb ∧ (∀ w ∈ u_ws C T N, w ∈ q_tb) ∧ (∀ k, k < N → parseFieldDescriptor (T k).2.2.1 = some (ty0 k)) ∧ (∀ a, a < N → ∀ b, b < N → a ≠ b → (T a).2.1 ≠ (T b).2.1) ∧ (T kf).2.2.2 = fin ∧ parseFieldDescriptor (T kf).2.2.1 = some ty ∧ (T kf).1 = own
def q_NW (own : String) (cp ci N : Nat) (fs : List Value) : Prop := ∃ (C : String) (T : u_T) (ty : Nat → FieldType), vwCl[ci]? = some (C, T, N) ∧ (∀ w ∈ u_ws C T N, w ∈ q_tb) ∧ (∀ k, k < N → parseFieldDescriptor (T k).2.2.1 = some (ty k)) ∧ Cond.classLink own cp C ∈ q_tb ∧ Cond.instantiable C N ∈ q_tb ∧ Cond.initialized C ∈ q_tb ∧ (∀ j, j < N → defaultValue (ty j) = vp_V fs j) ∧ ∀ v ∈ fs, v = .null ∨ (∃ x, v = .int x) ∨ ∃ x, v = .long x
section G3
variable {l : Launch} {M : q_M} {n0 : Nat} {Q : q_P} {k : Nat × Nat} {pc : Nat} {L : q_Ls} {st : List Value} {w : q_Wd}
theorem g_getf {cp ci kf i : Nat} {fs : List Value} {v : Value} (hd : decode M.2.2.1 pc = .ok (.getfield cp, 3)) (hf : q_FL M.2.1.cls cp ci kf) (hw : w[i]? = some (.inr (ci, fs))) (hv : fs[kf]? = some v) (kk : Go l M n0 Q k (pc + 3) L (v :: st) w) : Go l M n0 Q k pc L (.ref i :: st) w := by
  intro p e s m args below meth c D tc ad0 ad A H locs ls hI
  obtain ⟨hX, hK, had, hn0, how, hoL, hos, hP, hD, hS, hls⟩ := hI
  obtain ⟨C, T, N, h1, h2, h3, h4⟩ := hf
  have hv2 : (fs.map (q_v ad))[kf]? = some (q_v ad v) := by rw [List.getElem?_map, hv]; rfl
  exact va_get (Ts := q_tb) hX.1 hX.2.1 hX.2.2.2.2.1 h4 hX.2.2.2.1 hK hP i (q_w_at hw) h1 kf h2 (hX.2.2.2.2.1 _ h3) (fun _ z => z) hv2 hd (kk p e s m args below meth c D tc ad0 ad A H locs ls ⟨hX, hK, had, hn0, how, hoL, q_okp (how i _ hw v (List.mem_of_getElem? hv)) (fun _ z => List.mem_cons_of_mem _ z) hos, hP, hD, hS, hls⟩)
theorem q_set_ok {n kf : Nat} {fs : List Value} {v : Value} (h : ∀ u ∈ fs, q_ok n u) (hv : q_ok n v) : ∀ u ∈ fs.set kf v, q_ok n u := by
  intro u hu
  rcases List.mem_or_eq_of_mem_set hu with h1 | h1
  · exact h u h1
  · exact h1 ▸ hv
theorem g_putf {cp ci kf i : Nat} {fs : List Value} {v : Value} {ty : FieldType} {w' : q_Wd} (hd : decode M.2.2.1 pc = .ok (.putfield cp, 3)) (hf : q_FP M.2.1.cls cp ci kf ty false) (hw : w[i]? = some (.inr (ci, fs))) (hl : kf < fs.length) (hn : ∀ ad, narrow ty (q_v ad v) = q_v ad v) (hfit : ∀ ad, fits ty (q_v ad v) = true) (hw' : w.set i (.inr (ci, fs.set kf v)) = w') (kk : Go l M n0 Q k (pc + 3) L st w') : Go l M n0 Q k pc L (v :: .ref i :: st) w := by
  subst hw'
  intro p e s m args below meth c D tc ad0 ad A H locs ls hI
  obtain ⟨hX, hK, had, hn0, how, hoL, hos, hP, hD, hS, hls⟩ := hI
  obtain ⟨C, T, N, ty0, h1, h2, h3, h4, h5, h6, h7, h8, -⟩ := hf
  refine va_put (Ts := q_tb) hX.1 hX.2.1 hX.2.2.2.2.1 h4 ty0 h5 h6 hX.2.2.2.1 hK hP hD hS i (q_w_at hw) h1 kf h2 (hX.2.2.2.2.1 _ h3) (fun _ z => z) h7 h8 (hn ad) (hfit ad) (by rw [List.length_map]; exact hl) hd (fun H1 locs1 hP1 hD1 hS1 => ?_)
  have he : (q_w tc ad w).set i (ad i, .inr (ci, (fs.map (q_v ad)).set kf (q_v ad v))) = q_w tc ad (w.set i (.inr (ci, fs.set kf v))) := by
    rw [← q_w_set]
    show _ = (q_w tc ad w).set i (ad i, .inr (ci, (fs.set kf v).map (q_v ad)))
    rw [List.map_set]
  rw [he] at hP1 hD1
  refine kk p e s m args below meth c D tc ad0 ad A H1 locs1 ls ⟨hX, hK, had, by rw [List.length_set]; exact hn0, q_okw_set how ?_, by rw [List.length_set]; exact hoL, ?_, hP1, hD1, hS1, hls⟩
  · exact q_set_ok (how i _ hw) (hos _ List.mem_cons_self)
  · rw [List.length_set]
    exact fun u hu => hos u (List.mem_cons_of_mem _ (List.mem_cons_of_mem _ hu))
theorem g_putF {cp ci kf i : Nat} {fs : List Value} {v : Value} {ty : FieldType} {w' : q_Wd} (hd : decode M.2.2.1 pc = .ok (.putfield cp, 3)) (hf : q_FP M.2.1.cls cp ci kf ty true) (hin : M.2.1.name = "<init>") (hw : w[i]? = some (.inr (ci, fs))) (hl : kf < fs.length) (hn : ∀ ad, narrow ty (q_v ad v) = q_v ad v) (hfit : ∀ ad, fits ty (q_v ad v) = true) (hw' : w.set i (.inr (ci, fs.set kf v)) = w') (kk : Go l M n0 Q k (pc + 3) L st w') : Go l M n0 Q k pc L (v :: .ref i :: st) w := by
  subst hw'
  intro p e s m args below meth c D tc ad0 ad A H locs ls hI
  obtain ⟨hX, hK, had, hn0, how, hoL, hos, hP, hD, hS, hls⟩ := hI
  obtain ⟨C, T, N, ty0, h1, h2, h3, h4, h5, h6, h7, h8, h9⟩ := hf
  refine va_putF (Ts := q_tb) hX.1 hX.2.1 hX.2.2.2.2.1 h4 ty0 h5 h6 hX.2.2.2.1 hK hP hD hS i (q_w_at hw) h1 kf h2 (hX.2.2.2.2.1 _ h3) (fun _ z => z) h7 (hX.2.2.2.2.2.2.2.1.trans hin) h9 h8 (hn ad) (hfit ad) (by rw [List.length_map]; exact hl) hd (fun H1 locs1 hP1 hD1 hS1 => ?_)
  have he : (q_w tc ad w).set i (ad i, .inr (ci, (fs.map (q_v ad)).set kf (q_v ad v))) = q_w tc ad (w.set i (.inr (ci, fs.set kf v))) := by
    rw [← q_w_set]
    show _ = (q_w tc ad w).set i (ad i, .inr (ci, (fs.set kf v).map (q_v ad)))
    rw [List.map_set]
  rw [he] at hP1 hD1
  refine kk p e s m args below meth c D tc ad0 ad A H1 locs1 ls ⟨hX, hK, had, by rw [List.length_set]; exact hn0, q_okw_set how ?_, by rw [List.length_set]; exact hoL, ?_, hP1, hD1, hS1, hls⟩
  · exact q_set_ok (how i _ hw) (hos _ List.mem_cons_self)
  · rw [List.length_set]
    exact fun u hu => hos u (List.mem_cons_of_mem _ (List.mem_cons_of_mem _ hu))
theorem g_iald {i n : Nat} {f : Nat → Int32} {x : Int32} (hd : decode M.2.2.1 pc = .ok (.iaload, 1)) (hw : w[i]? = some (.inl (0, n, .inl f))) (hin : vp_in x n) (kk : Go l M n0 Q k (pc + 1) L (.int (f x.toNatClampNeg) :: st) w) : Go l M n0 Q k pc L (.int x :: .ref i :: st) w := by
  intro p e s m args below meth c D tc ad0 ad A H locs ls hI
  obtain ⟨hX, hK, had, hn0, how, hoL, hos, hP, hD, hS, hls⟩ := hI
  exact va_iald hX.1 hX.2.1 hK hP i 0 (q_w_at hw) rfl hin hd (kk p e s m args below meth c D tc ad0 ad A H locs ls ⟨hX, hK, had, hn0, how, hoL, q_okp q_ok_int q_ok2 hos, hP, hD, hS, hls⟩)
theorem g_bald {i n : Nat} {f : Nat → Int32} {x : Int32} (hd : decode M.2.2.1 pc = .ok (.baload, 1)) (hw : w[i]? = some (.inl (1, n, .inl f))) (hin : vp_in x n) (kk : Go l M n0 Q k (pc + 1) L (.int (f x.toNatClampNeg) :: st) w) : Go l M n0 Q k pc L (.int x :: .ref i :: st) w := by
  intro p e s m args below meth c D tc ad0 ad A H locs ls hI
  obtain ⟨hX, hK, had, hn0, how, hoL, hos, hP, hD, hS, hls⟩ := hI
  exact va_bald hX.1 hX.2.1 hK hP i 1 (q_w_at hw) rfl hin hd (kk p e s m args below meth c D tc ad0 ad A H locs ls ⟨hX, hK, had, hn0, how, hoL, q_okp q_ok_int q_ok2 hos, hP, hD, hS, hls⟩)
theorem g_zald {i n : Nat} {f : Nat → Int32} {x : Int32} (hd : decode M.2.2.1 pc = .ok (.baload, 1)) (hw : w[i]? = some (.inl (2, n, .inl f))) (hin : vp_in x n) (kk : Go l M n0 Q k (pc + 1) L (.int (f x.toNatClampNeg) :: st) w) : Go l M n0 Q k pc L (.int x :: .ref i :: st) w := by
  intro p e s m args below meth c D tc ad0 ad A H locs ls hI
  obtain ⟨hX, hK, had, hn0, how, hoL, hos, hP, hD, hS, hls⟩ := hI
  exact va_zald hX.1 hX.2.1 hK hP i 2 (q_w_at hw) rfl hin hd (kk p e s m args below meth c D tc ad0 ad A H locs ls ⟨hX, hK, had, hn0, how, hoL, q_okp q_ok_int q_ok2 hos, hP, hD, hS, hls⟩)
theorem q_okc_i {t n j : Nat} {f : Nat → Int32} : q_okc j (.inl (t, n, .inl f)) := fun g e => by cases e
theorem g_iast {i n : Nat} {f : Nat → Int32} {x v : Int32} {w' : q_Wd} (hd : decode M.2.2.1 pc = .ok (.iastore, 1)) (hw : w[i]? = some (.inl (0, n, .inl f))) (hin : vp_in x n) (hw' : w.set i (.inl (0, n, .inl (upd f x.toNatClampNeg v))) = w') (kk : Go l M n0 Q k (pc + 1) L st w') : Go l M n0 Q k pc L (.int v :: .int x :: .ref i :: st) w := by
  subst hw'
  intro p e s m args below meth c D tc ad0 ad A H locs ls hI
  obtain ⟨hX, hK, had, hn0, how, hoL, hos, hP, hD, hS, hls⟩ := hI
  refine va_iast hX.1 hX.2.1 hK hP hD hS i 0 (q_w_at hw) rfl hin hd (fun H1 locs1 hP1 hD1 hS1 => ?_)
  have he : (q_w tc ad w).set i (ad i, .inl (tc 0, n, .inl (upd f x.toNatClampNeg v))) = q_w tc ad (w.set i (.inl (0, n, .inl (upd f x.toNatClampNeg v)))) := q_w_set (c := (.inl (0, n, .inl (upd f x.toNatClampNeg v))))
  rw [he] at hP1 hD1
  refine kk p e s m args below meth c D tc ad0 ad A H1 locs1 ls ⟨hX, hK, had, by rw [List.length_set]; exact hn0, q_okw_set how q_okc_i, by rw [List.length_set]; exact hoL, ?_, hP1, hD1, hS1, hls⟩
  rw [List.length_set]
  exact fun u hu => hos u (List.mem_cons_of_mem _ (List.mem_cons_of_mem _ (List.mem_cons_of_mem _ hu)))
theorem g_bast {i n : Nat} {f : Nat → Int32} {x v : Int32} {w' : q_Wd} (hd : decode M.2.2.1 pc = .ok (.bastore, 1)) (hw : w[i]? = some (.inl (1, n, .inl f))) (hin : vp_in x n) (hw' : w.set i (.inl (1, n, .inl (upd f x.toNatClampNeg (vp_nar .byte v)))) = w') (kk : Go l M n0 Q k (pc + 1) L st w') : Go l M n0 Q k pc L (.int v :: .int x :: .ref i :: st) w := by
  subst hw'
  intro p e s m args below meth c D tc ad0 ad A H locs ls hI
  obtain ⟨hX, hK, had, hn0, how, hoL, hos, hP, hD, hS, hls⟩ := hI
  refine va_bast hX.1 hX.2.1 hK hP hD hS i 1 (q_w_at hw) rfl hin hd (fun H1 locs1 hP1 hD1 hS1 => ?_)
  have he : (q_w tc ad w).set i (ad i, .inl (tc 1, n, .inl (upd f x.toNatClampNeg (vp_nar .byte v)))) = q_w tc ad (w.set i (.inl (1, n, .inl (upd f x.toNatClampNeg (vp_nar .byte v))))) := q_w_set (c := (.inl (1, n, .inl (upd f x.toNatClampNeg (vp_nar .byte v)))))
  rw [he] at hP1 hD1
  refine kk p e s m args below meth c D tc ad0 ad A H1 locs1 ls ⟨hX, hK, had, by rw [List.length_set]; exact hn0, q_okw_set how q_okc_i, by rw [List.length_set]; exact hoL, ?_, hP1, hD1, hS1, hls⟩
  rw [List.length_set]
  exact fun u hu => hos u (List.mem_cons_of_mem _ (List.mem_cons_of_mem _ (List.mem_cons_of_mem _ hu)))
theorem g_zast {i n : Nat} {f : Nat → Int32} {x v : Int32} {w' : q_Wd} (hd : decode M.2.2.1 pc = .ok (.bastore, 1)) (hw : w[i]? = some (.inl (2, n, .inl f))) (hin : vp_in x n) (hw' : w.set i (.inl (2, n, .inl (upd f x.toNatClampNeg (vp_nar .boolean v)))) = w') (kk : Go l M n0 Q k (pc + 1) L st w') : Go l M n0 Q k pc L (.int v :: .int x :: .ref i :: st) w := by
  subst hw'
  intro p e s m args below meth c D tc ad0 ad A H locs ls hI
  obtain ⟨hX, hK, had, hn0, how, hoL, hos, hP, hD, hS, hls⟩ := hI
  refine va_zast hX.1 hX.2.1 hK hP hD hS i 2 (q_w_at hw) rfl hin hd (fun H1 locs1 hP1 hD1 hS1 => ?_)
  have he : (q_w tc ad w).set i (ad i, .inl (tc 2, n, .inl (upd f x.toNatClampNeg (vp_nar .boolean v)))) = q_w tc ad (w.set i (.inl (2, n, .inl (upd f x.toNatClampNeg (vp_nar .boolean v))))) := q_w_set (c := (.inl (2, n, .inl (upd f x.toNatClampNeg (vp_nar .boolean v)))))
  rw [he] at hP1 hD1
  refine kk p e s m args below meth c D tc ad0 ad A H1 locs1 ls ⟨hX, hK, had, by rw [List.length_set]; exact hn0, q_okw_set how q_okc_i, by rw [List.length_set]; exact hoL, ?_, hP1, hD1, hS1, hls⟩
  rw [List.length_set]
  exact fun u hu => hos u (List.mem_cons_of_mem _ (List.mem_cons_of_mem _ (List.mem_cons_of_mem _ hu)))
theorem g_alen {i n : Nat} {f : Nat → Int32} (hd : decode M.2.2.1 pc = .ok (.arraylength, 1)) (hw : w[i]? = some (.inl (0, n, .inl f))) (kk : Go l M n0 Q k (pc + 1) L (.int (Int32.ofNat n) :: st) w) : Go l M n0 Q k pc L (.ref i :: st) w := by
  intro p e s m args below meth c D tc ad0 ad A H locs ls hI
  obtain ⟨hX, hK, had, hn0, how, hoL, hos, hP, hD, hS, hls⟩ := hI
  exact va_alen (x := (n, .inl f)) hX.1 hX.2.1 hK hP i 0 (q_w_at hw) rfl rfl hd (kk p e s m args below meth c D tc ad0 ad A H locs ls ⟨hX, hK, had, hn0, how, hoL, q_okp q_ok_int q_ok1 hos, hP, hD, hS, hls⟩)
theorem g_aald {i n j : Nat} {f : Nat → Option Nat} {x : Int32} (hd : decode M.2.2.1 pc = .ok (.aaload, 1)) (hw : w[i]? = some (.inl (3, n, .inr (.inr (.inr (.inr f)))))) (hin : vp_in x n) (hj : f x.toNatClampNeg = some j) (kk : Go l M n0 Q k (pc + 1) L (.ref j :: st) w) : Go l M n0 Q k pc L (.int x :: .ref i :: st) w := by
  intro p e s m args below meth c D tc ad0 ad A H locs ls hI
  obtain ⟨hX, hK, had, hn0, how, hoL, hos, hP, hD, hS, hls⟩ := hI
  refine va_aldq (C := "AheadRows$Cycle") (f := fun j => (f j).map ad) hX.1 hX.2.1 hK hP i 3 (q_w_at hw) rfl hin hd ?_
  simp only [hj, Option.map_some]
  exact kk p e s m args below meth c D tc ad0 ad A H locs ls ⟨hX, hK, had, hn0, how, hoL, q_okp (q_ok_ref (how i _ hw f rfl _ _ hj)) q_ok2 hos, hP, hD, hS, hls⟩
theorem g_aast {i n j : Nat} {vs : List Value} {f : Nat → Option Nat} {x : Int32} {w' : q_Wd} (hd : decode M.2.2.1 pc = .ok (.aastore, 1)) (hw : w[i]? = some (.inl (3, n, .inr (.inr (.inr (.inr f)))))) (hin : vp_in x n) (hj : w[j]? = some (.inr (1, vs))) (hw' : w.set i (.inl (3, n, .inr (.inr (.inr (.inr (va_up f x.toNatClampNeg (some j))))))) = w') (kk : Go l M n0 Q k (pc + 1) L st w') : Go l M n0 Q k pc L (.ref j :: .int x :: .ref i :: st) w := by
  subst hw'
  intro p e s m args below meth c D tc ad0 ad A H locs ls hI
  obtain ⟨hX, hK, had, hn0, how, hoL, hos, hP, hD, hS, hls⟩ := hI
  refine va_astq (f := fun j => (f j).map ad) (r := (RX1, TX1, 3)) hX.1 hX.2.1 hK hP hD hS i 3 j 1 (q_w_at hw) rfl (q_w_at hj) rfl hin hd (fun H1 locs1 hP1 hD1 hS1 => ?_)
  have he : (q_w tc ad w).set i (ad i, .inl (tc 3, n, .inr (.inr (.inr (.inr (va_up (fun j => (f j).map ad) x.toNatClampNeg (some (ad j)))))))) = q_w tc ad (w.set i (.inl (3, n, .inr (.inr (.inr (.inr (va_up f x.toNatClampNeg (some j)))))))) := by
    rw [← q_w_set]
    congr 1
    show (ad i, (Sum.inl (tc 3, n, .inr (.inr (.inr (.inr _)))) : va_E)) = (ad i, Sum.inl (tc 3, n, .inr (.inr (.inr (.inr (fun q => (va_up f x.toNatClampNeg (some j) q).map ad))))))
    congr 8
    funext q
    unfold va_up
    by_cases hq : q = x.toNatClampNeg <;> simp [hq]
  rw [he] at hP1 hD1
  have hjl : j < w.length := (List.getElem?_eq_some_iff.mp hj).1
  refine kk p e s m args below meth c D tc ad0 ad A H1 locs1 ls ⟨hX, hK, had, by rw [List.length_set]; exact hn0, q_okw_set how ?_, by rw [List.length_set]; exact hoL, ?_, hP1, hD1, hS1, hls⟩
  · intro g eg q z hq
    cases eg
    unfold va_up at hq
    by_cases h : q = x.toNatClampNeg
    · simp [h] at hq
      exact hq ▸ hjl
    · simp [h] at hq
      exact how i _ hw f rfl q z hq
  · rw [List.length_set]
    exact fun u hu => hos u (List.mem_cons_of_mem _ (List.mem_cons_of_mem _ (List.mem_cons_of_mem _ hu)))
/-! new cells -/
def q_ext (ad : Nat → Nat) (n q : Nat) : Nat → Nat := fun i => if i = n then q else ad i
theorem q_ext_lt {ad : Nat → Nat} {n q i : Nat} (h : i < n) : q_ext ad n q i = ad i := if_neg (by omega)
theorem q_ext_eq {ad : Nat → Nat} {n q : Nat} : q_ext ad n q n = q := if_pos rfl
theorem q_map_ext {ad : Nat → Nat} {n q : Nat} {st : List Value} (h : ∀ v ∈ st, q_ok n v) : st.map (q_v (q_ext ad n q)) = st.map (q_v ad) :=
  List.map_congr_left (fun v hv => q_v_same (fun i hi => q_ext_lt hi) (h v hv))
theorem q_L_ext {ad : Nat → Nat} {n q nL : Nat} {ls : Array Slot} {L : q_Ls} (h : q_L ad ls nL L) (ho : q_okL n L) : q_L (q_ext ad n q) ls nL L :=
  ⟨h.1, h.2.1, fun i v hv => by rw [q_v_same (fun i hi => q_ext_lt hi) (ho i v hv)]; exact h.2.2 i v hv⟩
/-- a cell is pushed: the state behind it -/
theorem q_pushI {p : Program} {s : State} {m : MethodId} {args : Array Value} {meth : Method} {c : Code} {D : va_G} {tc : Nat → ClassId} {ad0 ad : Nat → Nat} {A : Nat → Prop} {H H1 : Heap} {locs : List Loc} {ls : Array Slot} {q : Nat} {cel : q_Cel} {st0 st1 : List Value}
    (hI : q_I M n0 L st0 w p s m args meth c D tc ad0 ad A H locs ls) (hst : ∀ v ∈ st1, v ∈ st0) (hc : q_okc w.length cel) (hP : va_P D vwCl (q_w tc ad w ++ [(q, q_c tc ad cel)]) H1) (hD : va_D A (q_w tc ad w ++ [(q, q_c tc ad cel)])) (hS : va_S A s.heap H1 locs) :
    q_I M n0 L (.ref w.length :: st1) (w ++ [cel]) p s m args meth c D tc ad0 (q_ext ad w.length q) A H1 locs ls ∧ (.ref q :: st1.map (q_v ad) : List Value) = (.ref w.length :: st1 : List Value).map (q_v (q_ext ad w.length q)) := by
  obtain ⟨hX, hK, had, hn0, how, hoL, hos, -, -, -, hls⟩ := hI
  have e1 : q_w tc (q_ext ad w.length q) (w ++ [cel]) = q_w tc ad w ++ [(q, q_c tc ad cel)] := by
    rw [q_w_push, q_ext_eq, q_w_same (ad := ad) (fun i hi => q_ext_lt hi) how, q_c_same (fun i hi => q_ext_lt hi) hc]
  have hl : (w ++ [cel]).length = w.length + 1 := by simp
  refine ⟨⟨hX, hK, fun i hi => (q_ext_lt (by omega)).trans (had i hi), by rw [hl]; omega, q_okw_push how (hc.mono (by omega)), by rw [hl]; exact hoL.mono (by omega), ?_, by rw [e1]; exact hP, by rw [e1]; exact hD, hS, q_L_ext hls hoL⟩, ?_⟩
  · rw [hl]
    intro v hv
    rcases List.mem_cons.mp hv with rfl | hv
    · exact q_ok_ref (by omega)
    · exact (hos v (hst v hv)).mono (by omega)
  · show _ = q_v (q_ext ad w.length q) (.ref w.length) :: st1.map (q_v (q_ext ad w.length q))
    rw [q_map_ext (fun v hv => hos v (hst v hv))]
    show _ = Value.ref (q_ext ad w.length q w.length) :: _
    rw [q_ext_eq]
theorem g_new {cp ci N : Nat} {fs : List Value} (hd : decode M.2.2.1 pc = .ok (.new cp, 3)) (hn : q_NW M.2.1.cls cp ci N fs) (hc : k.1 + 1 ≤ M.1.cells) (hs : k.2 + N ≤ M.1.slots) (kk : Go l M n0 Q (k.1 + 1, k.2 + N) (pc + 3) L (.ref w.length :: st) (w ++ [.inr (ci, fs)])) : Go l M n0 Q k pc L st w := by
  intro p e s m args below meth c D tc ad0 ad A H locs ls hI
  obtain ⟨hX, hK, had, hn0, how, hoL, hos, hP, hD, hS, hls⟩ := id hI
  obtain ⟨C, T, ty, h1, h2, h3, h4, h5, h6, h7, h8⟩ := hn
  have hfs : fs.map (q_v ad) = fs := by
    rw [List.map_congr_left (g := id) (fun v hv => ?_), List.map_id]
    rcases h8 v hv with rfl | ⟨x, rfl⟩ | ⟨x, rfl⟩ <;> rfl
  refine va_new (Ts := q_tb) hX.1 hX.2.1 hX.2.2.2.2.1 h2 ty h3 hX.2.2.2.1 (hX.2.2.2.2.1 _ h4) (hX.2.2.2.2.1 _ h5) (hX.2.2.2.2.1 _ h6) hK hP hD hS hX.2.2.2.2.2.2.2.2.1 h1 h7 hc hs hd (fun q H1 hP1 hD1 hS1 => ?_)
  have hcel : q_c tc ad (.inr (ci, fs)) = .inr (ci, fs) := by
    show Sum.inr (ci, fs.map (q_v ad)) = _
    rw [hfs]
  obtain ⟨hI2, he⟩ := q_pushI (st1 := st) (cel := .inr (ci, fs)) (q := q) (H1 := H1) hI (fun _ z => z) (fun v hv => by rcases h8 v hv with rfl | ⟨x, rfl⟩ | ⟨x, rfl⟩ <;> exact fun i e => by cases e) (by rw [hcel]; exact hP1) (by rw [hcel]; exact hD1) hS1
  rw [he]
  exact kk p e s m args below meth c D tc ad0 _ A H1 locs ls hI2
theorem q_RA {D : va_G} {tc : Nat → ClassId} {s : State} {t : Nat} {ty : FieldType} {cA : ClassId} (hK : q_K D tc s) (ht : (q_tys tc)[t]? = some (tc t, ty)) (h : va_K D vwCl (q_tys tc ++ [(cA, ty)]) s) : cA = tc t := by
  have h1 := (h.2 4 (cA, ty) rfl).2
  have h2 := (hK.2 t _ ht).2
  cases ty with
  | object C =>
    obtain ⟨-, -, -, -, -, e1⟩ := h1
    obtain ⟨-, -, -, -, -, e2⟩ := h2
    exact Option.some.inj (e1.symm.trans e2)
  | _ => exact Option.some.inj (h1.symm.trans h2)
theorem g_newi {n : Int32} {N : Nat} (hd : decode M.2.2.1 pc = .ok (.newarray .int, 2)) (hn : ¬ n < 0) (hN : n.toNatClampNeg = N) (hb : N * 4 ≤ 536870912) (hc : k.1 + 1 ≤ M.1.cells) (hs : k.2 + N ≤ M.1.slots) (kk : Go l M n0 Q (k.1 + 1, k.2 + N) (pc + 2) L (.ref w.length :: st) (w ++ [.inl (0, N, .inl (fun _ => 0))])) : Go l M n0 Q k pc L (.int n :: st) w := by
  intro p e s m args below meth c D tc ad0 ad A H locs ls hI
  obtain ⟨hX, hK, had, hn0, how, hoL, hos, hP, hD, hS, hls⟩ := id hI
  refine va_newa (atype := .int) (ty := .int) (a0 := (N, .inl (fun _ => 0))) hX.1 hX.2.1 (hX.2.2.2.2.1 (.arrayClass .int) (q_in 129 (by decide +kernel) rfl)) rfl hK hP hD hS hX.2.2.2.2.2.2.2.2.1 (fun cA => rfl) hn hN hb hc hs hd (fun q cA H1 hK1 hP1 hD1 hS1 => ?_)
  have hcA : cA = tc 0 := q_RA (t := 0) hK rfl hK1
  subst hcA
  obtain ⟨hI2, he⟩ := q_pushI (st1 := st) (cel := .inl (0, N, .inl (fun _ => 0))) (q := q) (H1 := H1) hI (fun _ z => List.mem_cons_of_mem _ z) q_okc_i hP1 hD1 hS1
  show W p l e M.1 s m args below meth c H1 locs (k.1 + 1) (k.2 + N) _ (F0 m (pc + 2) ls (.ref q :: st.map (q_v ad)))
  rw [he]
  exact kk p e s m args below meth c D tc ad0 _ A H1 locs ls hI2
theorem g_newb {n : Int32} {N : Nat} (hd : decode M.2.2.1 pc = .ok (.newarray .byte, 2)) (hn : ¬ n < 0) (hN : n.toNatClampNeg = N) (hb : N * 1 ≤ 536870912) (hc : k.1 + 1 ≤ M.1.cells) (hs : k.2 + N ≤ M.1.slots) (kk : Go l M n0 Q (k.1 + 1, k.2 + N) (pc + 2) L (.ref w.length :: st) (w ++ [.inl (1, N, .inl (fun _ => 0))])) : Go l M n0 Q k pc L (.int n :: st) w := by
  intro p e s m args below meth c D tc ad0 ad A H locs ls hI
  obtain ⟨hX, hK, had, hn0, how, hoL, hos, hP, hD, hS, hls⟩ := id hI
  refine va_newa (atype := .byte) (ty := .byte) (a0 := (N, .inl (fun _ => 0))) hX.1 hX.2.1 (hX.2.2.2.2.1 (.arrayClass .byte) (q_in 955 (by decide +kernel) rfl)) rfl hK hP hD hS hX.2.2.2.2.2.2.2.2.1 (fun cA => rfl) hn hN hb hc hs hd (fun q cA H1 hK1 hP1 hD1 hS1 => ?_)
  have hcA : cA = tc 1 := q_RA (t := 1) hK rfl hK1
  subst hcA
  obtain ⟨hI2, he⟩ := q_pushI (st1 := st) (cel := .inl (1, N, .inl (fun _ => 0))) (q := q) (H1 := H1) hI (fun _ z => List.mem_cons_of_mem _ z) q_okc_i hP1 hD1 hS1
  show W p l e M.1 s m args below meth c H1 locs (k.1 + 1) (k.2 + N) _ (F0 m (pc + 2) ls (.ref q :: st.map (q_v ad)))
  rw [he]
  exact kk p e s m args below meth c D tc ad0 _ A H1 locs ls hI2
theorem g_newz {n : Int32} {N : Nat} (hd : decode M.2.2.1 pc = .ok (.newarray .boolean, 2)) (hn : ¬ n < 0) (hN : n.toNatClampNeg = N) (hb : N * 1 ≤ 536870912) (hc : k.1 + 1 ≤ M.1.cells) (hs : k.2 + N ≤ M.1.slots) (kk : Go l M n0 Q (k.1 + 1, k.2 + N) (pc + 2) L (.ref w.length :: st) (w ++ [.inl (2, N, .inl (fun _ => 0))])) : Go l M n0 Q k pc L (.int n :: st) w := by
  intro p e s m args below meth c D tc ad0 ad A H locs ls hI
  obtain ⟨hX, hK, had, hn0, how, hoL, hos, hP, hD, hS, hls⟩ := id hI
  refine va_newa (atype := .boolean) (ty := .boolean) (a0 := (N, .inl (fun _ => 0))) hX.1 hX.2.1 (hX.2.2.2.2.1 (.arrayClass .boolean) (q_in 956 (by decide +kernel) rfl)) rfl hK hP hD hS hX.2.2.2.2.2.2.2.2.1 (fun cA => rfl) hn hN hb hc hs hd (fun q cA H1 hK1 hP1 hD1 hS1 => ?_)
  have hcA : cA = tc 2 := q_RA (t := 2) hK rfl hK1
  subst hcA
  obtain ⟨hI2, he⟩ := q_pushI (st1 := st) (cel := .inl (2, N, .inl (fun _ => 0))) (q := q) (H1 := H1) hI (fun _ z => List.mem_cons_of_mem _ z) q_okc_i hP1 hD1 hS1
  show W p l e M.1 s m args below meth c H1 locs (k.1 + 1) (k.2 + N) _ (F0 m (pc + 2) ls (.ref q :: st.map (q_v ad)))
  rw [he]
  exact kk p e s m args below meth c D tc ad0 _ A H1 locs ls hI2
theorem g_newq {cp : Nat} {n : Int32} {N : Nat} (hd : decode M.2.2.1 pc = .ok (.anewarray cp, 3)) (hl : Cond.classLink M.2.1.cls cp "AheadRows$Cycle" ∈ q_tb) (hn : ¬ n < 0) (hN : n.toNatClampNeg = N) (hb : N * 4 ≤ 536870912) (hc : k.1 + 1 ≤ M.1.cells) (hs : k.2 + N ≤ M.1.slots) (kk : Go l M n0 Q (k.1 + 1, k.2 + N) (pc + 3) L (.ref w.length :: st) (w ++ [.inl (3, N, .inr (.inr (.inr (.inr (fun _ => none)))))])) : Go l M n0 Q k pc L (.int n :: st) w := by
  intro p e s m args below meth c D tc ad0 ad A H locs ls hI
  obtain ⟨hX, hK, had, hn0, how, hoL, hos, hP, hD, hS, hls⟩ := id hI
  refine va_newq (C := "AheadRows$Cycle") hX.1 hX.2.1 hX.2.2.2.1 (hX.2.2.2.2.1 _ hl) hX.2.2.2.2.2.2.2.2.2.2.2 hK hP hD hS hX.2.2.2.2.2.2.2.2.1 hn hN hb hc hs hd (fun q cA H1 hK1 hP1 hD1 hS1 => ?_)
  have hcA : cA = tc 3 := q_RA (t := 3) hK rfl hK1
  subst hcA
  obtain ⟨hI2, he⟩ := q_pushI (st1 := st) (cel := .inl (3, N, .inr (.inr (.inr (.inr (fun _ => none)))))) (q := q) (H1 := H1) hI (fun _ z => List.mem_cons_of_mem _ z) (fun g eg j i hg => by cases eg; cases hg) hP1 hD1 hS1
  show W p l e M.1 s m args below meth c H1 locs (k.1 + 1) (k.2 + N) _ (F0 m (pc + 3) ls (.ref q :: st.map (q_v ad)))
  rw [he]
  exact kk p e s m args below meth c D tc ad0 _ A H1 locs ls hI2
end G3
end
section
def q_ws (M : q_M) : List Cond := .code M.2.1 M.2.2.1 M.2.2.2.1 M.2.2.2.2 :: q_tb
def q_Pre (D : va_G) (tc : Nat → ClassId) (ad : Nat → Nat) (sz : Nat) (w : q_Wd) (U : State) : Prop := U.heap.size = sz ∧ va_P D vwCl (q_w tc ad w) U.heap ∧ q_K D tc U ∧ va_D (fun _ => True) (q_w tc ad w) ∧ q_S (va_A (q_w tc ad w) sz) U ∧ q_N U
/-- a method's contract -/
def Ct (l : Launch) (M : q_M) (as : List Value) (w : q_Wd) (Q : q_P) : Prop :=
  ∀ (D : va_G) (tc : Nat → ClassId) (ad : Nat → Nat) (sz : Nat), q_okw w → (∀ v ∈ as, q_ok w.length v) → Met l M.2.1 (q_ws M) M.1 (va_Pc (as.map (q_v ad)) (q_Pre D tc ad sz w)) (q_Q D tc ad w.length (va_A (q_w tc ad w) sz) Q) M.1.cells M.1.slots (va_A (q_w tc ad w) sz)
def q_ent : List Value → Nat → q_Ls
  | [], n => List.replicate n none
  | v :: t, n => if v.category = 2 then some v :: none :: q_ent t (n - 2) else some v :: q_ent t (n - 1)
theorem q_ent_in : ∀ (as : List Value) (n b i : Nat) (v : Value) (ad : Nat → Nat), (q_ent as n)[i]? = some (some v) → (b + i, q_v ad v) ∈ lv_args b (as.map (q_v ad)) ∧ v ∈ as
  | [], n, b, i, v, ad, h => by
    simp only [q_ent, List.getElem?_replicate] at h
    split at h <;> simp at h
  | a :: t, n, b, i, v, ad, h => by
    simp only [q_ent] at h
    simp only [List.map_cons, lv_args, q_cat]
    by_cases hc : a.category = 2
    · rw [if_pos hc] at h ⊢
      match i, h with
      | 0, h =>
        simp at h
        subst h
        exact ⟨List.mem_cons_self, List.mem_cons_self⟩
      | 1, h => simp at h
      | i + 2, h =>
        simp only [List.getElem?_cons_succ] at h
        obtain ⟨h1, h2⟩ := q_ent_in t _ (b + 2) i v ad h
        exact ⟨List.mem_cons_of_mem _ (by rw [show b + (i + 2) = b + 2 + i by omega]; exact h1), List.mem_cons_of_mem _ h2⟩
    · rw [if_neg hc] at h ⊢
      match i, h with
      | 0, h =>
        simp at h
        subst h
        exact ⟨List.mem_cons_self, List.mem_cons_self⟩
      | i + 1, h =>
        simp only [List.getElem?_cons_succ] at h
        obtain ⟨h1, h2⟩ := q_ent_in t _ (b + 1) i v ad h
        exact ⟨List.mem_cons_of_mem _ (by rw [show b + (i + 1) = b + 1 + i by omega]; exact h1), List.mem_cons_of_mem _ h2⟩
theorem q_sl_len (ad : Nat → Nat) : ∀ as : List Value, (lg_sl (as.map (q_v ad))).length = (as.map fun v => v.category).sum
  | [] => rfl
  | v :: t => by
    have ih := q_sl_len ad t
    simp only [lg_sl, List.map_cons, List.flatMap_cons, List.length_append, List.sum_cons, q_cat] at ih ⊢
    rw [ih]
    rcases lv_cat v with h | h <;> simp [h]
theorem Ct.of {l : Launch} {M : q_M} {as : List Value} {w : q_Wd} {Q : q_P} (hpl : plainName M.2.1.cls = true) (hlen : (as.map fun v => v.category).sum ≤ M.2.2.2.1) (h : Go l M w.length Q (0, 0) 0 (q_ent as M.2.2.2.1) [] w) : Ct l M as w Q := by
  intro D tc ad sz how hoa
  refine Met.ofW (cc := M.2.2.1) (maxL := M.2.2.2.1) (ret := M.2.2.2.2) hpl rfl ?_
  intro p e s m args below meth c s₁ B hml hv
  obtain ⟨rfl, hsz, hP, hK, hD0, hSt, hN⟩ := hv
  have hts0 := atoms_spec (ws := q_ws M) B.pre
  have hts : ∀ w ∈ q_tb, w.before (as.map (q_v ad)).toArray s = true := fun w h => hts0 w (List.mem_cons_of_mem _ h)
  have hown : s.vm.findClass M.2.1.cls = some m.cls := findClass_of_methodNamed B.named
  subst hsz
  have hD := hD0.self (sz := s.heap.size)
  have hl := lv_entry (as.map (q_v ad)) (n := M.2.2.2.1) (by rw [q_sl_len]; exact hlen)
  rw [lg_entry_eq]
  refine h p e s m _ below meth c D tc ad ad _ s.heap [] _ ⟨⟨B.exec, B.bytes, hml, hown, hts, B.returns, B.notSynchronized, (name_of_methodNamed B.named B.method).1, fun q h => Or.inr h, hSt, hN⟩, hK, fun _ _ => rfl, Nat.le_refl _, how, ?_, (fun v hv => by cases hv), hP, hD, va_S.rf, hl.1, hl.2.1, ?_⟩
  · exact fun i v hi => hoa v (q_ent_in as _ 0 i v ad hi).2
  · intro i v hi
    have h1 := (q_ent_in as _ 0 i v ad hi).1
    rw [Nat.zero_add] at h1
    exact hl.2.2 _ h1
theorem Ct.mono {l : Launch} {M : q_M} {as : List Value} {w : q_Wd} {Q Q' : q_P} (h : Ct l M as w Q) (hq : ∀ r w', Q r w' → Q' r w') : Ct l M as w Q' := by
  intro D tc ad sz how hoa p e ha hc hk s m args below hf happ hP hT
  obtain ⟨k, o, h1, h2, h3, ⟨⟨⟨ad1, r, w1, hQ, hr⟩, hF⟩, hL⟩⟩ := h D tc ad sz how hoa p e ha hc hk s m args below hf happ hP hT
  exact ⟨k, o, h1, h2, h3, ⟨⟨ad1, r, w1, hq r w1 hQ, hr⟩, hF⟩, hL⟩
section G4
variable {l : Launch} {M : q_M} {n0 : Nat} {Q : q_P} {k : Nat × Nat} {pc : Nat} {L : q_Ls} {st : List Value} {w : q_Wd}
theorem q_ret {p : Program} {s : State} {m : MethodId} {args : Array Value} {meth : Method} {c : Code} {D : va_G} {tc : Nat → ClassId} {ad0 ad : Nat → Nat} {A : Nat → Prop} {H : Heap} {locs : List Loc} {ls : Array Slot} {r : Option Value}
    (hI : q_I M n0 L r.toList w p s m args meth c D tc ad0 ad A H locs ls) (hq : Q r w) (t : State) (ht : t.heap = H) (hW : s.WarmedH t.vm) : q_Q D tc ad0 n0 A Q args s (.returned (r.map (q_v ad))) t := by
  obtain ⟨hX, hK, had, hn0, how, hoL, hos, hP, hD, hS, hls⟩ := hI
  exact ⟨⟨ad, r, w, hq, rfl, had, hn0, how, fun v hv => hos v (by rw [hv]; exact List.mem_cons_self), by rw [ht]; exact hP, va_K.moved hW.alike hK, hD⟩, hS.F ht⟩
theorem g_iret {v : Int32} (hd : decode M.2.2.1 pc = .ok (.ireturn, 1)) (hr : M.2.2.2.2 = some .int) (hk : k = (M.1.cells, M.1.slots)) (hq : Q (some (.int v)) w) : Go l M n0 Q k pc L [.int v] w := by
  intro p e s m args below meth c D tc ad0 ad A H locs ls hI
  subst hk
  exact W.iret (v := v) hI.1.1 hI.1.2.1 (hI.1.2.2.2.2.2.1.trans hr) (fun t ht hW => q_ret (r := some (.int v)) hI hq t ht hW) hI.2.2.2.2.2.2.2.2.2.1.2.2 hd hI.1.2.2.2.2.2.2.1
theorem g_zret {v : Int32} (hd : decode M.2.2.1 pc = .ok (.ireturn, 1)) (hr : M.2.2.2.2 = some .boolean) (hk : k = (M.1.cells, M.1.slots)) (hv : v &&& 1 = v) (hq : Q (some (.int v)) w) : Go l M n0 Q k pc L [.int v] w := by
  intro p e s m args below meth c D tc ad0 ad A H locs ls hI
  subst hk
  exact W.zret (v := v) hI.1.1 hI.1.2.1 (hI.1.2.2.2.2.2.1.trans hr) (show Value.int (v &&& 1) = .int v by rw [hv]) (fun t ht hW => q_ret (r := some (.int v)) hI hq t ht hW) hI.2.2.2.2.2.2.2.2.2.1.2.2 hd hI.1.2.2.2.2.2.2.1
theorem g_lret {v : Int64} (hd : decode M.2.2.1 pc = .ok (.lreturn, 1)) (hr : M.2.2.2.2 = some .long) (hk : k = (M.1.cells, M.1.slots)) (hq : Q (some (.long v)) w) : Go l M n0 Q k pc L [.long v] w := by
  intro p e s m args below meth c D tc ad0 ad A H locs ls hI
  subst hk
  exact W.lret (v := v) hI.1.1 hI.1.2.1 (hI.1.2.2.2.2.2.1.trans hr) (fun t ht hW => q_ret (r := some (.long v)) hI hq t ht hW) hI.2.2.2.2.2.2.2.2.2.1.2.2 hd hI.1.2.2.2.2.2.2.1
theorem g_aret {v : Nat} {C : String} (hd : decode M.2.2.1 pc = .ok (.areturn, 1)) (hr : M.2.2.2.2 = some (.object C)) (hk : k = (M.1.cells, M.1.slots)) (hq : Q (some (.ref v)) w) : Go l M n0 Q k pc L [.ref v] w := by
  intro p e s m args below meth c D tc ad0 ad A H locs ls hI
  subst hk
  exact W.aret (v := .ref (ad v)) hI.1.1 hI.1.2.1 (hI.1.2.2.2.2.2.1.trans hr) (Or.inl ⟨C, rfl⟩) (Or.inr ⟨_, rfl⟩) (fun t ht hW => q_ret (r := some (.ref v)) hI hq t ht hW) hI.2.2.2.2.2.2.2.2.2.1.2.2 hd hI.1.2.2.2.2.2.2.1
theorem g_vret (hd : decode M.2.2.1 pc = .ok (.return_, 1)) (hr : M.2.2.2.2 = none) (hk : k = (M.1.cells, M.1.slots)) (hq : Q none w) : Go l M n0 Q k pc L [] w := by
  intro p e s m args below meth c D tc ad0 ad A H locs ls hI
  subst hk
  exact W.vret hI.1.1 hI.1.2.1 (hI.1.2.2.2.2.2.1.trans hr) (fun t ht hW => q_ret (r := none) hI hq t ht hW) hI.2.2.2.2.2.2.2.2.2.1.2.2 hd hI.1.2.2.2.2.2.2.1
theorem g_ldc {cp : Nat} {v : Int32} (hd : decode M.2.2.1 pc = .ok (.ldc cp, 2)) (hc : Cond.constant M.2.1.cls cp v ∈ q_tb) (kk : Go l M n0 Q k (pc + 2) L (.int v :: st) w) : Go l M n0 Q k pc L st w := by
  intro p e s m args below meth c D tc ad0 ad A H locs ls hI
  obtain ⟨hX, hK, had, hn0, how, hoL, hos, hP, hD, hS, hls⟩ := hI
  exact lv_ldc hX.1 hX.2.1 hX.2.2.2.1 (hX.2.2.2.2.1 _ hc) hd (kk p e s m args below meth c D tc ad0 ad A H locs ls ⟨hX, hK, had, hn0, how, hoL, q_okp q_ok_int (fun _ z => z) hos, hP, hD, hS, hls⟩)
theorem g_ldcw {cp : Nat} {v : Int32} (hd : decode M.2.2.1 pc = .ok (.ldc_w cp, 3)) (hc : Cond.constant M.2.1.cls cp v ∈ q_tb) (kk : Go l M n0 Q k (pc + 3) L (.int v :: st) w) : Go l M n0 Q k pc L st w := by
  intro p e s m args below meth c D tc ad0 ad A H locs ls hI
  obtain ⟨hX, hK, had, hn0, how, hoL, hos, hP, hD, hS, hls⟩ := hI
  exact lv_ldcw hX.1 hX.2.1 hX.2.2.2.1 (hX.2.2.2.2.1 _ hc) hd (kk p e s m args below meth c D tc ad0 ad A H locs ls ⟨hX, hK, had, hn0, how, hoL, q_okp q_ok_int (fun _ z => z) hos, hP, hD, hS, hls⟩)
theorem g_ldc2 {cp : Nat} {v : Int64} (hd : decode M.2.2.1 pc = .ok (.ldc2_w cp, 3)) (hc : Cond.constantLong M.2.1.cls cp v ∈ q_tb) (kk : Go l M n0 Q k (pc + 3) L (.long v :: st) w) : Go l M n0 Q k pc L st w := by
  intro p e s m args below meth c D tc ad0 ad A H locs ls hI
  obtain ⟨hX, hK, had, hn0, how, hoL, hos, hP, hD, hS, hls⟩ := hI
  exact lv_ldc2 hX.1 hX.2.1 hX.2.2.2.1 (hX.2.2.2.2.1 _ hc) hd (kk p e s m args below meth c D tc ad0 ad A H locs ls ⟨hX, hK, had, hn0, how, hoL, q_okp q_ok_long (fun _ z => z) hos, hP, hD, hS, hls⟩)
/-! calls -/
def q_LB (M M' : q_M) (n : Nat) : Prop := Cond.code M'.2.1 M'.2.2.1 M'.2.2.2.1 M'.2.2.2.2 ∈ q_tb ∧ Cond.initialized M'.2.1.cls ∈ q_tb ∧ (M'.2.1.cls ≠ "java/lang/invoke/MethodHandle" ∧ M'.2.1.cls ≠ "java/lang/invoke/VarHandle" ∧ (parseMethodDescriptor M'.2.1.desc).map (fun d => d.parameters.length) = some n) ∧ M'.1.frames + 1 ≤ M.1.frames ∧ 8 + (M'.2.2.2.1 + 11) + M'.1.locals ≤ M.1.locals
def q_LV (M M' : q_M) (cp n : Nat) : Prop := q_LB M M' n ∧ Cond.methodLink M.2.1.cls cp M'.2.1 ∈ q_tb ∧ Cond.instanceMethod M'.2.1 ∈ q_tb ∧ Cond.selects M'.2.1.cls M'.2.1 M'.2.1 ∈ q_tb
def q_LS (M M' : q_M) (cp n : Nat) : Prop := q_LB M M' n ∧ Cond.methodLink M.2.1.cls cp M'.2.1 ∈ q_tb ∧ Cond.static M'.2.1 ∈ q_tb
def q_LI (M M' : q_M) (cp n : Nat) : Prop := q_LB M M' n ∧ Cond.methodLink M.2.1.cls cp M'.2.1 ∈ q_tb ∧ M'.2.1.name = "<init>" ∧ Cond.instanceMethod M'.2.1 ∈ q_tb ∧ M'.2.2.2.2 = none
def q_LSN (M M' : q_M) (cp n : Nat) : Prop := q_LB M M' n ∧ Cond.methodLinkNest M.2.1.cls cp M'.2.1 RX10 ∈ q_nst ∧ Cond.static M'.2.1 ∈ q_tb
def q_LIN (M M' : q_M) (cp n : Nat) : Prop := q_LB M M' n ∧ Cond.methodLinkNest M.2.1.cls cp M'.2.1 RX10 ∈ q_nst ∧ M'.2.1.name = "<init>" ∧ Cond.instanceMethod M'.2.1 ∈ q_tb ∧ M'.2.2.2.2 = none
theorem q_good {M' : q_M} (h : Cond.code M'.2.1 M'.2.2.1 M'.2.2.2.1 M'.2.2.2.2 ∈ q_tb) : GoodIn q_tb (q_ws M') := by
  intro w hw
  rcases List.mem_cons.mp hw with rfl | hw
  · exact ⟨h, good_of_word (List.mem_filter.mp h).2⟩
  · exact ⟨hw, good_of_word (List.mem_filter.mp hw).2⟩
theorem q_S.moved {A : Nat → Prop} {u U : State} (hvm : u.vm.Alike U.vm) (hh : U.heap = u.heap) (h : q_S A u) : q_S A U := by
  obtain ⟨t, h1, h2⟩ := h
  exact ⟨t, by rw [hh]; exact h1.moved hvm, by rw [hh]; exact h2.moved hvm⟩
theorem q_N.warm {s U : State} (hW : s.WarmedH U.vm) (h : q_N s) : q_N U := by
  refine ⟨fun w hw => ?_, h.2.moved hW.alike⟩
  have h1 := h.1 w hw
  simp only [q_nst, List.mem_cons, List.not_mem_nil, or_false] at hw
  rcases hw with rfl | rfl | rfl | rfl | rfl | rfl | rfl | rfl | rfl | rfl <;> exact h1.warmM hW
theorem q_N.same {u U : State} (hv : u.vm = U.vm) (h : q_N u) : q_N U := by
  refine ⟨fun w hw => ?_, ?_⟩
  · have h1 := h.1 w hw
    simp only [q_nst, List.mem_cons, List.not_mem_nil, or_false] at hw
    rcases hw with rfl | rfl | rfl | rfl | rfl | rfl | rfl | rfl | rfl | rfl <;> exact h1.same rfl hv
  · exact h.2.moved (by rw [hv]; exact Vm.Alike.refl _)
/-- the callee's start, at a call -/
theorem q_start {as : List Value} {p : Program} {s : State} {m : MethodId} {args : Array Value} {meth : Method} {c : Code} {D : va_G} {tc : Nat → ClassId} {ad0 ad : Nat → Nat} {A : Nat → Prop} {H : Heap} {locs : List Loc} {ls : Array Slot} {S : List Value}
    (hI : q_I M n0 L S w p s m args meth c D tc ad0 ad A H locs ls) : FrameBlind (va_Pc as (q_Pre D tc ad H.size w)) ∧ ∀ U : State, U.heap = H → s.WarmedH U.vm → q_Pre D tc ad H.size w U := by
  obtain ⟨hX, hK, had, hn0, how, hoL, hos, hP, hD, hS, hls⟩ := hI
  constructor
  · intro a U g mk q
    obtain ⟨q0, q1, q2, q3, q4, q5, q6⟩ := q
    exact ⟨q0, q1, q2, va_K.moved (u := U) (U := U.calling g mk a) (Vm.Alike.refl U.vm) q3, q4, q_S.moved (u := U) (U := U.calling g mk a) (Vm.Alike.refl U.vm) rfl q5, q_N.same (u := U) (U := U.calling g mk a) rfl q6⟩
  · intro U hU hW
    refine ⟨by rw [hU], by rw [hU]; exact hP, va_K.moved hW.alike hK, hD.weaken (fun _ _ _ _ => trivial), ?_, q_N.warm hW hX.2.2.2.2.2.2.2.2.2.2⟩
    obtain ⟨t, h1, h2⟩ := hX.2.2.2.2.2.2.2.2.2.1
    have hAB : ∀ q, va_A (q_w tc ad w) H.size q → A q := by
      intro q hq
      rcases hq with ⟨i, e, hi⟩ | hq
      · exact hD.2 i _ hi
      · exact hX.2.2.2.2.2.2.2.2.1 q (Nat.le_trans hS.1 hq)
    exact ⟨t, by rw [hU]; exact ((h1.kept hS.2.1).narrow hAB).moved hW.alike, by rw [hU]; exact ((h2.kept hS.2.1).narrow hAB).moved hW.alike⟩
/-- behind a call -/
theorem q_back {M' : q_M} {st : List Value} {Q' : q_P} {p : Program} {e : Env} {s : State} {m : MethodId} {args : Array Value} {below : List Frame} {meth : Method} {c : Code} {D : va_G} {tc : Nat → ClassId} {ad0 ad : Nat → Nat} {A : Nat → Prop} {H : Heap} {locs : List Loc} {ls : Array Slot} {S : List Value} {st0 : List Value} {a : Array Value}
    (hI : q_I M n0 L S w p s m args meth c D tc ad0 ad A H locs ls) (hst : ∀ v ∈ st, v ∈ S)
    (hr : va_Run p l e M.1 s m args below meth c H locs k.1 k.2 M'.1.cells M'.1.slots (F0 m pc ls st0) (st.map (q_v ad)) (q_Q D tc ad w.length (va_A (q_w tc ad w) H.size) Q' a) (va_A (q_w tc ad w) H.size))
    (kk : ∀ r w1, Q' r w1 → Go l M n0 Q (k.1 + M'.1.cells, k.2 + M'.1.slots) (pc + 3) L (r.toList ++ st) w1) :
    W p l e M.1 s m args below meth c H locs k.1 k.2 (MQ below (q_Q D tc ad0 n0 A Q) args s M.1.cells M.1.slots A) (F0 m pc ls st0) := by
  obtain ⟨hX, hK, had, hn0, how, hoL, hos, hP, hD, hS, hls⟩ := hI
  intro T hT X
  obtain ⟨v, st₀, t, T', Lc, h0, X', hL, e1, e2, ⟨⟨ad1, r, w1, hQ, hv, h1, h2, h3, h4, hP1, hK1, hD1⟩, hz, hk⟩, stp⟩ := hr T hT X
  cases hv
  rw [h0] at hz hk
  have hAB : ∀ q, va_A (q_w tc ad w) H.size q → A q := by
    intro q hq
    rcases hq with ⟨i, e, hi⟩ | hq
    · exact hD.2 i _ hi
    · exact hX.2.2.2.2.2.2.2.2.1 q (Nat.le_trans hS.1 hq)
  have hS1 : va_S A s.heap T'.heap (locs ++ Lc) := by
    refine ⟨Nat.le_trans hS.1 (by rw [e1]; exact hz), fun q q1 q2 => ?_, fun q hq => ?_⟩
    · rw [e1, hk q (Nat.lt_of_lt_of_le q1 hS.1) (fun z => q2 (hAB q z))]
      exact hS.2.1 q q1 q2
    · rcases List.mem_append.mp hq with hq | hq
      · exact hS.2.2 q hq
      · exact hAB _ (hL q hq)
  have hmap : (r.map (q_v ad1)).toList ++ st.map (q_v ad) = (r.toList ++ st).map (q_v ad1) := by
    rw [List.map_append, List.map_congr_left (fun v hv => q_v_same h1 (hos v (hst v hv)))]
    cases r <;> rfl
  obtain ⟨t2, a1, b1⟩ := kk r w1 hQ p e s m args below meth c D tc ad0 ad1 A T'.heap (locs ++ Lc) ls ⟨hX, hK, fun i hi => (h1 i (Nat.lt_of_lt_of_le hi hn0)).trans (had i hi), Nat.le_trans hn0 h2, h3, hoL.mono h2, fun v hv => by
      rcases List.mem_append.mp hv with hv | hv
      · exact h4 v (Option.mem_toList.mp hv)
      · exact (hos v (hst v hv)).mono h2, by rw [e1]; exact hP1, hD1.weaken (fun _ _ _ z => hAB _ z), hS1, ⟨hls.1, hls.2.1, fun i v hi => by rw [q_v_same h1 (hoL i v hi)]; exact hls.2.2 i v hi⟩⟩ T' rfl X'
  refine ⟨t2, stp t2 ?_, b1⟩
  rw [← hmap] at a1
  exact a1
theorem q_map_rev {ad : Nat → Nat} {as st : List Value} : (as.reverse ++ st).map (q_v ad) = (as.map (q_v ad)).reverse ++ st.map (q_v ad) := by
  rw [List.map_append, List.map_reverse]
theorem g_callV {M' : q_M} {cp ci i n : Nat} {as : List Value} {fs : List Value} {Q' : q_P} {S : List Value} (hC : Ct l M' (.ref i :: as) w Q') (hl : q_LV M M' cp n) (hs : as.reverse ++ .ref i :: st = S) (hn : as.length = n) (hd : decode M.2.2.1 pc = .ok (.invokevirtual cp, 3)) (hw : w[i]? = some (.inr (ci, fs))) (hc : (vwCl[ci]?).map (fun q => q.1) = some M'.2.1.cls) (hst : (st.map fun v => v.category).sum ≤ 8) (hk : k.1 + M'.1.cells ≤ M.1.cells ∧ k.2 + M'.1.slots ≤ M.1.slots)
    (kk : ∀ r w1, Q' r w1 → Go l M n0 Q (k.1 + M'.1.cells, k.2 + M'.1.slots) (pc + 3) L (r.toList ++ st) w1) : Go l M n0 Q k pc L S w := by
  subst hs
  intro p e s m args below meth c D tc ad0 ad A H locs ls hI
  obtain ⟨hX, hK, had, hn0, how, hoL, hos, hP, hD, hS, hls⟩ := id hI
  obtain ⟨⟨l1, l2, l3, l4, l5⟩, l6, l7, l8⟩ := hl
  have hts := hX.2.2.2.2.1
  obtain ⟨hbl, hU⟩ := q_start (as := (.ref i :: as).map (q_v ad)) hI
  refine q_back (M' := M') (Q' := Q') (a := (Value.ref (ad i) :: as.map (q_v ad)).toArray) hI (fun v hv => List.mem_append_right _ (List.mem_cons_of_mem _ hv)) (va_runV (C := M'.2.1.cls) (b := ad i) (As := as.map (q_v ad)) (Ts := q_tb) (own := M.2.1.cls) ⟨hX.1, hX.2.1, hX.2.2.1, hX.2.2.2.1, hts⟩ (hC D tc ad H.size how (fun v hv => ?_)) ⟨callB_of n hts (q_good l1) rfl rfl rfl (hts _ l2) (hts _ l6) l3 ⟨l4, l5⟩, hts _ l7, hts _ l8⟩ ⟨hbl, ?_, fun U h1 h2 => ⟨rfl, hU U h1 h2⟩⟩ rfl (by rw [List.length_map]; exact hn) hls.1 ?_ (lv_room (by rw [q_cats]; exact hst)) hd hk) kk
  · rcases List.mem_cons.mp hv with rfl | hv
    · exact hos _ (List.mem_append_right _ List.mem_cons_self)
    · exact hos v (List.mem_append_left _ (List.mem_reverse.mpr hv))
  · obtain ⟨q, hq1, hq2⟩ := Option.map_eq_some_iff.mp hc
    obtain ⟨cell, c1, c2, c3⟩ := va_recv hK hP hq1 (q_w_at hw)
    exact ⟨cell, c1, c2, by rw [← hq2]; exact c3⟩
  · show (as.reverse ++ .ref i :: st).map (q_v ad) = _
    rw [q_map_rev]; rfl
theorem g_callS {M' : q_M} {cp n : Nat} {as : List Value} {Q' : q_P} {S : List Value} (hC : Ct l M' as w Q') (hl : q_LS M M' cp n) (hs : as.reverse ++ st = S) (hn : as.length = n) (hd : decode M.2.2.1 pc = .ok (.invokestatic cp, 3)) (hst : (st.map fun v => v.category).sum ≤ 8) (hk : k.1 + M'.1.cells ≤ M.1.cells ∧ k.2 + M'.1.slots ≤ M.1.slots)
    (kk : ∀ r w1, Q' r w1 → Go l M n0 Q (k.1 + M'.1.cells, k.2 + M'.1.slots) (pc + 3) L (r.toList ++ st) w1) : Go l M n0 Q k pc L S w := by
  subst hs
  intro p e s m args below meth c D tc ad0 ad A H locs ls hI
  obtain ⟨hX, hK, had, hn0, how, hoL, hos, hP, hD, hS, hls⟩ := id hI
  obtain ⟨⟨l1, l2, l3, l4, l5⟩, l6, l7⟩ := hl
  have hts := hX.2.2.2.2.1
  obtain ⟨hbl, hU⟩ := q_start (as := as.map (q_v ad)) hI
  refine q_back (M' := M') (Q' := Q') (a := (as.map (q_v ad)).toArray) hI (fun v hv => List.mem_append_right _ hv) (va_runS (As := as.map (q_v ad)) (Ts := q_tb) (own := M.2.1.cls) ⟨hX.1, hX.2.1, hX.2.2.1, hX.2.2.2.1, hts⟩ (hC D tc ad H.size how (fun v hv => hos v (List.mem_append_left _ (List.mem_reverse.mpr hv)))) ⟨callB_of n hts (q_good l1) rfl rfl rfl (hts _ l2) (hts _ l6) l3 ⟨l4, l5⟩, hts _ l7⟩ ⟨hbl, fun U h1 h2 => ⟨rfl, hU U h1 h2⟩⟩ rfl (by rw [List.length_map]; exact hn) hls.1 ?_ (lv_room (by rw [q_cats]; exact hst)) hd hk) kk
  show (as.reverse ++ st).map (q_v ad) = _
  rw [q_map_rev]
theorem g_callI {M' : q_M} {cp i n : Nat} {as : List Value} {Q' : q_P} {S : List Value} (hC : Ct l M' (.ref i :: as) w Q') (hl : q_LI M M' cp n) (hs : as.reverse ++ .ref i :: st = S) (hn : as.length = n) (hd : decode M.2.2.1 pc = .ok (.invokespecial cp, 3)) (hst : (st.map fun v => v.category).sum ≤ 8) (hk : k.1 + M'.1.cells ≤ M.1.cells ∧ k.2 + M'.1.slots ≤ M.1.slots)
    (kk : ∀ r w1, Q' r w1 → Go l M n0 Q (k.1 + M'.1.cells, k.2 + M'.1.slots) (pc + 3) L (r.toList ++ st) w1) : Go l M n0 Q k pc L S w := by
  subst hs
  intro p e s m args below meth c D tc ad0 ad A H locs ls hI
  obtain ⟨hX, hK, had, hn0, how, hoL, hos, hP, hD, hS, hls⟩ := id hI
  obtain ⟨⟨l1, l2, l3, l4, l5⟩, l6, l7, l8, l9⟩ := hl
  have hts := hX.2.2.2.2.1
  obtain ⟨hbl, hU⟩ := q_start (as := (.ref i :: as).map (q_v ad)) hI
  have hM := hC D tc ad H.size how (fun v hv => by
    rcases List.mem_cons.mp hv with rfl | hv
    · exact hos _ (List.mem_append_right _ List.mem_cons_self)
    · exact hos v (List.mem_append_left _ (List.mem_reverse.mpr hv)))
  refine q_back (M' := M') (Q' := Q') (a := (Value.ref (ad i) :: as.map (q_v ad)).toArray) hI (fun v hv => List.mem_append_right _ (List.mem_cons_of_mem _ hv)) (va_runI (b := ad i) (As := as.map (q_v ad)) (Ts := q_tb) (own := M.2.1.cls) ⟨hX.1, hX.2.1, hX.2.2.1, hX.2.2.2.1, hts⟩ hM ⟨callB_of (ws' := q_tb) n hts (q_good l1) (by rw [q_ws, l9]) rfl rfl (hts _ l2) (hts _ l6) l3 ⟨l4, l5⟩, l7, hts _ l8⟩ ⟨hbl, fun U h1 h2 => ⟨rfl, hU U h1 h2⟩⟩ rfl (by rw [List.length_map]; exact hn) hls.1 ?_ (lv_room (by rw [q_cats]; exact hst)) hd hk) kk
  show (as.reverse ++ .ref i :: st).map (q_v ad) = _
  rw [q_map_rev]; rfl
theorem g_callSN {M' : q_M} {cp n : Nat} {as : List Value} {Q' : q_P} {S : List Value} (hC : Ct l M' as w Q') (hl : q_LSN M M' cp n) (hs : as.reverse ++ st = S) (hn : as.length = n) (hd : decode M.2.2.1 pc = .ok (.invokestatic cp, 3)) (hst : (st.map fun v => v.category).sum ≤ 8) (hk : k.1 + M'.1.cells ≤ M.1.cells ∧ k.2 + M'.1.slots ≤ M.1.slots)
    (kk : ∀ r w1, Q' r w1 → Go l M n0 Q (k.1 + M'.1.cells, k.2 + M'.1.slots) (pc + 3) L (r.toList ++ st) w1) : Go l M n0 Q k pc L S w := by
  subst hs
  intro p e s m args below meth c D tc ad0 ad A H locs ls hI
  obtain ⟨hX, hK, had, hn0, how, hoL, hos, hP, hD, hS, hls⟩ := id hI
  obtain ⟨⟨l1, l2, l3, l4, l5⟩, l6, l7⟩ := hl
  have hts := hX.2.2.2.2.1
  obtain ⟨hbl, hU⟩ := q_start (as := as.map (q_v ad)) hI
  refine q_back (M' := M') (Q' := Q') (a := (as.map (q_v ad)).toArray) hI (fun v hv => List.mem_append_right _ hv) (va_runSN (host := RX10) (As := as.map (q_v ad)) (Ts := q_tb) (own := M.2.1.cls) ⟨hX.1, hX.2.1, hX.2.2.1, hX.2.2.2.1, hts⟩ (hC D tc ad H.size how (fun v hv => hos v (List.mem_append_left _ (List.mem_reverse.mpr hv)))) ⟨va_cnB n hts (q_good l1) rfl rfl rfl (hX.2.2.2.2.2.2.2.2.2.2.1 _ l6) (hts _ l2) l3 ⟨l4, l5⟩, hts _ l7, trivial⟩ ⟨hbl, fun U h1 h2 => ⟨rfl, hU U h1 h2⟩⟩ rfl (by rw [List.length_map]; exact hn) hls.1 ?_ (lv_room (by rw [q_cats]; exact hst)) hd hk) kk
  show (as.reverse ++ st).map (q_v ad) = _
  rw [q_map_rev]
theorem g_callIN {M' : q_M} {cp i n : Nat} {as : List Value} {Q' : q_P} {S : List Value} (hC : Ct l M' (.ref i :: as) w Q') (hl : q_LIN M M' cp n) (hs : as.reverse ++ .ref i :: st = S) (hn : as.length = n) (hd : decode M.2.2.1 pc = .ok (.invokespecial cp, 3)) (hst : (st.map fun v => v.category).sum ≤ 8) (hk : k.1 + M'.1.cells ≤ M.1.cells ∧ k.2 + M'.1.slots ≤ M.1.slots)
    (kk : ∀ r w1, Q' r w1 → Go l M n0 Q (k.1 + M'.1.cells, k.2 + M'.1.slots) (pc + 3) L (r.toList ++ st) w1) : Go l M n0 Q k pc L S w := by
  subst hs
  intro p e s m args below meth c D tc ad0 ad A H locs ls hI
  obtain ⟨hX, hK, had, hn0, how, hoL, hos, hP, hD, hS, hls⟩ := id hI
  obtain ⟨⟨l1, l2, l3, l4, l5⟩, l6, l7, l8, l9⟩ := hl
  have hts := hX.2.2.2.2.1
  obtain ⟨hbl, hU⟩ := q_start (as := (.ref i :: as).map (q_v ad)) hI
  have hM := hC D tc ad H.size how (fun v hv => by
    rcases List.mem_cons.mp hv with rfl | hv
    · exact hos _ (List.mem_append_right _ List.mem_cons_self)
    · exact hos v (List.mem_append_left _ (List.mem_reverse.mpr hv)))
  refine q_back (M' := M') (Q' := Q') (a := (Value.ref (ad i) :: as.map (q_v ad)).toArray) hI (fun v hv => List.mem_append_right _ (List.mem_cons_of_mem _ hv)) (va_runIN (host := RX10) (b := ad i) (As := as.map (q_v ad)) (Ts := q_tb) (own := M.2.1.cls) ⟨hX.1, hX.2.1, hX.2.2.1, hX.2.2.2.1, hts⟩ hM ⟨va_cnB (ws' := q_tb) n hts (q_good l1) (by rw [q_ws, l9]) rfl rfl (hX.2.2.2.2.2.2.2.2.2.2.1 _ l6) (hts _ l2) l3 ⟨l4, l5⟩, l7, hts _ l8⟩ ⟨hbl, fun U h1 h2 => ⟨rfl, hU U h1 h2⟩⟩ rfl (by rw [List.length_map]; exact hn) hls.1 ?_ (lv_room (by rw [q_cats]; exact hst)) hd hk) kk
  show (as.reverse ++ .ref i :: st).map (q_v ad) = _
  rw [q_map_rev]; rfl
end G4
end
