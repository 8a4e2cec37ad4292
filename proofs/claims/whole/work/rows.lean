section
-- ===== PART A: goes FIRST, ahead of the names: the tables' words, and 'selects' of the private methods out of them =====
/-- a private method of a class that the tables say can be made, by its rows of tables_1 -/
def lw_okq (q : MethodName × Nat) : Prop := (q.1.cls ≠ "java/lang/invoke/MethodHandle" ∧ q.1.cls ≠ "java/lang/invoke/VarHandle") ∧ Cond.instantiable q.1.cls q.2 ∈ tables_1 ∧ Cond.privateMethod q.1 ∈ tables_1 ∧ Cond.instanceMethod q.1 ∈ tables_1
theorem lw_p0 : lw_okq (⟨"CharacterSets$Table", "addPiece", "(II)V"⟩, 4) := ⟨⟨by decide +kernel, by decide +kernel⟩, List.mem_of_getElem? (i := 18) (by decide +kernel), List.mem_of_getElem? (i := 26) (by decide +kernel), List.mem_of_getElem? (i := 27) (by decide +kernel)⟩
theorem lw_p1 : lw_okq (⟨"CharacterSets$Table", "addRow", "(III)V"⟩, 4) := ⟨⟨by decide +kernel, by decide +kernel⟩, List.mem_of_getElem? (i := 18) (by decide +kernel), List.mem_of_getElem? (i := 35) (by decide +kernel), List.mem_of_getElem? (i := 36) (by decide +kernel)⟩
theorem lw_p2 : lw_okq (⟨"CharacterSets$CaseRings", "linkPairs", "(I)V"⟩, 2) := ⟨⟨by decide +kernel, by decide +kernel⟩, List.mem_of_getElem? (i := 53) (by decide +kernel), List.mem_of_getElem? (i := 64) (by decide +kernel), List.mem_of_getElem? (i := 65) (by decide +kernel)⟩
theorem lw_p3 : lw_okq (⟨"CharacterSets$CaseRings", "point", "(II)V"⟩, 2) := ⟨⟨by decide +kernel, by decide +kernel⟩, List.mem_of_getElem? (i := 53) (by decide +kernel), List.mem_of_getElem? (i := 68) (by decide +kernel), List.mem_of_getElem? (i := 69) (by decide +kernel)⟩
theorem lw_p4 : lw_okq (⟨"CharacterSets$CaseRings", "linkThree", "(III)V"⟩, 2) := ⟨⟨by decide +kernel, by decide +kernel⟩, List.mem_of_getElem? (i := 53) (by decide +kernel), List.mem_of_getElem? (i := 77) (by decide +kernel), List.mem_of_getElem? (i := 78) (by decide +kernel)⟩
theorem lw_p5 : lw_okq (⟨"CharacterSets", "isThere", "(I)Z"⟩, 6) := ⟨⟨by decide +kernel, by decide +kernel⟩, List.mem_of_getElem? (i := 9) (by decide +kernel), List.mem_of_getElem? (i := 136) (by decide +kernel), List.mem_of_getElem? (i := 137) (by decide +kernel)⟩
theorem lw_p6 : lw_okq (⟨"CharacterSets$Ranges", "edgesUpTo", "(I)I"⟩, 2) := ⟨⟨by decide +kernel, by decide +kernel⟩, List.mem_of_getElem? (i := 88) (by decide +kernel), List.mem_of_getElem? (i := 144) (by decide +kernel), List.mem_of_getElem? (i := 145) (by decide +kernel)⟩
theorem lw_p7 : lw_okq (⟨"CharacterSets", "gatherProperty", "(I)V"⟩, 6) := ⟨⟨by decide +kernel, by decide +kernel⟩, List.mem_of_getElem? (i := 9) (by decide +kernel), List.mem_of_getElem? (i := 159) (by decide +kernel), List.mem_of_getElem? (i := 160) (by decide +kernel)⟩
theorem lw_p8 : lw_okq (⟨"CharacterSets", "gatherScript", "(I)V"⟩, 6) := ⟨⟨by decide +kernel, by decide +kernel⟩, List.mem_of_getElem? (i := 9) (by decide +kernel), List.mem_of_getElem? (i := 163) (by decide +kernel), List.mem_of_getElem? (i := 164) (by decide +kernel)⟩
theorem lw_p9 : lw_okq (⟨"CharacterSets", "gather", "(II)V"⟩, 6) := ⟨⟨by decide +kernel, by decide +kernel⟩, List.mem_of_getElem? (i := 9) (by decide +kernel), List.mem_of_getElem? (i := 184) (by decide +kernel), List.mem_of_getElem? (i := 185) (by decide +kernel)⟩
theorem lw_p10 : lw_okq (⟨"CharacterSets", "gatherCategories", "(II)V"⟩, 6) := ⟨⟨by decide +kernel, by decide +kernel⟩, List.mem_of_getElem? (i := 9) (by decide +kernel), List.mem_of_getElem? (i := 198) (by decide +kernel), List.mem_of_getElem? (i := 199) (by decide +kernel)⟩
theorem lw_p11 : lw_okq (⟨"CharacterSets", "addGathered", "(LCharacterSets$Ranges;Z)I"⟩, 6) := ⟨⟨by decide +kernel, by decide +kernel⟩, List.mem_of_getElem? (i := 9) (by decide +kernel), List.mem_of_getElem? (i := 206) (by decide +kernel), List.mem_of_getElem? (i := 207) (by decide +kernel)⟩
theorem lw_p12 : lw_okq (⟨"CharacterSets", "gatherNamed", "(I)V"⟩, 6) := ⟨⟨by decide +kernel, by decide +kernel⟩, List.mem_of_getElem? (i := 9) (by decide +kernel), List.mem_of_getElem? (i := 232) (by decide +kernel), List.mem_of_getElem? (i := 233) (by decide +kernel)⟩
theorem lw_p13 : lw_okq (⟨"CharacterSets", "gatherList", "([I)V"⟩, 6) := ⟨⟨by decide +kernel, by decide +kernel⟩, List.mem_of_getElem? (i := 9) (by decide +kernel), List.mem_of_getElem? (i := 273) (by decide +kernel), List.mem_of_getElem? (i := 274) (by decide +kernel)⟩
theorem lw_p14 : lw_okq (⟨"CharacterSets", "isMissing", "(LCharacterSets$Ranges;I)Z"⟩, 6) := ⟨⟨by decide +kernel, by decide +kernel⟩, List.mem_of_getElem? (i := 9) (by decide +kernel), List.mem_of_getElem? (i := 289) (by decide +kernel), List.mem_of_getElem? (i := 290) (by decide +kernel)⟩
theorem lw_p15 : lw_okq (⟨"CharacterSets$Table", "pieceOf", "(I)I"⟩, 4) := ⟨⟨by decide +kernel, by decide +kernel⟩, List.mem_of_getElem? (i := 18) (by decide +kernel), List.mem_of_getElem? (i := 360) (by decide +kernel), List.mem_of_getElem? (i := 361) (by decide +kernel)⟩
def lw_privs_1 : List (MethodName × Nat) := [(⟨"CharacterSets$Table", "addPiece", "(II)V"⟩, 4), (⟨"CharacterSets$Table", "addRow", "(III)V"⟩, 4), (⟨"CharacterSets$CaseRings", "linkPairs", "(I)V"⟩, 2), (⟨"CharacterSets$CaseRings", "point", "(II)V"⟩, 2), (⟨"CharacterSets$CaseRings", "linkThree", "(III)V"⟩, 2), (⟨"CharacterSets", "isThere", "(I)Z"⟩, 6), (⟨"CharacterSets$Ranges", "edgesUpTo", "(I)I"⟩, 2), (⟨"CharacterSets", "gatherProperty", "(I)V"⟩, 6), (⟨"CharacterSets", "gatherScript", "(I)V"⟩, 6), (⟨"CharacterSets", "gather", "(II)V"⟩, 6), (⟨"CharacterSets", "gatherCategories", "(II)V"⟩, 6), (⟨"CharacterSets", "addGathered", "(LCharacterSets$Ranges;Z)I"⟩, 6), (⟨"CharacterSets", "gatherNamed", "(I)V"⟩, 6), (⟨"CharacterSets", "gatherList", "([I)V"⟩, 6), (⟨"CharacterSets", "isMissing", "(LCharacterSets$Ranges;I)Z"⟩, 6), (⟨"CharacterSets$Table", "pieceOf", "(I)I"⟩, 4)]
theorem lw_r1 : ∀ q ∈ lw_privs_1, lw_okq q := List.forall_mem_cons.mpr ⟨lw_p0, List.forall_mem_cons.mpr ⟨lw_p1, List.forall_mem_cons.mpr ⟨lw_p2, List.forall_mem_cons.mpr ⟨lw_p3, List.forall_mem_cons.mpr ⟨lw_p4, List.forall_mem_cons.mpr ⟨lw_p5, List.forall_mem_cons.mpr ⟨lw_p6, List.forall_mem_cons.mpr ⟨lw_p7, List.forall_mem_cons.mpr ⟨lw_p8, List.forall_mem_cons.mpr ⟨lw_p9, List.forall_mem_cons.mpr ⟨lw_p10, List.forall_mem_cons.mpr ⟨lw_p11, List.forall_mem_cons.mpr ⟨lw_p12, List.forall_mem_cons.mpr ⟨lw_p13, List.forall_mem_cons.mpr ⟨lw_p14, List.forall_mem_cons.mpr ⟨lw_p15, fun _ h => absurd h List.not_mem_nil⟩⟩⟩⟩⟩⟩⟩⟩⟩⟩⟩⟩⟩⟩⟩⟩
theorem lw_p16 : lw_okq (⟨"CharacterSets", "upperOf", "(I)I"⟩, 6) := ⟨⟨by decide +kernel, by decide +kernel⟩, List.mem_of_getElem? (i := 9) (by decide +kernel), List.mem_of_getElem? (i := 368) (by decide +kernel), List.mem_of_getElem? (i := 369) (by decide +kernel)⟩
theorem lw_p17 : lw_okq (⟨"CharacterSets", "lowerOf", "(I)I"⟩, 6) := ⟨⟨by decide +kernel, by decide +kernel⟩, List.mem_of_getElem? (i := 9) (by decide +kernel), List.mem_of_getElem? (i := 372) (by decide +kernel), List.mem_of_getElem? (i := 373) (by decide +kernel)⟩
theorem lw_p18 : lw_okq (⟨"CharacterSetsModel", "table0", "()V"⟩, 9) := ⟨⟨by decide +kernel, by decide +kernel⟩, List.mem_of_getElem? (i := 379) (by decide +kernel), List.mem_of_getElem? (i := 399) (by decide +kernel), List.mem_of_getElem? (i := 400) (by decide +kernel)⟩
theorem lw_p19 : lw_okq (⟨"CharacterSetsModel", "kinds", "(III)V"⟩, 9) := ⟨⟨by decide +kernel, by decide +kernel⟩, List.mem_of_getElem? (i := 379) (by decide +kernel), List.mem_of_getElem? (i := 403) (by decide +kernel), List.mem_of_getElem? (i := 404) (by decide +kernel)⟩
theorem lw_p20 : lw_okq (⟨"CharacterSetsModel", "table1", "()V"⟩, 9) := ⟨⟨by decide +kernel, by decide +kernel⟩, List.mem_of_getElem? (i := 379) (by decide +kernel), List.mem_of_getElem? (i := 407) (by decide +kernel), List.mem_of_getElem? (i := 408) (by decide +kernel)⟩
theorem lw_p21 : lw_okq (⟨"CharacterSetsModel", "table2", "()V"⟩, 9) := ⟨⟨by decide +kernel, by decide +kernel⟩, List.mem_of_getElem? (i := 379) (by decide +kernel), List.mem_of_getElem? (i := 411) (by decide +kernel), List.mem_of_getElem? (i := 412) (by decide +kernel)⟩
theorem lw_p22 : lw_okq (⟨"CharacterSetsModel", "table3", "()V"⟩, 9) := ⟨⟨by decide +kernel, by decide +kernel⟩, List.mem_of_getElem? (i := 379) (by decide +kernel), List.mem_of_getElem? (i := 415) (by decide +kernel), List.mem_of_getElem? (i := 416) (by decide +kernel)⟩
theorem lw_p23 : lw_okq (⟨"CharacterSetsModel", "none", "(I)Z"⟩, 9) := ⟨⟨by decide +kernel, by decide +kernel⟩, List.mem_of_getElem? (i := 379) (by decide +kernel), List.mem_of_getElem? (i := 453) (by decide +kernel), List.mem_of_getElem? (i := 454) (by decide +kernel)⟩
theorem lw_p24 : lw_okq (⟨"CharacterSetsModel", "fill", "(III)V"⟩, 9) := ⟨⟨by decide +kernel, by decide +kernel⟩, List.mem_of_getElem? (i := 379) (by decide +kernel), List.mem_of_getElem? (i := 461) (by decide +kernel), List.mem_of_getElem? (i := 462) (by decide +kernel)⟩
theorem lw_p25 : lw_okq (⟨"CharacterSetsModel", "put", "(II)V"⟩, 9) := ⟨⟨by decide +kernel, by decide +kernel⟩, List.mem_of_getElem? (i := 379) (by decide +kernel), List.mem_of_getElem? (i := 466) (by decide +kernel), List.mem_of_getElem? (i := 467) (by decide +kernel)⟩
theorem lw_p26 : lw_okq (⟨"CharacterSetsModel", "ranges", "(I)I"⟩, 9) := ⟨⟨by decide +kernel, by decide +kernel⟩, List.mem_of_getElem? (i := 379) (by decide +kernel), List.mem_of_getElem? (i := 470) (by decide +kernel), List.mem_of_getElem? (i := 471) (by decide +kernel)⟩
theorem lw_p27 : lw_okq (⟨"CharacterSetsModel", "ones", "(J)I"⟩, 9) := ⟨⟨by decide +kernel, by decide +kernel⟩, List.mem_of_getElem? (i := 379) (by decide +kernel), List.mem_of_getElem? (i := 474) (by decide +kernel), List.mem_of_getElem? (i := 475) (by decide +kernel)⟩
theorem lw_p28 : lw_okq (⟨"CharacterSetsModel", "holds", "(II)Z"⟩, 9) := ⟨⟨by decide +kernel, by decide +kernel⟩, List.mem_of_getElem? (i := 379) (by decide +kernel), List.mem_of_getElem? (i := 486) (by decide +kernel), List.mem_of_getElem? (i := 487) (by decide +kernel)⟩
theorem lw_p29 : lw_okq (⟨"CharacterSetsModel", "category", "(I)I"⟩, 9) := ⟨⟨by decide +kernel, by decide +kernel⟩, List.mem_of_getElem? (i := 379) (by decide +kernel), List.mem_of_getElem? (i := 490) (by decide +kernel), List.mem_of_getElem? (i := 491) (by decide +kernel)⟩
theorem lw_p30 : lw_okq (⟨"CharacterSetsModel", "general", "(II)Z"⟩, 9) := ⟨⟨by decide +kernel, by decide +kernel⟩, List.mem_of_getElem? (i := 379) (by decide +kernel), List.mem_of_getElem? (i := 498) (by decide +kernel), List.mem_of_getElem? (i := 499) (by decide +kernel)⟩
theorem lw_p31 : lw_okq (⟨"CharacterSetsModel", "script", "(I)I"⟩, 9) := ⟨⟨by decide +kernel, by decide +kernel⟩, List.mem_of_getElem? (i := 379) (by decide +kernel), List.mem_of_getElem? (i := 502) (by decide +kernel), List.mem_of_getElem? (i := 503) (by decide +kernel)⟩
def lw_privs_2 : List (MethodName × Nat) := [(⟨"CharacterSets", "upperOf", "(I)I"⟩, 6), (⟨"CharacterSets", "lowerOf", "(I)I"⟩, 6), (⟨"CharacterSetsModel", "table0", "()V"⟩, 9), (⟨"CharacterSetsModel", "kinds", "(III)V"⟩, 9), (⟨"CharacterSetsModel", "table1", "()V"⟩, 9), (⟨"CharacterSetsModel", "table2", "()V"⟩, 9), (⟨"CharacterSetsModel", "table3", "()V"⟩, 9), (⟨"CharacterSetsModel", "none", "(I)Z"⟩, 9), (⟨"CharacterSetsModel", "fill", "(III)V"⟩, 9), (⟨"CharacterSetsModel", "put", "(II)V"⟩, 9), (⟨"CharacterSetsModel", "ranges", "(I)I"⟩, 9), (⟨"CharacterSetsModel", "ones", "(J)I"⟩, 9), (⟨"CharacterSetsModel", "holds", "(II)Z"⟩, 9), (⟨"CharacterSetsModel", "category", "(I)I"⟩, 9), (⟨"CharacterSetsModel", "general", "(II)Z"⟩, 9), (⟨"CharacterSetsModel", "script", "(I)I"⟩, 9)]
theorem lw_r2 : ∀ q ∈ lw_privs_2, lw_okq q := List.forall_mem_cons.mpr ⟨lw_p16, List.forall_mem_cons.mpr ⟨lw_p17, List.forall_mem_cons.mpr ⟨lw_p18, List.forall_mem_cons.mpr ⟨lw_p19, List.forall_mem_cons.mpr ⟨lw_p20, List.forall_mem_cons.mpr ⟨lw_p21, List.forall_mem_cons.mpr ⟨lw_p22, List.forall_mem_cons.mpr ⟨lw_p23, List.forall_mem_cons.mpr ⟨lw_p24, List.forall_mem_cons.mpr ⟨lw_p25, List.forall_mem_cons.mpr ⟨lw_p26, List.forall_mem_cons.mpr ⟨lw_p27, List.forall_mem_cons.mpr ⟨lw_p28, List.forall_mem_cons.mpr ⟨lw_p29, List.forall_mem_cons.mpr ⟨lw_p30, List.forall_mem_cons.mpr ⟨lw_p31, fun _ h => absurd h List.not_mem_nil⟩⟩⟩⟩⟩⟩⟩⟩⟩⟩⟩⟩⟩⟩⟩⟩
theorem lw_p32 : lw_okq (⟨"CharacterSetsModel", "names", "(II)Z"⟩, 9) := ⟨⟨by decide +kernel, by decide +kernel⟩, List.mem_of_getElem? (i := 379) (by decide +kernel), List.mem_of_getElem? (i := 510) (by decide +kernel), List.mem_of_getElem? (i := 511) (by decide +kernel)⟩
theorem lw_p33 : lw_okq (⟨"CharacterSetsModel", "widely", "(II)Z"⟩, 9) := ⟨⟨by decide +kernel, by decide +kernel⟩, List.mem_of_getElem? (i := 379) (by decide +kernel), List.mem_of_getElem? (i := 514) (by decide +kernel), List.mem_of_getElem? (i := 515) (by decide +kernel)⟩
theorem lw_p34 : lw_okq (⟨"CharacterSetsModel", "blank", "(I)Z"⟩, 9) := ⟨⟨by decide +kernel, by decide +kernel⟩, List.mem_of_getElem? (i := 379) (by decide +kernel), List.mem_of_getElem? (i := 518) (by decide +kernel), List.mem_of_getElem? (i := 519) (by decide +kernel)⟩
theorem lw_p35 : lw_okq (⟨"CharacterSetsModel", "plainly", "(II)Z"⟩, 9) := ⟨⟨by decide +kernel, by decide +kernel⟩, List.mem_of_getElem? (i := 379) (by decide +kernel), List.mem_of_getElem? (i := 522) (by decide +kernel), List.mem_of_getElem? (i := 523) (by decide +kernel)⟩
theorem lw_p36 : lw_okq (⟨"CharacterSetsModel", "digit", "(I)Z"⟩, 9) := ⟨⟨by decide +kernel, by decide +kernel⟩, List.mem_of_getElem? (i := 379) (by decide +kernel), List.mem_of_getElem? (i := 526) (by decide +kernel), List.mem_of_getElem? (i := 527) (by decide +kernel)⟩
theorem lw_p37 : lw_okq (⟨"CharacterSetsModel", "alpha", "(I)Z"⟩, 9) := ⟨⟨by decide +kernel, by decide +kernel⟩, List.mem_of_getElem? (i := 379) (by decide +kernel), List.mem_of_getElem? (i := 530) (by decide +kernel), List.mem_of_getElem? (i := 531) (by decide +kernel)⟩
theorem lw_p38 : lw_okq (⟨"CharacterSetsModel", "count", "(I)I"⟩, 9) := ⟨⟨by decide +kernel, by decide +kernel⟩, List.mem_of_getElem? (i := 379) (by decide +kernel), List.mem_of_getElem? (i := 538) (by decide +kernel), List.mem_of_getElem? (i := 539) (by decide +kernel)⟩
theorem lw_p39 : lw_okq (⟨"CharacterSetsModel", "in", "(II)Z"⟩, 9) := ⟨⟨by decide +kernel, by decide +kernel⟩, List.mem_of_getElem? (i := 379) (by decide +kernel), List.mem_of_getElem? (i := 542) (by decide +kernel), List.mem_of_getElem? (i := 543) (by decide +kernel)⟩
theorem lw_p40 : lw_okq (⟨"CharacterSetsModel", "caseOf", "(I)V"⟩, 9) := ⟨⟨by decide +kernel, by decide +kernel⟩, List.mem_of_getElem? (i := 379) (by decide +kernel), List.mem_of_getElem? (i := 546) (by decide +kernel), List.mem_of_getElem? (i := 547) (by decide +kernel)⟩
theorem lw_p41 : lw_okq (⟨"CharacterSetsModel", "first", "(I)I"⟩, 9) := ⟨⟨by decide +kernel, by decide +kernel⟩, List.mem_of_getElem? (i := 379) (by decide +kernel), List.mem_of_getElem? (i := 550) (by decide +kernel), List.mem_of_getElem? (i := 551) (by decide +kernel)⟩
theorem lw_p42 : lw_okq (⟨"CharacterSetsModel", "third", "(I)I"⟩, 9) := ⟨⟨by decide +kernel, by decide +kernel⟩, List.mem_of_getElem? (i := 379) (by decide +kernel), List.mem_of_getElem? (i := 554) (by decide +kernel), List.mem_of_getElem? (i := 555) (by decide +kernel)⟩
theorem lw_p43 : lw_okq (⟨"CharacterSetsModel", "pair", "(I)I"⟩, 9) := ⟨⟨by decide +kernel, by decide +kernel⟩, List.mem_of_getElem? (i := 379) (by decide +kernel), List.mem_of_getElem? (i := 558) (by decide +kernel), List.mem_of_getElem? (i := 559) (by decide +kernel)⟩
theorem lw_p44 : lw_okq (⟨"CharacterSetsModel", "inAny", "(III)Z"⟩, 9) := ⟨⟨by decide +kernel, by decide +kernel⟩, List.mem_of_getElem? (i := 379) (by decide +kernel), List.mem_of_getElem? (i := 562) (by decide +kernel), List.mem_of_getElem? (i := 563) (by decide +kernel)⟩
theorem lw_p45 : lw_okq (⟨"CharacterSetsModel", "withMate", "(I)V"⟩, 9) := ⟨⟨by decide +kernel, by decide +kernel⟩, List.mem_of_getElem? (i := 379) (by decide +kernel), List.mem_of_getElem? (i := 566) (by decide +kernel), List.mem_of_getElem? (i := 567) (by decide +kernel)⟩
theorem lw_p46 : lw_okq (⟨"CharacterSetsModel", "after", "(II)I"⟩, 9) := ⟨⟨by decide +kernel, by decide +kernel⟩, List.mem_of_getElem? (i := 379) (by decide +kernel), List.mem_of_getElem? (i := 603) (by decide +kernel), List.mem_of_getElem? (i := 604) (by decide +kernel)⟩
theorem lw_p47 : lw_okq (⟨"CharacterSetsModel", "upper", "(I)I"⟩, 9) := ⟨⟨by decide +kernel, by decide +kernel⟩, List.mem_of_getElem? (i := 379) (by decide +kernel), List.mem_of_getElem? (i := 611) (by decide +kernel), List.mem_of_getElem? (i := 612) (by decide +kernel)⟩
def lw_privs_3 : List (MethodName × Nat) := [(⟨"CharacterSetsModel", "names", "(II)Z"⟩, 9), (⟨"CharacterSetsModel", "widely", "(II)Z"⟩, 9), (⟨"CharacterSetsModel", "blank", "(I)Z"⟩, 9), (⟨"CharacterSetsModel", "plainly", "(II)Z"⟩, 9), (⟨"CharacterSetsModel", "digit", "(I)Z"⟩, 9), (⟨"CharacterSetsModel", "alpha", "(I)Z"⟩, 9), (⟨"CharacterSetsModel", "count", "(I)I"⟩, 9), (⟨"CharacterSetsModel", "in", "(II)Z"⟩, 9), (⟨"CharacterSetsModel", "caseOf", "(I)V"⟩, 9), (⟨"CharacterSetsModel", "first", "(I)I"⟩, 9), (⟨"CharacterSetsModel", "third", "(I)I"⟩, 9), (⟨"CharacterSetsModel", "pair", "(I)I"⟩, 9), (⟨"CharacterSetsModel", "inAny", "(III)Z"⟩, 9), (⟨"CharacterSetsModel", "withMate", "(I)V"⟩, 9), (⟨"CharacterSetsModel", "after", "(II)I"⟩, 9), (⟨"CharacterSetsModel", "upper", "(I)I"⟩, 9)]
theorem lw_r3 : ∀ q ∈ lw_privs_3, lw_okq q := List.forall_mem_cons.mpr ⟨lw_p32, List.forall_mem_cons.mpr ⟨lw_p33, List.forall_mem_cons.mpr ⟨lw_p34, List.forall_mem_cons.mpr ⟨lw_p35, List.forall_mem_cons.mpr ⟨lw_p36, List.forall_mem_cons.mpr ⟨lw_p37, List.forall_mem_cons.mpr ⟨lw_p38, List.forall_mem_cons.mpr ⟨lw_p39, List.forall_mem_cons.mpr ⟨lw_p40, List.forall_mem_cons.mpr ⟨lw_p41, List.forall_mem_cons.mpr ⟨lw_p42, List.forall_mem_cons.mpr ⟨lw_p43, List.forall_mem_cons.mpr ⟨lw_p44, List.forall_mem_cons.mpr ⟨lw_p45, List.forall_mem_cons.mpr ⟨lw_p46, List.forall_mem_cons.mpr ⟨lw_p47, fun _ h => absurd h List.not_mem_nil⟩⟩⟩⟩⟩⟩⟩⟩⟩⟩⟩⟩⟩⟩⟩⟩
theorem lw_p48 : lw_okq (⟨"CharacterSetsModel", "lower", "(I)I"⟩, 9) := ⟨⟨by decide +kernel, by decide +kernel⟩, List.mem_of_getElem? (i := 379) (by decide +kernel), List.mem_of_getElem? (i := 615) (by decide +kernel), List.mem_of_getElem? (i := 616) (by decide +kernel)⟩
theorem lw_p49 : lw_okq (⟨"CharacterSetsModel", "next", "(I)I"⟩, 9) := ⟨⟨by decide +kernel, by decide +kernel⟩, List.mem_of_getElem? (i := 379) (by decide +kernel), List.mem_of_getElem? (i := 619) (by decide +kernel), List.mem_of_getElem? (i := 620) (by decide +kernel)⟩
def lw_privs_4 : List (MethodName × Nat) := [(⟨"CharacterSetsModel", "lower", "(I)I"⟩, 9), (⟨"CharacterSetsModel", "next", "(I)I"⟩, 9)]
theorem lw_r4 : ∀ q ∈ lw_privs_4, lw_okq q := List.forall_mem_cons.mpr ⟨lw_p48, List.forall_mem_cons.mpr ⟨lw_p49, fun _ h => absurd h List.not_mem_nil⟩⟩
def lw_privs : List (MethodName × Nat) := lw_privs_1 ++ (lw_privs_2 ++ (lw_privs_3 ++ (lw_privs_4)))
def lw_tbl : List Cond := k2_sels lw_privs ++ tables_1
theorem lw_privs_ok : ∀ q ∈ lw_privs, lw_okq q := by
  show ∀ q ∈ lw_privs_1 ++ (lw_privs_2 ++ (lw_privs_3 ++ (lw_privs_4))), lw_okq q
  exact List.forall_mem_append.mpr ⟨lw_r1, List.forall_mem_append.mpr ⟨lw_r2, List.forall_mem_append.mpr ⟨lw_r3, lw_r4⟩⟩⟩
-- ===== end of PART A; then your names; then what follows =====
end
section
def lw_ok : List Cond := lw_tbl.filter goodWord
theorem lw_in {w : Cond} (h : w ∈ lw_tbl) (hg : goodWord w = true) : w ∈ lw_ok := List.mem_filter.mpr ⟨h, hg⟩
def R_CS : String := "CharacterSets"
def F_CS : u_T := fun k => match k with
  | 0 => ("CharacterSets", "ucp", "Z", true)
  | 1 => ("CharacterSets", "last", "I", true)
  | 2 => ("CharacterSets", "table", "LCharacterSets$Table;", true)
  | 3 => ("CharacterSets", "rings", "LCharacterSets$CaseRings;", true)
  | 4 => ("CharacterSets", "sets", "[LCharacterSets$Ranges;", true)
  | _ => ("CharacterSets", "gathered", "LCharacterSets$Ranges;", true)
def t_CS : Nat → FieldType := fun k => match k with
  | 0 => .boolean
  | 1 => .int
  | 2 => .object "CharacterSets$Table"
  | 3 => .object "CharacterSets$CaseRings"
  | 4 => .array (.object "CharacterSets$Ranges")
  | _ => .object "CharacterSets$Ranges"
abbrev w_CS : List Cond := u_ws R_CS F_CS 6
theorem n_CS : ∀ a, a < 6 → ∀ b, b < 6 → a ≠ b → (F_CS a).2.1 ≠ (F_CS b).2.1 := by decide +kernel
theorem t_CS_ok : ∀ k, k < 6 → parseFieldDescriptor (F_CS k).2.2.1 = some (t_CS k) := by decide +kernel
def R_RG : String := "CharacterSets$Ranges"
def F_RG : u_T := fun k => match k with
  | 0 => ("CharacterSets$Ranges", "edges", "[I", true)
  | _ => ("CharacterSets$Ranges", "count", "I", false)
def t_RG : Nat → FieldType := fun k => match k with
  | 0 => .array .int
  | _ => .int
abbrev w_RG : List Cond := u_ws R_RG F_RG 2
theorem n_RG : ∀ a, a < 2 → ∀ b, b < 2 → a ≠ b → (F_RG a).2.1 ≠ (F_RG b).2.1 := by decide +kernel
theorem t_RG_ok : ∀ k, k < 2 → parseFieldDescriptor (F_RG k).2.2.1 = some (t_RG k) := by decide +kernel
def R_TB : String := "CharacterSets$Table"
def F_TB : u_T := fun k => match k with
  | 0 => ("CharacterSets$Table", "lows", "[I", true)
  | 1 => ("CharacterSets$Table", "categories", "[I", true)
  | 2 => ("CharacterSets$Table", "scripts", "[I", true)
  | _ => ("CharacterSets$Table", "count", "I", false)
def t_TB : Nat → FieldType := fun k => match k with
  | 0 => .array .int
  | 1 => .array .int
  | 2 => .array .int
  | _ => .int
abbrev w_TB : List Cond := u_ws R_TB F_TB 4
theorem n_TB : ∀ a, a < 4 → ∀ b, b < 4 → a ≠ b → (F_TB a).2.1 ≠ (F_TB b).2.1 := by decide +kernel
theorem t_TB_ok : ∀ k, k < 4 → parseFieldDescriptor (F_TB k).2.2.1 = some (t_TB k) := by decide +kernel
def R_CR : String := "CharacterSets$CaseRings"
def F_CR : u_T := fun k => match k with
  | 0 => ("CharacterSets$CaseRings", "last", "I", true)
  | _ => ("CharacterSets$CaseRings", "next", "[I", true)
def t_CR : Nat → FieldType := fun k => match k with
  | 0 => .int
  | _ => .array .int
abbrev w_CR : List Cond := u_ws R_CR F_CR 2
theorem n_CR : ∀ a, a < 2 → ∀ b, b < 2 → a ≠ b → (F_CR a).2.1 ≠ (F_CR b).2.1 := by decide +kernel
theorem t_CR_ok : ∀ k, k < 2 → parseFieldDescriptor (F_CR k).2.2.1 = some (t_CR k) := by decide +kernel
def R_MO : String := "CharacterSetsModel"
def F_MO : u_T := fun k => match k with
  | 0 => ("CharacterSetsModel", "utf", "Z", true)
  | 1 => ("CharacterSetsModel", "ucp", "Z", true)
  | 2 => ("CharacterSetsModel", "last", "I", true)
  | 3 => ("CharacterSetsModel", "words", "I", true)
  | 4 => ("CharacterSetsModel", "bits", "[J", true)
  | 5 => ("CharacterSetsModel", "kind", "[B", true)
  | 6 => ("CharacterSetsModel", "mate", "[I", true)
  | 7 => ("CharacterSetsModel", "mates", "I", false)
  | _ => ("CharacterSetsModel", "parts", "[I", true)
def t_MO : Nat → FieldType := fun k => match k with
  | 0 => .boolean
  | 1 => .boolean
  | 2 => .int
  | 3 => .int
  | 4 => .array .long
  | 5 => .array .byte
  | 6 => .array .int
  | 7 => .int
  | _ => .array .int
abbrev w_MO : List Cond := u_ws R_MO F_MO 9
theorem n_MO : ∀ a, a < 9 → ∀ b, b < 9 → a ≠ b → (F_MO a).2.1 ≠ (F_MO b).2.1 := by decide +kernel
theorem t_MO_ok : ∀ k, k < 9 → parseFieldDescriptor (F_MO k).2.2.1 = some (t_MO k) := by decide +kernel
def R_LA : String := "CharacterSetsLaw"
abbrev b_CS_init : ByteArray := prog_1_method_1_code
def y_CS_init : MethodName := ⟨"CharacterSets", "<init>", "(I)V"⟩
def w_CS_init : List Cond := .code y_CS_init b_CS_init 4 none :: lw_ok
abbrev b_CS_clear : ByteArray := prog_1_method_2_code
def y_CS_clear : MethodName := ⟨"CharacterSets", "clear", "(I)I"⟩
def w_CS_clear : List Cond := .code y_CS_clear b_CS_clear 2 (some .int) :: lw_ok
abbrev b_CS_range : ByteArray := prog_1_method_3_code
def y_CS_range : MethodName := ⟨"CharacterSets", "range", "(III)I"⟩
def w_CS_range : List Cond := .code y_CS_range b_CS_range 4 (some .int) :: lw_ok
abbrev b_CS_property : ByteArray := prog_1_method_4_code
def y_CS_property : MethodName := ⟨"CharacterSets", "property", "(IIZZ)I"⟩
def w_CS_property : List Cond := .code y_CS_property b_CS_property 6 (some .int) :: lw_ok
abbrev b_CS_named : ByteArray := prog_1_method_5_code
def y_CS_named : MethodName := ⟨"CharacterSets", "named", "(IIZZ)I"⟩
def w_CS_named : List Cond := .code y_CS_named b_CS_named 6 (some .int) :: lw_ok
abbrev b_CS_close : ByteArray := prog_1_method_6_code
def y_CS_close : MethodName := ⟨"CharacterSets", "close", "(I)I"⟩
def w_CS_close : List Cond := .code y_CS_close b_CS_close 5 (some .int) :: lw_ok
abbrev b_CS_invert : ByteArray := prog_1_method_7_code
def y_CS_invert : MethodName := ⟨"CharacterSets", "invert", "(I)I"⟩
def w_CS_invert : List Cond := .code y_CS_invert b_CS_invert 2 (some .int) :: lw_ok
abbrev b_CS_join : ByteArray := prog_1_method_8_code
def y_CS_join : MethodName := ⟨"CharacterSets", "join", "(II)I"⟩
def w_CS_join : List Cond := .code y_CS_join b_CS_join 3 (some .int) :: lw_ok
abbrev b_CS_meets : ByteArray := prog_1_method_9_code
def y_CS_meets : MethodName := ⟨"CharacterSets", "meets", "(II)I"⟩
def w_CS_meets : List Cond := .code y_CS_meets b_CS_meets 3 (some .int) :: lw_ok
abbrev b_CS_same : ByteArray := prog_1_method_10_code
def y_CS_same : MethodName := ⟨"CharacterSets", "same", "(II)I"⟩
def w_CS_same : List Cond := .code y_CS_same b_CS_same 3 (some .int) :: lw_ok
abbrev b_CS_has : ByteArray := prog_1_method_11_code
def y_CS_has : MethodName := ⟨"CharacterSets", "has", "(II)I"⟩
def w_CS_has : List Cond := .code y_CS_has b_CS_has 3 (some .int) :: lw_ok
abbrev b_CS_size : ByteArray := prog_1_method_12_code
def y_CS_size : MethodName := ⟨"CharacterSets", "size", "(I)I"⟩
def w_CS_size : List Cond := .code y_CS_size b_CS_size 2 (some .int) :: lw_ok
abbrev b_CS_least : ByteArray := prog_1_method_13_code
def y_CS_least : MethodName := ⟨"CharacterSets", "least", "(II)I"⟩
def w_CS_least : List Cond := .code y_CS_least b_CS_least 3 (some .int) :: lw_ok
abbrev b_CS_bound : ByteArray := prog_1_method_14_code
def y_CS_bound : MethodName := ⟨"CharacterSets", "bound", "(IIZ)I"⟩
def w_CS_bound : List Cond := .code y_CS_bound b_CS_bound 4 (some .int) :: lw_ok
abbrev b_CS_about : ByteArray := prog_1_method_15_code
def y_CS_about : MethodName := ⟨"CharacterSets", "about", "(II)I"⟩
def w_CS_about : List Cond := .code y_CS_about b_CS_about 3 (some .int) :: lw_ok
abbrev b_CS_isSet : ByteArray := prog_1_method_16_code
def y_CS_isSet : MethodName := ⟨"CharacterSets", "isSet", "(I)Z"⟩
def w_CS_isSet : List Cond := .code y_CS_isSet b_CS_isSet 1 (some .boolean) :: lw_ok
abbrev b_CS_isThere : ByteArray := prog_1_method_17_code
def y_CS_isThere : MethodName := ⟨"CharacterSets", "isThere", "(I)Z"⟩
def w_CS_isThere : List Cond := .code y_CS_isThere b_CS_isThere 2 (some .boolean) :: lw_ok
abbrev b_CS_isMissing : ByteArray := prog_1_method_18_code
def y_CS_isMissing : MethodName := ⟨"CharacterSets", "isMissing", "(LCharacterSets$Ranges;I)Z"⟩
def w_CS_isMissing : List Cond := .code y_CS_isMissing b_CS_isMissing 4 (some .boolean) :: lw_ok
abbrev b_CS_upperOf : ByteArray := prog_1_method_19_code
def y_CS_upperOf : MethodName := ⟨"CharacterSets", "upperOf", "(I)I"⟩
def w_CS_upperOf : List Cond := .code y_CS_upperOf b_CS_upperOf 6 (some .int) :: lw_ok
abbrev b_CS_lowerOf : ByteArray := prog_1_method_20_code
def y_CS_lowerOf : MethodName := ⟨"CharacterSets", "lowerOf", "(I)I"⟩
def w_CS_lowerOf : List Cond := .code y_CS_lowerOf b_CS_lowerOf 5 (some .int) :: lw_ok
abbrev b_CS_addGathered : ByteArray := prog_1_method_21_code
def y_CS_addGathered : MethodName := ⟨"CharacterSets", "addGathered", "(LCharacterSets$Ranges;Z)I"⟩
def w_CS_addGathered : List Cond := .code y_CS_addGathered b_CS_addGathered 3 (some .int) :: lw_ok
abbrev b_CS_gatherProperty : ByteArray := prog_1_method_22_code
def y_CS_gatherProperty : MethodName := ⟨"CharacterSets", "gatherProperty", "(I)V"⟩
def w_CS_gatherProperty : List Cond := .code y_CS_gatherProperty b_CS_gatherProperty 2 none :: lw_ok
abbrev b_CS_categoriesOf : ByteArray := prog_1_method_23_code
def y_CS_categoriesOf : MethodName := ⟨"CharacterSets", "categoriesOf", "(I)I"⟩
def w_CS_categoriesOf : List Cond := .code y_CS_categoriesOf b_CS_categoriesOf 1 (some .int) :: lw_ok
abbrev b_CS_gatherNamed : ByteArray := prog_1_method_24_code
def y_CS_gatherNamed : MethodName := ⟨"CharacterSets", "gatherNamed", "(I)V"⟩
def w_CS_gatherNamed : List Cond := .code y_CS_gatherNamed b_CS_gatherNamed 3 none :: lw_ok
abbrev b_CS_propertyOf : ByteArray := prog_1_method_25_code
def y_CS_propertyOf : MethodName := ⟨"CharacterSets", "propertyOf", "(I)I"⟩
def w_CS_propertyOf : List Cond := .code y_CS_propertyOf b_CS_propertyOf 1 (some .int) :: lw_ok
abbrev b_CS_listOf : ByteArray := prog_1_method_26_code
def y_CS_listOf : MethodName := ⟨"CharacterSets", "listOf", "(I)[I"⟩
def w_CS_listOf : List Cond := .code y_CS_listOf b_CS_listOf 1 (some (.array .int)) :: lw_ok
abbrev b_CS_gatherList : ByteArray := prog_1_method_27_code
def y_CS_gatherList : MethodName := ⟨"CharacterSets", "gatherList", "([I)V"⟩
def w_CS_gatherList : List Cond := .code y_CS_gatherList b_CS_gatherList 3 none :: lw_ok
abbrev b_CS_gatherCategories : ByteArray := prog_1_method_28_code
def y_CS_gatherCategories : MethodName := ⟨"CharacterSets", "gatherCategories", "(II)V"⟩
def w_CS_gatherCategories : List Cond := .code y_CS_gatherCategories b_CS_gatherCategories 4 none :: lw_ok
abbrev b_CS_gatherScript : ByteArray := prog_1_method_29_code
def y_CS_gatherScript : MethodName := ⟨"CharacterSets", "gatherScript", "(I)V"⟩
def w_CS_gatherScript : List Cond := .code y_CS_gatherScript b_CS_gatherScript 3 none :: lw_ok
abbrev b_CS_gather : ByteArray := prog_1_method_30_code
def y_CS_gather : MethodName := ⟨"CharacterSets", "gather", "(II)V"⟩
def w_CS_gather : List Cond := .code y_CS_gather b_CS_gather 4 none :: lw_ok
abbrev b_MO_init : ByteArray := prog_6_method_1_code
def y_MO_init : MethodName := ⟨"CharacterSetsModel", "<init>", "(I)V"⟩
def w_MO_init : List Cond := .code y_MO_init b_MO_init 3 none :: lw_ok
abbrev b_MO_kinds : ByteArray := prog_6_method_2_code
def y_MO_kinds : MethodName := ⟨"CharacterSetsModel", "kinds", "(III)V"⟩
def w_MO_kinds : List Cond := .code y_MO_kinds b_MO_kinds 5 none :: lw_ok
abbrev b_MO_table0 : ByteArray := prog_6_method_3_code
def y_MO_table0 : MethodName := ⟨"CharacterSetsModel", "table0", "()V"⟩
def w_MO_table0 : List Cond := .code y_MO_table0 b_MO_table0 1 none :: lw_ok
abbrev b_MO_table1 : ByteArray := prog_6_method_4_code
def y_MO_table1 : MethodName := ⟨"CharacterSetsModel", "table1", "()V"⟩
def w_MO_table1 : List Cond := .code y_MO_table1 b_MO_table1 1 none :: lw_ok
abbrev b_MO_table2 : ByteArray := prog_6_method_5_code
def y_MO_table2 : MethodName := ⟨"CharacterSetsModel", "table2", "()V"⟩
def w_MO_table2 : List Cond := .code y_MO_table2 b_MO_table2 1 none :: lw_ok
abbrev b_MO_table3 : ByteArray := prog_6_method_6_code
def y_MO_table3 : MethodName := ⟨"CharacterSetsModel", "table3", "()V"⟩
def w_MO_table3 : List Cond := .code y_MO_table3 b_MO_table3 1 none :: lw_ok
abbrev b_MO_category : ByteArray := prog_6_method_7_code
def y_MO_category : MethodName := ⟨"CharacterSetsModel", "category", "(I)I"⟩
def w_MO_category : List Cond := .code y_MO_category b_MO_category 2 (some .int) :: lw_ok
abbrev b_MO_script : ByteArray := prog_6_method_8_code
def y_MO_script : MethodName := ⟨"CharacterSetsModel", "script", "(I)I"⟩
def w_MO_script : List Cond := .code y_MO_script b_MO_script 3 (some .int) :: lw_ok
abbrev b_MO_withMate : ByteArray := prog_6_method_9_code
def y_MO_withMate : MethodName := ⟨"CharacterSetsModel", "withMate", "(I)V"⟩
def w_MO_withMate : List Cond := .code y_MO_withMate b_MO_withMate 2 none :: lw_ok
abbrev b_MO_inAny : ByteArray := prog_6_method_10_code
def y_MO_inAny : MethodName := ⟨"CharacterSetsModel", "inAny", "(III)Z"⟩
def w_MO_inAny : List Cond := .code y_MO_inAny b_MO_inAny 4 (some .boolean) :: lw_ok
abbrev b_MO_pair : ByteArray := prog_6_method_11_code
def y_MO_pair : MethodName := ⟨"CharacterSetsModel", "pair", "(I)I"⟩
def w_MO_pair : List Cond := .code y_MO_pair b_MO_pair 3 (some .int) :: lw_ok
abbrev b_MO_third : ByteArray := prog_6_method_12_code
def y_MO_third : MethodName := ⟨"CharacterSetsModel", "third", "(I)I"⟩
def w_MO_third : List Cond := .code y_MO_third b_MO_third 2 (some .int) :: lw_ok
abbrev b_MO_first : ByteArray := prog_6_method_13_code
def y_MO_first : MethodName := ⟨"CharacterSetsModel", "first", "(I)I"⟩
def w_MO_first : List Cond := .code y_MO_first b_MO_first 2 (some .int) :: lw_ok
abbrev b_MO_caseOf : ByteArray := prog_6_method_14_code
def y_MO_caseOf : MethodName := ⟨"CharacterSetsModel", "caseOf", "(I)V"⟩
def w_MO_caseOf : List Cond := .code y_MO_caseOf b_MO_caseOf 4 none :: lw_ok
abbrev b_MO_upper : ByteArray := prog_6_method_15_code
def y_MO_upper : MethodName := ⟨"CharacterSetsModel", "upper", "(I)I"⟩
def w_MO_upper : List Cond := .code y_MO_upper b_MO_upper 4 (some .int) :: lw_ok
abbrev b_MO_lower : ByteArray := prog_6_method_16_code
def y_MO_lower : MethodName := ⟨"CharacterSetsModel", "lower", "(I)I"⟩
def w_MO_lower : List Cond := .code y_MO_lower b_MO_lower 3 (some .int) :: lw_ok
abbrev b_MO_next : ByteArray := prog_6_method_17_code
def y_MO_next : MethodName := ⟨"CharacterSetsModel", "next", "(I)I"⟩
def w_MO_next : List Cond := .code y_MO_next b_MO_next 5 (some .int) :: lw_ok
abbrev b_MO_none : ByteArray := prog_6_method_18_code
def y_MO_none : MethodName := ⟨"CharacterSetsModel", "none", "(I)Z"⟩
def w_MO_none : List Cond := .code y_MO_none b_MO_none 2 (some .boolean) :: lw_ok
abbrev b_MO_in : ByteArray := prog_6_method_19_code
def y_MO_in : MethodName := ⟨"CharacterSetsModel", "in", "(II)Z"⟩
def w_MO_in : List Cond := .code y_MO_in b_MO_in 3 (some .boolean) :: lw_ok
abbrev b_MO_put : ByteArray := prog_6_method_20_code
def y_MO_put : MethodName := ⟨"CharacterSetsModel", "put", "(II)V"⟩
def w_MO_put : List Cond := .code y_MO_put b_MO_put 3 none :: lw_ok
abbrev b_MO_fill : ByteArray := prog_6_method_21_code
def y_MO_fill : MethodName := ⟨"CharacterSetsModel", "fill", "(III)V"⟩
def w_MO_fill : List Cond := .code y_MO_fill b_MO_fill 5 none :: lw_ok
abbrev b_MO_ones : ByteArray := prog_6_method_22_code
def y_MO_ones : MethodName := ⟨"CharacterSetsModel", "ones", "(J)I"⟩
def w_MO_ones : List Cond := .code y_MO_ones b_MO_ones 5 (some .int) :: lw_ok
abbrev b_MO_ranges : ByteArray := prog_6_method_23_code
def y_MO_ranges : MethodName := ⟨"CharacterSetsModel", "ranges", "(I)I"⟩
def w_MO_ranges : List Cond := .code y_MO_ranges b_MO_ranges 8 (some .int) :: lw_ok
abbrev b_MO_clear : ByteArray := prog_6_method_24_code
def y_MO_clear : MethodName := ⟨"CharacterSetsModel", "clear", "(I)I"⟩
def w_MO_clear : List Cond := .code y_MO_clear b_MO_clear 3 (some .int) :: lw_ok
abbrev b_MO_range : ByteArray := prog_6_method_25_code
def y_MO_range : MethodName := ⟨"CharacterSetsModel", "range", "(III)I"⟩
def w_MO_range : List Cond := .code y_MO_range b_MO_range 4 (some .int) :: lw_ok
abbrev b_MO_holds : ByteArray := prog_6_method_26_code
def y_MO_holds : MethodName := ⟨"CharacterSetsModel", "holds", "(II)Z"⟩
def w_MO_holds : List Cond := .code y_MO_holds b_MO_holds 4 (some .boolean) :: lw_ok
abbrev b_MO_general : ByteArray := prog_6_method_27_code
def y_MO_general : MethodName := ⟨"CharacterSetsModel", "general", "(II)Z"⟩
def w_MO_general : List Cond := .code y_MO_general b_MO_general 3 (some .boolean) :: lw_ok
abbrev b_MO_property : ByteArray := prog_6_method_28_code
def y_MO_property : MethodName := ⟨"CharacterSetsModel", "property", "(IIZZ)I"⟩
def w_MO_property : List Cond := .code y_MO_property b_MO_property 8 (some .int) :: lw_ok
abbrev b_MO_alpha : ByteArray := prog_6_method_29_code
def y_MO_alpha : MethodName := ⟨"CharacterSetsModel", "alpha", "(I)Z"⟩
def w_MO_alpha : List Cond := .code y_MO_alpha b_MO_alpha 2 (some .boolean) :: lw_ok
abbrev b_MO_digit : ByteArray := prog_6_method_30_code
def y_MO_digit : MethodName := ⟨"CharacterSetsModel", "digit", "(I)Z"⟩
def w_MO_digit : List Cond := .code y_MO_digit b_MO_digit 2 (some .boolean) :: lw_ok
abbrev b_MO_blank : ByteArray := prog_6_method_31_code
def y_MO_blank : MethodName := ⟨"CharacterSetsModel", "blank", "(I)Z"⟩
def w_MO_blank : List Cond := .code y_MO_blank b_MO_blank 2 (some .boolean) :: lw_ok
abbrev b_MO_plainly : ByteArray := prog_6_method_32_code
def y_MO_plainly : MethodName := ⟨"CharacterSetsModel", "plainly", "(II)Z"⟩
def w_MO_plainly : List Cond := .code y_MO_plainly b_MO_plainly 4 (some .boolean) :: lw_ok
abbrev b_MO_widely : ByteArray := prog_6_method_33_code
def y_MO_widely : MethodName := ⟨"CharacterSetsModel", "widely", "(II)Z"⟩
def w_MO_widely : List Cond := .code y_MO_widely b_MO_widely 5 (some .boolean) :: lw_ok
abbrev b_MO_names : ByteArray := prog_6_method_34_code
def y_MO_names : MethodName := ⟨"CharacterSetsModel", "names", "(II)Z"⟩
def w_MO_names : List Cond := .code y_MO_names b_MO_names 3 (some .boolean) :: lw_ok
abbrev b_MO_named : ByteArray := prog_6_method_35_code
def y_MO_named : MethodName := ⟨"CharacterSetsModel", "named", "(IIZZ)I"⟩
def w_MO_named : List Cond := .code y_MO_named b_MO_named 8 (some .int) :: lw_ok
abbrev b_MO_count : ByteArray := prog_6_method_36_code
def y_MO_count : MethodName := ⟨"CharacterSetsModel", "count", "(I)I"⟩
def w_MO_count : List Cond := .code y_MO_count b_MO_count 4 (some .int) :: lw_ok
abbrev b_MO_close : ByteArray := prog_6_method_37_code
def y_MO_close : MethodName := ⟨"CharacterSetsModel", "close", "(I)I"⟩
def w_MO_close : List Cond := .code y_MO_close b_MO_close 6 (some .int) :: lw_ok
abbrev b_MO_invert : ByteArray := prog_6_method_38_code
def y_MO_invert : MethodName := ⟨"CharacterSetsModel", "invert", "(I)I"⟩
def w_MO_invert : List Cond := .code y_MO_invert b_MO_invert 3 (some .int) :: lw_ok
abbrev b_MO_join : ByteArray := prog_6_method_39_code
def y_MO_join : MethodName := ⟨"CharacterSetsModel", "join", "(II)I"⟩
def w_MO_join : List Cond := .code y_MO_join b_MO_join 4 (some .int) :: lw_ok
abbrev b_MO_meets : ByteArray := prog_6_method_40_code
def y_MO_meets : MethodName := ⟨"CharacterSetsModel", "meets", "(II)I"⟩
def w_MO_meets : List Cond := .code y_MO_meets b_MO_meets 6 (some .int) :: lw_ok
abbrev b_MO_same : ByteArray := prog_6_method_41_code
def y_MO_same : MethodName := ⟨"CharacterSetsModel", "same", "(II)I"⟩
def w_MO_same : List Cond := .code y_MO_same b_MO_same 6 (some .int) :: lw_ok
abbrev b_MO_has : ByteArray := prog_6_method_42_code
def y_MO_has : MethodName := ⟨"CharacterSetsModel", "has", "(II)I"⟩
def w_MO_has : List Cond := .code y_MO_has b_MO_has 3 (some .int) :: lw_ok
abbrev b_MO_size : ByteArray := prog_6_method_43_code
def y_MO_size : MethodName := ⟨"CharacterSetsModel", "size", "(I)I"⟩
def w_MO_size : List Cond := .code y_MO_size b_MO_size 2 (some .int) :: lw_ok
abbrev b_MO_least : ByteArray := prog_6_method_44_code
def y_MO_least : MethodName := ⟨"CharacterSetsModel", "least", "(II)I"⟩
def w_MO_least : List Cond := .code y_MO_least b_MO_least 4 (some .int) :: lw_ok
abbrev b_MO_bound : ByteArray := prog_6_method_45_code
def y_MO_bound : MethodName := ⟨"CharacterSetsModel", "bound", "(IIZ)I"⟩
def w_MO_bound : List Cond := .code y_MO_bound b_MO_bound 6 (some .int) :: lw_ok
abbrev b_MO_after : ByteArray := prog_6_method_46_code
def y_MO_after : MethodName := ⟨"CharacterSetsModel", "after", "(II)I"⟩
def w_MO_after : List Cond := .code y_MO_after b_MO_after 4 (some .int) :: lw_ok
abbrev b_MO_about : ByteArray := prog_6_method_47_code
def y_MO_about : MethodName := ⟨"CharacterSetsModel", "about", "(II)I"⟩
def w_MO_about : List Cond := .code y_MO_about b_MO_about 3 (some .int) :: lw_ok
abbrev b_CR_init : ByteArray := prog_2_method_1_code
def y_CR_init : MethodName := ⟨"CharacterSets$CaseRings", "<init>", "(ZI)V"⟩
def w_CR_init : List Cond := .code y_CR_init b_CR_init 5 none :: lw_ok
abbrev b_CR_characterAt : ByteArray := prog_2_method_2_code
def y_CR_characterAt : MethodName := ⟨"CharacterSets$CaseRings", "characterAt", "(I)I"⟩
def w_CR_characterAt : List Cond := .code y_CR_characterAt b_CR_characterAt 1 (some .int) :: lw_ok
abbrev b_CR_nextOf : ByteArray := prog_2_method_3_code
def y_CR_nextOf : MethodName := ⟨"CharacterSets$CaseRings", "nextOf", "(I)I"⟩
def w_CR_nextOf : List Cond := .code y_CR_nextOf b_CR_nextOf 3 (some .int) :: lw_ok
abbrev b_CR_slotOf : ByteArray := prog_2_method_4_code
def y_CR_slotOf : MethodName := ⟨"CharacterSets$CaseRings", "slotOf", "(I)I"⟩
def w_CR_slotOf : List Cond := .code y_CR_slotOf b_CR_slotOf 1 (some .int) :: lw_ok
abbrev b_CR_linkPairs : ByteArray := prog_2_method_5_code
def y_CR_linkPairs : MethodName := ⟨"CharacterSets$CaseRings", "linkPairs", "(I)V"⟩
def w_CR_linkPairs : List Cond := .code y_CR_linkPairs b_CR_linkPairs 5 none :: lw_ok
abbrev b_CR_linkThree : ByteArray := prog_2_method_6_code
def y_CR_linkThree : MethodName := ⟨"CharacterSets$CaseRings", "linkThree", "(III)V"⟩
def w_CR_linkThree : List Cond := .code y_CR_linkThree b_CR_linkThree 4 none :: lw_ok
abbrev b_CR_point : ByteArray := prog_2_method_7_code
def y_CR_point : MethodName := ⟨"CharacterSets$CaseRings", "point", "(II)V"⟩
def w_CR_point : List Cond := .code y_CR_point b_CR_point 4 none :: lw_ok
abbrev b_RG_init : ByteArray := prog_3_method_1_code
def y_RG_init : MethodName := ⟨"CharacterSets$Ranges", "<init>", "()V"⟩
def w_RG_init : List Cond := .code y_RG_init b_RG_init 1 none :: lw_ok
abbrev b_RG_empty : ByteArray := prog_3_method_2_code
def y_RG_empty : MethodName := ⟨"CharacterSets$Ranges", "empty", "()V"⟩
def w_RG_empty : List Cond := .code y_RG_empty b_RG_empty 1 none :: lw_ok
abbrev b_RG_rangeCount : ByteArray := prog_3_method_3_code
def y_RG_rangeCount : MethodName := ⟨"CharacterSets$Ranges", "rangeCount", "()I"⟩
def w_RG_rangeCount : List Cond := .code y_RG_rangeCount b_RG_rangeCount 1 (some .int) :: lw_ok
abbrev b_RG_lowOf : ByteArray := prog_3_method_4_code
def y_RG_lowOf : MethodName := ⟨"CharacterSets$Ranges", "lowOf", "(I)I"⟩
def w_RG_lowOf : List Cond := .code y_RG_lowOf b_RG_lowOf 2 (some .int) :: lw_ok
abbrev b_RG_highOf : ByteArray := prog_3_method_5_code
def y_RG_highOf : MethodName := ⟨"CharacterSets$Ranges", "highOf", "(I)I"⟩
def w_RG_highOf : List Cond := .code y_RG_highOf b_RG_highOf 2 (some .int) :: lw_ok
abbrev b_RG_memberCount : ByteArray := prog_3_method_6_code
def y_RG_memberCount : MethodName := ⟨"CharacterSets$Ranges", "memberCount", "()I"⟩
def w_RG_memberCount : List Cond := .code y_RG_memberCount b_RG_memberCount 3 (some .int) :: lw_ok
abbrev b_RG_contains : ByteArray := prog_3_method_7_code
def y_RG_contains : MethodName := ⟨"CharacterSets$Ranges", "contains", "(I)Z"⟩
def w_RG_contains : List Cond := .code y_RG_contains b_RG_contains 2 (some .boolean) :: lw_ok
abbrev b_RG_firstFrom : ByteArray := prog_3_method_8_code
def y_RG_firstFrom : MethodName := ⟨"CharacterSets$Ranges", "firstFrom", "(I)I"⟩
def w_RG_firstFrom : List Cond := .code y_RG_firstFrom b_RG_firstFrom 3 (some .int) :: lw_ok
abbrev b_RG_matches : ByteArray := prog_3_method_9_code
def y_RG_matches : MethodName := ⟨"CharacterSets$Ranges", "matches", "(LCharacterSets$Ranges;)Z"⟩
def w_RG_matches : List Cond := .code y_RG_matches b_RG_matches 3 (some .boolean) :: lw_ok
abbrev b_RG_overlaps : ByteArray := prog_3_method_10_code
def y_RG_overlaps : MethodName := ⟨"CharacterSets$Ranges", "overlaps", "(LCharacterSets$Ranges;)Z"⟩
def w_RG_overlaps : List Cond := .code y_RG_overlaps b_RG_overlaps 4 (some .boolean) :: lw_ok
abbrev b_RG_insert : ByteArray := prog_3_method_11_code
def y_RG_insert : MethodName := ⟨"CharacterSets$Ranges", "insert", "(II)V"⟩
def w_RG_insert : List Cond := .code y_RG_insert b_RG_insert 9 none :: lw_ok
abbrev b_RG_insertAll : ByteArray := prog_3_method_12_code
def y_RG_insertAll : MethodName := ⟨"CharacterSets$Ranges", "insertAll", "(LCharacterSets$Ranges;)V"⟩
def w_RG_insertAll : List Cond := .code y_RG_insertAll b_RG_insertAll 3 none :: lw_ok
abbrev b_RG_complement : ByteArray := prog_3_method_13_code
def y_RG_complement : MethodName := ⟨"CharacterSets$Ranges", "complement", "(I)V"⟩
def w_RG_complement : List Cond := .code y_RG_complement b_RG_complement 2 none :: lw_ok
abbrev b_RG_edgesUpTo : ByteArray := prog_3_method_14_code
def y_RG_edgesUpTo : MethodName := ⟨"CharacterSets$Ranges", "edgesUpTo", "(I)I"⟩
def w_RG_edgesUpTo : List Cond := .code y_RG_edgesUpTo b_RG_edgesUpTo 5 (some .int) :: lw_ok
abbrev b_TB_init : ByteArray := prog_4_method_1_code
def y_TB_init : MethodName := ⟨"CharacterSets$Table", "<init>", "()V"⟩
def w_TB_init : List Cond := .code y_TB_init b_TB_init 4 none :: lw_ok
abbrev b_TB_pieceCount : ByteArray := prog_4_method_2_code
def y_TB_pieceCount : MethodName := ⟨"CharacterSets$Table", "pieceCount", "()I"⟩
def w_TB_pieceCount : List Cond := .code y_TB_pieceCount b_TB_pieceCount 1 (some .int) :: lw_ok
abbrev b_TB_pieceLow : ByteArray := prog_4_method_3_code
def y_TB_pieceLow : MethodName := ⟨"CharacterSets$Table", "pieceLow", "(I)I"⟩
def w_TB_pieceLow : List Cond := .code y_TB_pieceLow b_TB_pieceLow 2 (some .int) :: lw_ok
abbrev b_TB_pieceHigh : ByteArray := prog_4_method_4_code
def y_TB_pieceHigh : MethodName := ⟨"CharacterSets$Table", "pieceHigh", "(I)I"⟩
def w_TB_pieceHigh : List Cond := .code y_TB_pieceHigh b_TB_pieceHigh 2 (some .int) :: lw_ok
abbrev b_TB_pieceCategory : ByteArray := prog_4_method_5_code
def y_TB_pieceCategory : MethodName := ⟨"CharacterSets$Table", "pieceCategory", "(I)I"⟩
def w_TB_pieceCategory : List Cond := .code y_TB_pieceCategory b_TB_pieceCategory 2 (some .int) :: lw_ok
abbrev b_TB_pieceScript : ByteArray := prog_4_method_6_code
def y_TB_pieceScript : MethodName := ⟨"CharacterSets$Table", "pieceScript", "(I)I"⟩
def w_TB_pieceScript : List Cond := .code y_TB_pieceScript b_TB_pieceScript 2 (some .int) :: lw_ok
abbrev b_TB_categoryOf : ByteArray := prog_4_method_7_code
def y_TB_categoryOf : MethodName := ⟨"CharacterSets$Table", "categoryOf", "(I)I"⟩
def w_TB_categoryOf : List Cond := .code y_TB_categoryOf b_TB_categoryOf 2 (some .int) :: lw_ok
abbrev b_TB_scriptOf : ByteArray := prog_4_method_8_code
def y_TB_scriptOf : MethodName := ⟨"CharacterSets$Table", "scriptOf", "(I)I"⟩
def w_TB_scriptOf : List Cond := .code y_TB_scriptOf b_TB_scriptOf 2 (some .int) :: lw_ok
abbrev b_TB_pieceOf : ByteArray := prog_4_method_9_code
def y_TB_pieceOf : MethodName := ⟨"CharacterSets$Table", "pieceOf", "(I)I"⟩
def w_TB_pieceOf : List Cond := .code y_TB_pieceOf b_TB_pieceOf 4 (some .int) :: lw_ok
abbrev b_TB_addRow : ByteArray := prog_4_method_10_code
def y_TB_addRow : MethodName := ⟨"CharacterSets$Table", "addRow", "(III)V"⟩
def w_TB_addRow : List Cond := .code y_TB_addRow b_TB_addRow 5 none :: lw_ok
abbrev b_TB_addPiece : ByteArray := prog_4_method_11_code
def y_TB_addPiece : MethodName := ⟨"CharacterSets$Table", "addPiece", "(II)V"⟩
def w_TB_addPiece : List Cond := .code y_TB_addPiece b_TB_addPiece 3 none :: lw_ok
abbrev b_TB_findScript : ByteArray := prog_4_method_12_code
def y_TB_findScript : MethodName := ⟨"CharacterSets$Table", "findScript", "(II)I"⟩
def w_TB_findScript : List Cond := .code y_TB_findScript b_TB_findScript 3 (some .int) :: lw_ok
abbrev b_LA_cell : ByteArray := method_2_code
def y_LA_cell : MethodName := ⟨"CharacterSetsLaw", "cell", "([II)I"⟩
def w_LA_cell : List Cond := .code y_LA_cell b_LA_cell 2 (some .int) :: lw_ok
theorem s_0 : (.selects "CharacterSets$Table" ⟨"CharacterSets$Table", "addPiece", "(II)V"⟩ ⟨"CharacterSets$Table", "addPiece", "(II)V"⟩ : Cond) ∈ lw_ok := lw_in (List.mem_append_left _ (List.mem_of_getElem? (i := 0) rfl)) rfl
theorem s_1 : (.selects "CharacterSets$Table" ⟨"CharacterSets$Table", "addRow", "(III)V"⟩ ⟨"CharacterSets$Table", "addRow", "(III)V"⟩ : Cond) ∈ lw_ok := lw_in (List.mem_append_left _ (List.mem_of_getElem? (i := 1) rfl)) rfl
theorem s_2 : (.selects "CharacterSets$CaseRings" ⟨"CharacterSets$CaseRings", "linkPairs", "(I)V"⟩ ⟨"CharacterSets$CaseRings", "linkPairs", "(I)V"⟩ : Cond) ∈ lw_ok := lw_in (List.mem_append_left _ (List.mem_of_getElem? (i := 2) rfl)) rfl
theorem s_3 : (.selects "CharacterSets$CaseRings" ⟨"CharacterSets$CaseRings", "point", "(II)V"⟩ ⟨"CharacterSets$CaseRings", "point", "(II)V"⟩ : Cond) ∈ lw_ok := lw_in (List.mem_append_left _ (List.mem_of_getElem? (i := 3) rfl)) rfl
theorem s_4 : (.selects "CharacterSets$CaseRings" ⟨"CharacterSets$CaseRings", "linkThree", "(III)V"⟩ ⟨"CharacterSets$CaseRings", "linkThree", "(III)V"⟩ : Cond) ∈ lw_ok := lw_in (List.mem_append_left _ (List.mem_of_getElem? (i := 4) rfl)) rfl
theorem s_5 : (.selects "CharacterSets" ⟨"CharacterSets", "isThere", "(I)Z"⟩ ⟨"CharacterSets", "isThere", "(I)Z"⟩ : Cond) ∈ lw_ok := lw_in (List.mem_append_left _ (List.mem_of_getElem? (i := 5) rfl)) rfl
theorem s_6 : (.selects "CharacterSets$Ranges" ⟨"CharacterSets$Ranges", "edgesUpTo", "(I)I"⟩ ⟨"CharacterSets$Ranges", "edgesUpTo", "(I)I"⟩ : Cond) ∈ lw_ok := lw_in (List.mem_append_left _ (List.mem_of_getElem? (i := 6) rfl)) rfl
theorem s_7 : (.selects "CharacterSets" ⟨"CharacterSets", "gatherProperty", "(I)V"⟩ ⟨"CharacterSets", "gatherProperty", "(I)V"⟩ : Cond) ∈ lw_ok := lw_in (List.mem_append_left _ (List.mem_of_getElem? (i := 7) rfl)) rfl
theorem s_8 : (.selects "CharacterSets" ⟨"CharacterSets", "gatherScript", "(I)V"⟩ ⟨"CharacterSets", "gatherScript", "(I)V"⟩ : Cond) ∈ lw_ok := lw_in (List.mem_append_left _ (List.mem_of_getElem? (i := 8) rfl)) rfl
theorem s_9 : (.selects "CharacterSets" ⟨"CharacterSets", "gather", "(II)V"⟩ ⟨"CharacterSets", "gather", "(II)V"⟩ : Cond) ∈ lw_ok := lw_in (List.mem_append_left _ (List.mem_of_getElem? (i := 9) rfl)) rfl
theorem s_10 : (.selects "CharacterSets" ⟨"CharacterSets", "gatherCategories", "(II)V"⟩ ⟨"CharacterSets", "gatherCategories", "(II)V"⟩ : Cond) ∈ lw_ok := lw_in (List.mem_append_left _ (List.mem_of_getElem? (i := 10) rfl)) rfl
theorem s_11 : (.selects "CharacterSets" ⟨"CharacterSets", "addGathered", "(LCharacterSets$Ranges;Z)I"⟩ ⟨"CharacterSets", "addGathered", "(LCharacterSets$Ranges;Z)I"⟩ : Cond) ∈ lw_ok := lw_in (List.mem_append_left _ (List.mem_of_getElem? (i := 11) rfl)) rfl
theorem s_12 : (.selects "CharacterSets" ⟨"CharacterSets", "gatherNamed", "(I)V"⟩ ⟨"CharacterSets", "gatherNamed", "(I)V"⟩ : Cond) ∈ lw_ok := lw_in (List.mem_append_left _ (List.mem_of_getElem? (i := 12) rfl)) rfl
theorem s_13 : (.selects "CharacterSets" ⟨"CharacterSets", "gatherList", "([I)V"⟩ ⟨"CharacterSets", "gatherList", "([I)V"⟩ : Cond) ∈ lw_ok := lw_in (List.mem_append_left _ (List.mem_of_getElem? (i := 13) rfl)) rfl
theorem s_14 : (.selects "CharacterSets" ⟨"CharacterSets", "isMissing", "(LCharacterSets$Ranges;I)Z"⟩ ⟨"CharacterSets", "isMissing", "(LCharacterSets$Ranges;I)Z"⟩ : Cond) ∈ lw_ok := lw_in (List.mem_append_left _ (List.mem_of_getElem? (i := 14) rfl)) rfl
theorem s_15 : (.selects "CharacterSets$Table" ⟨"CharacterSets$Table", "pieceOf", "(I)I"⟩ ⟨"CharacterSets$Table", "pieceOf", "(I)I"⟩ : Cond) ∈ lw_ok := lw_in (List.mem_append_left _ (List.mem_of_getElem? (i := 15) rfl)) rfl
theorem s_16 : (.selects "CharacterSets" ⟨"CharacterSets", "upperOf", "(I)I"⟩ ⟨"CharacterSets", "upperOf", "(I)I"⟩ : Cond) ∈ lw_ok := lw_in (List.mem_append_left _ (List.mem_of_getElem? (i := 16) rfl)) rfl
theorem s_17 : (.selects "CharacterSets" ⟨"CharacterSets", "lowerOf", "(I)I"⟩ ⟨"CharacterSets", "lowerOf", "(I)I"⟩ : Cond) ∈ lw_ok := lw_in (List.mem_append_left _ (List.mem_of_getElem? (i := 17) rfl)) rfl
theorem s_18 : (.selects "CharacterSetsModel" ⟨"CharacterSetsModel", "table0", "()V"⟩ ⟨"CharacterSetsModel", "table0", "()V"⟩ : Cond) ∈ lw_ok := lw_in (List.mem_append_left _ (List.mem_of_getElem? (i := 18) rfl)) rfl
theorem s_19 : (.selects "CharacterSetsModel" ⟨"CharacterSetsModel", "kinds", "(III)V"⟩ ⟨"CharacterSetsModel", "kinds", "(III)V"⟩ : Cond) ∈ lw_ok := lw_in (List.mem_append_left _ (List.mem_of_getElem? (i := 19) rfl)) rfl
theorem s_20 : (.selects "CharacterSetsModel" ⟨"CharacterSetsModel", "table1", "()V"⟩ ⟨"CharacterSetsModel", "table1", "()V"⟩ : Cond) ∈ lw_ok := lw_in (List.mem_append_left _ (List.mem_of_getElem? (i := 20) rfl)) rfl
theorem s_21 : (.selects "CharacterSetsModel" ⟨"CharacterSetsModel", "table2", "()V"⟩ ⟨"CharacterSetsModel", "table2", "()V"⟩ : Cond) ∈ lw_ok := lw_in (List.mem_append_left _ (List.mem_of_getElem? (i := 21) rfl)) rfl
theorem s_22 : (.selects "CharacterSetsModel" ⟨"CharacterSetsModel", "table3", "()V"⟩ ⟨"CharacterSetsModel", "table3", "()V"⟩ : Cond) ∈ lw_ok := lw_in (List.mem_append_left _ (List.mem_of_getElem? (i := 22) rfl)) rfl
theorem s_23 : (.selects "CharacterSetsModel" ⟨"CharacterSetsModel", "none", "(I)Z"⟩ ⟨"CharacterSetsModel", "none", "(I)Z"⟩ : Cond) ∈ lw_ok := lw_in (List.mem_append_left _ (List.mem_of_getElem? (i := 23) rfl)) rfl
theorem s_24 : (.selects "CharacterSetsModel" ⟨"CharacterSetsModel", "fill", "(III)V"⟩ ⟨"CharacterSetsModel", "fill", "(III)V"⟩ : Cond) ∈ lw_ok := lw_in (List.mem_append_left _ (List.mem_of_getElem? (i := 24) rfl)) rfl
theorem s_25 : (.selects "CharacterSetsModel" ⟨"CharacterSetsModel", "put", "(II)V"⟩ ⟨"CharacterSetsModel", "put", "(II)V"⟩ : Cond) ∈ lw_ok := lw_in (List.mem_append_left _ (List.mem_of_getElem? (i := 25) rfl)) rfl
theorem s_26 : (.selects "CharacterSetsModel" ⟨"CharacterSetsModel", "ranges", "(I)I"⟩ ⟨"CharacterSetsModel", "ranges", "(I)I"⟩ : Cond) ∈ lw_ok := lw_in (List.mem_append_left _ (List.mem_of_getElem? (i := 26) rfl)) rfl
theorem s_27 : (.selects "CharacterSetsModel" ⟨"CharacterSetsModel", "ones", "(J)I"⟩ ⟨"CharacterSetsModel", "ones", "(J)I"⟩ : Cond) ∈ lw_ok := lw_in (List.mem_append_left _ (List.mem_of_getElem? (i := 27) rfl)) rfl
theorem s_28 : (.selects "CharacterSetsModel" ⟨"CharacterSetsModel", "holds", "(II)Z"⟩ ⟨"CharacterSetsModel", "holds", "(II)Z"⟩ : Cond) ∈ lw_ok := lw_in (List.mem_append_left _ (List.mem_of_getElem? (i := 28) rfl)) rfl
theorem s_29 : (.selects "CharacterSetsModel" ⟨"CharacterSetsModel", "category", "(I)I"⟩ ⟨"CharacterSetsModel", "category", "(I)I"⟩ : Cond) ∈ lw_ok := lw_in (List.mem_append_left _ (List.mem_of_getElem? (i := 29) rfl)) rfl
theorem s_30 : (.selects "CharacterSetsModel" ⟨"CharacterSetsModel", "general", "(II)Z"⟩ ⟨"CharacterSetsModel", "general", "(II)Z"⟩ : Cond) ∈ lw_ok := lw_in (List.mem_append_left _ (List.mem_of_getElem? (i := 30) rfl)) rfl
theorem s_31 : (.selects "CharacterSetsModel" ⟨"CharacterSetsModel", "script", "(I)I"⟩ ⟨"CharacterSetsModel", "script", "(I)I"⟩ : Cond) ∈ lw_ok := lw_in (List.mem_append_left _ (List.mem_of_getElem? (i := 31) rfl)) rfl
theorem s_32 : (.selects "CharacterSetsModel" ⟨"CharacterSetsModel", "names", "(II)Z"⟩ ⟨"CharacterSetsModel", "names", "(II)Z"⟩ : Cond) ∈ lw_ok := lw_in (List.mem_append_left _ (List.mem_of_getElem? (i := 32) rfl)) rfl
theorem s_33 : (.selects "CharacterSetsModel" ⟨"CharacterSetsModel", "widely", "(II)Z"⟩ ⟨"CharacterSetsModel", "widely", "(II)Z"⟩ : Cond) ∈ lw_ok := lw_in (List.mem_append_left _ (List.mem_of_getElem? (i := 33) rfl)) rfl
theorem s_34 : (.selects "CharacterSetsModel" ⟨"CharacterSetsModel", "blank", "(I)Z"⟩ ⟨"CharacterSetsModel", "blank", "(I)Z"⟩ : Cond) ∈ lw_ok := lw_in (List.mem_append_left _ (List.mem_of_getElem? (i := 34) rfl)) rfl
theorem s_35 : (.selects "CharacterSetsModel" ⟨"CharacterSetsModel", "plainly", "(II)Z"⟩ ⟨"CharacterSetsModel", "plainly", "(II)Z"⟩ : Cond) ∈ lw_ok := lw_in (List.mem_append_left _ (List.mem_of_getElem? (i := 35) rfl)) rfl
theorem s_36 : (.selects "CharacterSetsModel" ⟨"CharacterSetsModel", "digit", "(I)Z"⟩ ⟨"CharacterSetsModel", "digit", "(I)Z"⟩ : Cond) ∈ lw_ok := lw_in (List.mem_append_left _ (List.mem_of_getElem? (i := 36) rfl)) rfl
theorem s_37 : (.selects "CharacterSetsModel" ⟨"CharacterSetsModel", "alpha", "(I)Z"⟩ ⟨"CharacterSetsModel", "alpha", "(I)Z"⟩ : Cond) ∈ lw_ok := lw_in (List.mem_append_left _ (List.mem_of_getElem? (i := 37) rfl)) rfl
theorem s_38 : (.selects "CharacterSetsModel" ⟨"CharacterSetsModel", "count", "(I)I"⟩ ⟨"CharacterSetsModel", "count", "(I)I"⟩ : Cond) ∈ lw_ok := lw_in (List.mem_append_left _ (List.mem_of_getElem? (i := 38) rfl)) rfl
theorem s_39 : (.selects "CharacterSetsModel" ⟨"CharacterSetsModel", "in", "(II)Z"⟩ ⟨"CharacterSetsModel", "in", "(II)Z"⟩ : Cond) ∈ lw_ok := lw_in (List.mem_append_left _ (List.mem_of_getElem? (i := 39) rfl)) rfl
theorem s_40 : (.selects "CharacterSetsModel" ⟨"CharacterSetsModel", "caseOf", "(I)V"⟩ ⟨"CharacterSetsModel", "caseOf", "(I)V"⟩ : Cond) ∈ lw_ok := lw_in (List.mem_append_left _ (List.mem_of_getElem? (i := 40) rfl)) rfl
theorem s_41 : (.selects "CharacterSetsModel" ⟨"CharacterSetsModel", "first", "(I)I"⟩ ⟨"CharacterSetsModel", "first", "(I)I"⟩ : Cond) ∈ lw_ok := lw_in (List.mem_append_left _ (List.mem_of_getElem? (i := 41) rfl)) rfl
theorem s_42 : (.selects "CharacterSetsModel" ⟨"CharacterSetsModel", "third", "(I)I"⟩ ⟨"CharacterSetsModel", "third", "(I)I"⟩ : Cond) ∈ lw_ok := lw_in (List.mem_append_left _ (List.mem_of_getElem? (i := 42) rfl)) rfl
theorem s_43 : (.selects "CharacterSetsModel" ⟨"CharacterSetsModel", "pair", "(I)I"⟩ ⟨"CharacterSetsModel", "pair", "(I)I"⟩ : Cond) ∈ lw_ok := lw_in (List.mem_append_left _ (List.mem_of_getElem? (i := 43) rfl)) rfl
theorem s_44 : (.selects "CharacterSetsModel" ⟨"CharacterSetsModel", "inAny", "(III)Z"⟩ ⟨"CharacterSetsModel", "inAny", "(III)Z"⟩ : Cond) ∈ lw_ok := lw_in (List.mem_append_left _ (List.mem_of_getElem? (i := 44) rfl)) rfl
theorem s_45 : (.selects "CharacterSetsModel" ⟨"CharacterSetsModel", "withMate", "(I)V"⟩ ⟨"CharacterSetsModel", "withMate", "(I)V"⟩ : Cond) ∈ lw_ok := lw_in (List.mem_append_left _ (List.mem_of_getElem? (i := 45) rfl)) rfl
theorem s_46 : (.selects "CharacterSetsModel" ⟨"CharacterSetsModel", "after", "(II)I"⟩ ⟨"CharacterSetsModel", "after", "(II)I"⟩ : Cond) ∈ lw_ok := lw_in (List.mem_append_left _ (List.mem_of_getElem? (i := 46) rfl)) rfl
theorem s_47 : (.selects "CharacterSetsModel" ⟨"CharacterSetsModel", "upper", "(I)I"⟩ ⟨"CharacterSetsModel", "upper", "(I)I"⟩ : Cond) ∈ lw_ok := lw_in (List.mem_append_left _ (List.mem_of_getElem? (i := 47) rfl)) rfl
theorem s_48 : (.selects "CharacterSetsModel" ⟨"CharacterSetsModel", "lower", "(I)I"⟩ ⟨"CharacterSetsModel", "lower", "(I)I"⟩ : Cond) ∈ lw_ok := lw_in (List.mem_append_left _ (List.mem_of_getElem? (i := 48) rfl)) rfl
theorem s_49 : (.selects "CharacterSetsModel" ⟨"CharacterSetsModel", "next", "(I)I"⟩ ⟨"CharacterSetsModel", "next", "(I)I"⟩ : Cond) ∈ lw_ok := lw_in (List.mem_append_left _ (List.mem_of_getElem? (i := 49) rfl)) rfl
theorem k_0 : (Jvm.Cond.initialized "CharacterSetsLaw" : Cond) ∈ lw_ok := lw_in (List.mem_append_right _ (List.mem_append_left _ (List.mem_of_getElem? (i := 0) rfl))) rfl
theorem k_1 : (Jvm.Cond.initialized "CharacterSets" : Cond) ∈ lw_ok := lw_in (List.mem_append_right _ (List.mem_append_left _ (List.mem_of_getElem? (i := 1) rfl))) rfl
theorem k_2 : (Jvm.Cond.initialized "CharacterSets$Table" : Cond) ∈ lw_ok := lw_in (List.mem_append_right _ (List.mem_append_left _ (List.mem_of_getElem? (i := 2) rfl))) rfl
theorem k_3 : (Jvm.Cond.initialized "CharacterSets$CaseRings" : Cond) ∈ lw_ok := lw_in (List.mem_append_right _ (List.mem_append_left _ (List.mem_of_getElem? (i := 3) rfl))) rfl
theorem k_4 : (Jvm.Cond.initialized "CharacterSets$Ranges" : Cond) ∈ lw_ok := lw_in (List.mem_append_right _ (List.mem_append_left _ (List.mem_of_getElem? (i := 4) rfl))) rfl
theorem k_5 : (Jvm.Cond.initialized "CharacterSetsModel" : Cond) ∈ lw_ok := lw_in (List.mem_append_right _ (List.mem_append_left _ (List.mem_of_getElem? (i := 5) rfl))) rfl
theorem k_6 : (Jvm.Cond.initialized "java/lang/System" : Cond) ∈ lw_ok := lw_in (List.mem_append_right _ (List.mem_append_left _ (List.mem_of_getElem? (i := 6) rfl))) rfl
theorem k_7 : (Jvm.Cond.initialized "java/lang/Math" : Cond) ∈ lw_ok := lw_in (List.mem_append_right _ (List.mem_append_left _ (List.mem_of_getElem? (i := 7) rfl))) rfl
theorem k_8 : (Jvm.Cond.classLink "CharacterSetsLaw" (7 : Nat) "CharacterSets" : Cond) ∈ lw_ok := lw_in (List.mem_append_right _ (List.mem_append_left _ (List.mem_of_getElem? (i := 8) rfl))) rfl
theorem k_9 : (Jvm.Cond.instantiable "CharacterSets" (6 : Nat) : Cond) ∈ lw_ok := lw_in (List.mem_append_right _ (List.mem_append_left _ (List.mem_of_getElem? (i := 9) rfl))) rfl
theorem k_10 : (Jvm.Cond.methodLink "CharacterSetsLaw" (15 : Nat) ({ cls := "CharacterSets", name := "<init>", desc := "(I)V" } : Jvm.MethodName) : Cond) ∈ lw_ok := lw_in (List.mem_append_right _ (List.mem_append_left _ (List.mem_of_getElem? (i := 10) rfl))) rfl
theorem k_11 : (Jvm.Cond.instanceMethod ({ cls := "CharacterSets", name := "<init>", desc := "(I)V" } : Jvm.MethodName) : Cond) ∈ lw_ok := lw_in (List.mem_append_right _ (List.mem_append_left _ (List.mem_of_getElem? (i := 11) rfl))) rfl
theorem k_12 : (Jvm.Cond.code ({ cls := "CharacterSets", name := "<init>", desc := "(I)V" } : Jvm.MethodName) prog_1_method_1_code (4 : Nat) (Option.none : Option Jvm.ClassFile.FieldType) : Cond) ∈ lw_ok := lw_in (List.mem_append_right _ (List.mem_append_left _ (List.mem_of_getElem? (i := 12) rfl))) rfl
theorem k_13 : (Jvm.Cond.methodLink "CharacterSets" (3 : Nat) ({ cls := "java/lang/Object", name := "<init>", desc := "()V" } : Jvm.MethodName) : Cond) ∈ lw_ok := lw_in (List.mem_append_right _ (List.mem_append_left _ (List.mem_of_getElem? (i := 13) rfl))) rfl
theorem k_14 : (Jvm.Cond.instanceMethod ({ cls := "java/lang/Object", name := "<init>", desc := "()V" } : Jvm.MethodName) : Cond) ∈ lw_ok := lw_in (List.mem_append_right _ (List.mem_append_left _ (List.mem_of_getElem? (i := 14) rfl))) rfl
theorem k_15 : (Jvm.Cond.code ({ cls := "java/lang/Object", name := "<init>", desc := "()V" } : Jvm.MethodName) object_method_1_code (1 : Nat) (Option.none : Option Jvm.ClassFile.FieldType) : Cond) ∈ lw_ok := lw_in (List.mem_append_right _ (List.mem_append_left _ (List.mem_of_getElem? (i := 15) rfl))) rfl
theorem k_16 : (Jvm.Cond.constant "CharacterSets" (13 : Nat) (1114111 : Int32) : Cond) ∈ lw_ok := lw_in (List.mem_append_right _ (List.mem_append_left _ (List.mem_of_getElem? (i := 16) rfl))) rfl
theorem k_17 : (Jvm.Cond.classLink "CharacterSets" (18 : Nat) "CharacterSets$Table" : Cond) ∈ lw_ok := lw_in (List.mem_append_right _ (List.mem_append_left _ (List.mem_of_getElem? (i := 17) rfl))) rfl
theorem k_18 : (Jvm.Cond.instantiable "CharacterSets$Table" (4 : Nat) : Cond) ∈ lw_ok := lw_in (List.mem_append_right _ (List.mem_append_left _ (List.mem_of_getElem? (i := 18) rfl))) rfl
theorem k_19 : (Jvm.Cond.methodLink "CharacterSets" (20 : Nat) ({ cls := "CharacterSets$Table", name := "<init>", desc := "()V" } : Jvm.MethodName) : Cond) ∈ lw_ok := lw_in (List.mem_append_right _ (List.mem_append_left _ (List.mem_of_getElem? (i := 19) rfl))) rfl
theorem k_20 : (Jvm.Cond.instanceMethod ({ cls := "CharacterSets$Table", name := "<init>", desc := "()V" } : Jvm.MethodName) : Cond) ∈ lw_ok := lw_in (List.mem_append_right _ (List.mem_append_left _ (List.mem_of_getElem? (i := 20) rfl))) rfl
theorem k_21 : (Jvm.Cond.code ({ cls := "CharacterSets$Table", name := "<init>", desc := "()V" } : Jvm.MethodName) prog_4_method_1_code (4 : Nat) (Option.none : Option Jvm.ClassFile.FieldType) : Cond) ∈ lw_ok := lw_in (List.mem_append_right _ (List.mem_append_left _ (List.mem_of_getElem? (i := 21) rfl))) rfl
theorem k_22 : (Jvm.Cond.methodLink "CharacterSets$Table" (3 : Nat) ({ cls := "java/lang/Object", name := "<init>", desc := "()V" } : Jvm.MethodName) : Cond) ∈ lw_ok := lw_in (List.mem_append_right _ (List.mem_append_left _ (List.mem_of_getElem? (i := 22) rfl))) rfl
theorem k_23 : (Jvm.Cond.fieldLink "CharacterSets$Table" (25 : Nat) "CharacterSets$Table" "CATEGORY_ROWS" "[I" : Cond) ∈ lw_ok := lw_in (List.mem_append_right _ (List.mem_append_left _ (List.mem_of_getElem? (i := 23) rfl))) rfl
theorem k_24 : (Jvm.Cond.laysStatic "CharacterSets$Table" "CATEGORY_ROWS" "[I" : Cond) ∈ lw_tbl := List.mem_append_right _ (List.mem_append_left _ (List.mem_of_getElem? (i := 24) rfl))
theorem k_25 : (Jvm.Cond.methodLink "CharacterSets$Table" (28 : Nat) ({ cls := "CharacterSets$Table", name := "addPiece", desc := "(II)V" } : Jvm.MethodName) : Cond) ∈ lw_ok := lw_in (List.mem_append_right _ (List.mem_append_left _ (List.mem_of_getElem? (i := 25) rfl))) rfl
theorem k_26 : (Jvm.Cond.privateMethod ({ cls := "CharacterSets$Table", name := "addPiece", desc := "(II)V" } : Jvm.MethodName) : Cond) ∈ lw_tbl := List.mem_append_right _ (List.mem_append_left _ (List.mem_of_getElem? (i := 26) rfl))
theorem k_27 : (Jvm.Cond.instanceMethod ({ cls := "CharacterSets$Table", name := "addPiece", desc := "(II)V" } : Jvm.MethodName) : Cond) ∈ lw_ok := lw_in (List.mem_append_right _ (List.mem_append_left _ (List.mem_of_getElem? (i := 27) rfl))) rfl
theorem k_28 : (Jvm.Cond.code ({ cls := "CharacterSets$Table", name := "addPiece", desc := "(II)V" } : Jvm.MethodName) prog_4_method_11_code (3 : Nat) (Option.none : Option Jvm.ClassFile.FieldType) : Cond) ∈ lw_ok := lw_in (List.mem_append_right _ (List.mem_append_left _ (List.mem_of_getElem? (i := 28) rfl))) rfl
theorem k_29 : (Jvm.Cond.methodLink "CharacterSets$Table" (41 : Nat) ({ cls := "CharacterSets$Table", name := "findScript", desc := "(II)I" } : Jvm.MethodName) : Cond) ∈ lw_ok := lw_in (List.mem_append_right _ (List.mem_append_left _ (List.mem_of_getElem? (i := 29) rfl))) rfl
theorem k_30 : (Jvm.Cond.static ({ cls := "CharacterSets$Table", name := "findScript", desc := "(II)I" } : Jvm.MethodName) : Cond) ∈ lw_ok := lw_in (List.mem_append_right _ (List.mem_append_left _ (List.mem_of_getElem? (i := 30) rfl))) rfl
theorem k_31 : (Jvm.Cond.code ({ cls := "CharacterSets$Table", name := "findScript", desc := "(II)I" } : Jvm.MethodName) prog_4_method_12_code (3 : Nat) (Option.some Jvm.ClassFile.FieldType.int) : Cond) ∈ lw_ok := lw_in (List.mem_append_right _ (List.mem_append_left _ (List.mem_of_getElem? (i := 31) rfl))) rfl
theorem k_32 : (Jvm.Cond.fieldLink "CharacterSets$Table" (45 : Nat) "CharacterSets$Table" "SCRIPT_ROWS" "[I" : Cond) ∈ lw_ok := lw_in (List.mem_append_right _ (List.mem_append_left _ (List.mem_of_getElem? (i := 32) rfl))) rfl
theorem k_33 : (Jvm.Cond.laysStatic "CharacterSets$Table" "SCRIPT_ROWS" "[I" : Cond) ∈ lw_tbl := List.mem_append_right _ (List.mem_append_left _ (List.mem_of_getElem? (i := 33) rfl))
theorem k_34 : (Jvm.Cond.methodLink "CharacterSets$Table" (32 : Nat) ({ cls := "CharacterSets$Table", name := "addRow", desc := "(III)V" } : Jvm.MethodName) : Cond) ∈ lw_ok := lw_in (List.mem_append_right _ (List.mem_append_left _ (List.mem_of_getElem? (i := 34) rfl))) rfl
theorem k_35 : (Jvm.Cond.privateMethod ({ cls := "CharacterSets$Table", name := "addRow", desc := "(III)V" } : Jvm.MethodName) : Cond) ∈ lw_tbl := List.mem_append_right _ (List.mem_append_left _ (List.mem_of_getElem? (i := 35) rfl))
theorem k_36 : (Jvm.Cond.instanceMethod ({ cls := "CharacterSets$Table", name := "addRow", desc := "(III)V" } : Jvm.MethodName) : Cond) ∈ lw_ok := lw_in (List.mem_append_right _ (List.mem_append_left _ (List.mem_of_getElem? (i := 36) rfl))) rfl
theorem k_37 : (Jvm.Cond.code ({ cls := "CharacterSets$Table", name := "addRow", desc := "(III)V" } : Jvm.MethodName) prog_4_method_10_code (5 : Nat) (Option.none : Option Jvm.ClassFile.FieldType) : Cond) ∈ lw_ok := lw_in (List.mem_append_right _ (List.mem_append_left _ (List.mem_of_getElem? (i := 37) rfl))) rfl
theorem k_38 : (Jvm.Cond.fieldLink "CharacterSets$Table" (11 : Nat) "CharacterSets$Table" "lows" "[I" : Cond) ∈ lw_ok := lw_in (List.mem_append_right _ (List.mem_append_left _ (List.mem_of_getElem? (i := 38) rfl))) rfl
theorem k_39 : (Jvm.Cond.fieldLink "CharacterSets$Table" (15 : Nat) "CharacterSets$Table" "categories" "[I" : Cond) ∈ lw_ok := lw_in (List.mem_append_right _ (List.mem_append_left _ (List.mem_of_getElem? (i := 39) rfl))) rfl
theorem k_40 : (Jvm.Cond.fieldLink "CharacterSets$Table" (18 : Nat) "CharacterSets$Table" "scripts" "[I" : Cond) ∈ lw_ok := lw_in (List.mem_append_right _ (List.mem_append_left _ (List.mem_of_getElem? (i := 40) rfl))) rfl
theorem k_41 : (Jvm.Cond.fieldLink "CharacterSets$Table" (21 : Nat) "CharacterSets$Table" "count" "I" : Cond) ∈ lw_ok := lw_in (List.mem_append_right _ (List.mem_append_left _ (List.mem_of_getElem? (i := 41) rfl))) rfl
theorem k_42 : (Jvm.Cond.laysFinal "CharacterSets$Table" "CharacterSets$Table" "lows" "[I" : Cond) ∈ lw_ok := lw_in (List.mem_append_right _ (List.mem_append_left _ (List.mem_of_getElem? (i := 42) rfl))) rfl
theorem k_43 : (Jvm.Cond.soleField "CharacterSets$Table" "lows" : Cond) ∈ lw_ok := lw_in (List.mem_append_right _ (List.mem_append_left _ (List.mem_of_getElem? (i := 43) rfl))) rfl
theorem k_44 : (Jvm.Cond.laysFinal "CharacterSets$Table" "CharacterSets$Table" "categories" "[I" : Cond) ∈ lw_ok := lw_in (List.mem_append_right _ (List.mem_append_left _ (List.mem_of_getElem? (i := 44) rfl))) rfl
theorem k_45 : (Jvm.Cond.soleField "CharacterSets$Table" "categories" : Cond) ∈ lw_ok := lw_in (List.mem_append_right _ (List.mem_append_left _ (List.mem_of_getElem? (i := 45) rfl))) rfl
theorem k_46 : (Jvm.Cond.laysFinal "CharacterSets$Table" "CharacterSets$Table" "scripts" "[I" : Cond) ∈ lw_ok := lw_in (List.mem_append_right _ (List.mem_append_left _ (List.mem_of_getElem? (i := 46) rfl))) rfl
theorem k_47 : (Jvm.Cond.soleField "CharacterSets$Table" "scripts" : Cond) ∈ lw_ok := lw_in (List.mem_append_right _ (List.mem_append_left _ (List.mem_of_getElem? (i := 47) rfl))) rfl
theorem k_48 : (Jvm.Cond.lays "CharacterSets$Table" "CharacterSets$Table" "count" "I" : Cond) ∈ lw_ok := lw_in (List.mem_append_right _ (List.mem_append_left _ (List.mem_of_getElem? (i := 48) rfl))) rfl
theorem k_49 : (Jvm.Cond.soleField "CharacterSets$Table" "count" : Cond) ∈ lw_ok := lw_in (List.mem_append_right _ (List.mem_append_left _ (List.mem_of_getElem? (i := 49) rfl))) rfl
theorem k_50 : (Jvm.Cond.superclass "CharacterSets$Table" "java/lang/Object" : Cond) ∈ lw_ok := lw_in (List.mem_append_right _ (List.mem_append_left _ (List.mem_of_getElem? (i := 50) rfl))) rfl
theorem k_51 : (Jvm.Cond.arrayClass Jvm.ClassFile.FieldType.int : Cond) ∈ lw_ok := lw_in (List.mem_append_right _ (List.mem_append_left _ (List.mem_of_getElem? (i := 51) rfl))) rfl
theorem k_52 : (Jvm.Cond.classLink "CharacterSets" (25 : Nat) "CharacterSets$CaseRings" : Cond) ∈ lw_ok := lw_in (List.mem_append_right _ (List.mem_append_left _ (List.mem_of_getElem? (i := 52) rfl))) rfl
theorem k_53 : (Jvm.Cond.instantiable "CharacterSets$CaseRings" (2 : Nat) : Cond) ∈ lw_ok := lw_in (List.mem_append_right _ (List.mem_append_left _ (List.mem_of_getElem? (i := 53) rfl))) rfl
theorem k_54 : (Jvm.Cond.methodLink "CharacterSets" (27 : Nat) ({ cls := "CharacterSets$CaseRings", name := "<init>", desc := "(ZI)V" } : Jvm.MethodName) : Cond) ∈ lw_ok := lw_in (List.mem_append_right _ (List.mem_append_left _ (List.mem_of_getElem? (i := 54) rfl))) rfl
theorem k_55 : (Jvm.Cond.instanceMethod ({ cls := "CharacterSets$CaseRings", name := "<init>", desc := "(ZI)V" } : Jvm.MethodName) : Cond) ∈ lw_ok := lw_in (List.mem_append_right _ (List.mem_append_left _ (List.mem_of_getElem? (i := 55) rfl))) rfl
theorem k_56 : (Jvm.Cond.code ({ cls := "CharacterSets$CaseRings", name := "<init>", desc := "(ZI)V" } : Jvm.MethodName) prog_2_method_1_code (5 : Nat) (Option.none : Option Jvm.ClassFile.FieldType) : Cond) ∈ lw_ok := lw_in (List.mem_append_right _ (List.mem_append_left _ (List.mem_of_getElem? (i := 56) rfl))) rfl
theorem k_57 : (Jvm.Cond.methodLink "CharacterSets$CaseRings" (3 : Nat) ({ cls := "java/lang/Object", name := "<init>", desc := "()V" } : Jvm.MethodName) : Cond) ∈ lw_ok := lw_in (List.mem_append_right _ (List.mem_append_left _ (List.mem_of_getElem? (i := 57) rfl))) rfl
theorem k_58 : (Jvm.Cond.methodLink "CharacterSets$CaseRings" (17 : Nat) ({ cls := "CharacterSets$CaseRings", name := "characterAt", desc := "(I)I" } : Jvm.MethodName) : Cond) ∈ lw_ok := lw_in (List.mem_append_right _ (List.mem_append_left _ (List.mem_of_getElem? (i := 58) rfl))) rfl
theorem k_59 : (Jvm.Cond.static ({ cls := "CharacterSets$CaseRings", name := "characterAt", desc := "(I)I" } : Jvm.MethodName) : Cond) ∈ lw_ok := lw_in (List.mem_append_right _ (List.mem_append_left _ (List.mem_of_getElem? (i := 59) rfl))) rfl
theorem k_60 : (Jvm.Cond.code ({ cls := "CharacterSets$CaseRings", name := "characterAt", desc := "(I)I" } : Jvm.MethodName) prog_2_method_2_code (1 : Nat) (Option.some Jvm.ClassFile.FieldType.int) : Cond) ∈ lw_ok := lw_in (List.mem_append_right _ (List.mem_append_left _ (List.mem_of_getElem? (i := 60) rfl))) rfl
theorem k_61 : (Jvm.Cond.fieldLink "CharacterSets$CaseRings" (21 : Nat) "CharacterSets$CaseRings" "PAIR_ROWS" "[I" : Cond) ∈ lw_ok := lw_in (List.mem_append_right _ (List.mem_append_left _ (List.mem_of_getElem? (i := 61) rfl))) rfl
theorem k_62 : (Jvm.Cond.laysStatic "CharacterSets$CaseRings" "PAIR_ROWS" "[I" : Cond) ∈ lw_tbl := List.mem_append_right _ (List.mem_append_left _ (List.mem_of_getElem? (i := 62) rfl))
theorem k_63 : (Jvm.Cond.methodLink "CharacterSets$CaseRings" (24 : Nat) ({ cls := "CharacterSets$CaseRings", name := "linkPairs", desc := "(I)V" } : Jvm.MethodName) : Cond) ∈ lw_ok := lw_in (List.mem_append_right _ (List.mem_append_left _ (List.mem_of_getElem? (i := 63) rfl))) rfl
theorem k_64 : (Jvm.Cond.privateMethod ({ cls := "CharacterSets$CaseRings", name := "linkPairs", desc := "(I)V" } : Jvm.MethodName) : Cond) ∈ lw_tbl := List.mem_append_right _ (List.mem_append_left _ (List.mem_of_getElem? (i := 64) rfl))
theorem k_65 : (Jvm.Cond.instanceMethod ({ cls := "CharacterSets$CaseRings", name := "linkPairs", desc := "(I)V" } : Jvm.MethodName) : Cond) ∈ lw_ok := lw_in (List.mem_append_right _ (List.mem_append_left _ (List.mem_of_getElem? (i := 65) rfl))) rfl
theorem k_66 : (Jvm.Cond.code ({ cls := "CharacterSets$CaseRings", name := "linkPairs", desc := "(I)V" } : Jvm.MethodName) prog_2_method_5_code (5 : Nat) (Option.none : Option Jvm.ClassFile.FieldType) : Cond) ∈ lw_ok := lw_in (List.mem_append_right _ (List.mem_append_left _ (List.mem_of_getElem? (i := 66) rfl))) rfl
theorem k_67 : (Jvm.Cond.methodLink "CharacterSets$CaseRings" (38 : Nat) ({ cls := "CharacterSets$CaseRings", name := "point", desc := "(II)V" } : Jvm.MethodName) : Cond) ∈ lw_ok := lw_in (List.mem_append_right _ (List.mem_append_left _ (List.mem_of_getElem? (i := 67) rfl))) rfl
theorem k_68 : (Jvm.Cond.privateMethod ({ cls := "CharacterSets$CaseRings", name := "point", desc := "(II)V" } : Jvm.MethodName) : Cond) ∈ lw_tbl := List.mem_append_right _ (List.mem_append_left _ (List.mem_of_getElem? (i := 68) rfl))
theorem k_69 : (Jvm.Cond.instanceMethod ({ cls := "CharacterSets$CaseRings", name := "point", desc := "(II)V" } : Jvm.MethodName) : Cond) ∈ lw_ok := lw_in (List.mem_append_right _ (List.mem_append_left _ (List.mem_of_getElem? (i := 69) rfl))) rfl
theorem k_70 : (Jvm.Cond.code ({ cls := "CharacterSets$CaseRings", name := "point", desc := "(II)V" } : Jvm.MethodName) prog_2_method_7_code (4 : Nat) (Option.none : Option Jvm.ClassFile.FieldType) : Cond) ∈ lw_ok := lw_in (List.mem_append_right _ (List.mem_append_left _ (List.mem_of_getElem? (i := 70) rfl))) rfl
theorem k_71 : (Jvm.Cond.methodLink "CharacterSets$CaseRings" (35 : Nat) ({ cls := "CharacterSets$CaseRings", name := "slotOf", desc := "(I)I" } : Jvm.MethodName) : Cond) ∈ lw_ok := lw_in (List.mem_append_right _ (List.mem_append_left _ (List.mem_of_getElem? (i := 71) rfl))) rfl
theorem k_72 : (Jvm.Cond.static ({ cls := "CharacterSets$CaseRings", name := "slotOf", desc := "(I)I" } : Jvm.MethodName) : Cond) ∈ lw_ok := lw_in (List.mem_append_right _ (List.mem_append_left _ (List.mem_of_getElem? (i := 72) rfl))) rfl
theorem k_73 : (Jvm.Cond.code ({ cls := "CharacterSets$CaseRings", name := "slotOf", desc := "(I)I" } : Jvm.MethodName) prog_2_method_4_code (1 : Nat) (Option.some Jvm.ClassFile.FieldType.int) : Cond) ∈ lw_ok := lw_in (List.mem_append_right _ (List.mem_append_left _ (List.mem_of_getElem? (i := 73) rfl))) rfl
theorem k_74 : (Jvm.Cond.fieldLink "CharacterSets$CaseRings" (28 : Nat) "CharacterSets$CaseRings" "TRIPLES" "[I" : Cond) ∈ lw_ok := lw_in (List.mem_append_right _ (List.mem_append_left _ (List.mem_of_getElem? (i := 74) rfl))) rfl
theorem k_75 : (Jvm.Cond.laysStatic "CharacterSets$CaseRings" "TRIPLES" "[I" : Cond) ∈ lw_tbl := List.mem_append_right _ (List.mem_append_left _ (List.mem_of_getElem? (i := 75) rfl))
theorem k_76 : (Jvm.Cond.methodLink "CharacterSets$CaseRings" (31 : Nat) ({ cls := "CharacterSets$CaseRings", name := "linkThree", desc := "(III)V" } : Jvm.MethodName) : Cond) ∈ lw_ok := lw_in (List.mem_append_right _ (List.mem_append_left _ (List.mem_of_getElem? (i := 76) rfl))) rfl
theorem k_77 : (Jvm.Cond.privateMethod ({ cls := "CharacterSets$CaseRings", name := "linkThree", desc := "(III)V" } : Jvm.MethodName) : Cond) ∈ lw_tbl := List.mem_append_right _ (List.mem_append_left _ (List.mem_of_getElem? (i := 77) rfl))
theorem k_78 : (Jvm.Cond.instanceMethod ({ cls := "CharacterSets$CaseRings", name := "linkThree", desc := "(III)V" } : Jvm.MethodName) : Cond) ∈ lw_ok := lw_in (List.mem_append_right _ (List.mem_append_left _ (List.mem_of_getElem? (i := 78) rfl))) rfl
theorem k_79 : (Jvm.Cond.code ({ cls := "CharacterSets$CaseRings", name := "linkThree", desc := "(III)V" } : Jvm.MethodName) prog_2_method_6_code (4 : Nat) (Option.none : Option Jvm.ClassFile.FieldType) : Cond) ∈ lw_ok := lw_in (List.mem_append_right _ (List.mem_append_left _ (List.mem_of_getElem? (i := 79) rfl))) rfl
theorem k_80 : (Jvm.Cond.fieldLink "CharacterSets$CaseRings" (9 : Nat) "CharacterSets$CaseRings" "last" "I" : Cond) ∈ lw_ok := lw_in (List.mem_append_right _ (List.mem_append_left _ (List.mem_of_getElem? (i := 80) rfl))) rfl
theorem k_81 : (Jvm.Cond.fieldLink "CharacterSets$CaseRings" (13 : Nat) "CharacterSets$CaseRings" "next" "[I" : Cond) ∈ lw_ok := lw_in (List.mem_append_right _ (List.mem_append_left _ (List.mem_of_getElem? (i := 81) rfl))) rfl
theorem k_82 : (Jvm.Cond.laysFinal "CharacterSets$CaseRings" "CharacterSets$CaseRings" "last" "I" : Cond) ∈ lw_ok := lw_in (List.mem_append_right _ (List.mem_append_left _ (List.mem_of_getElem? (i := 82) rfl))) rfl
theorem k_83 : (Jvm.Cond.soleField "CharacterSets$CaseRings" "last" : Cond) ∈ lw_ok := lw_in (List.mem_append_right _ (List.mem_append_left _ (List.mem_of_getElem? (i := 83) rfl))) rfl
theorem k_84 : (Jvm.Cond.laysFinal "CharacterSets$CaseRings" "CharacterSets$CaseRings" "next" "[I" : Cond) ∈ lw_ok := lw_in (List.mem_append_right _ (List.mem_append_left _ (List.mem_of_getElem? (i := 84) rfl))) rfl
theorem k_85 : (Jvm.Cond.soleField "CharacterSets$CaseRings" "next" : Cond) ∈ lw_ok := lw_in (List.mem_append_right _ (List.mem_append_left _ (List.mem_of_getElem? (i := 85) rfl))) rfl
theorem k_86 : (Jvm.Cond.superclass "CharacterSets$CaseRings" "java/lang/Object" : Cond) ∈ lw_ok := lw_in (List.mem_append_right _ (List.mem_append_left _ (List.mem_of_getElem? (i := 86) rfl))) rfl
theorem k_87 : (Jvm.Cond.classLink "CharacterSets" (34 : Nat) "CharacterSets$Ranges" : Cond) ∈ lw_ok := lw_in (List.mem_append_right _ (List.mem_append_left _ (List.mem_of_getElem? (i := 87) rfl))) rfl
theorem k_88 : (Jvm.Cond.instantiable "CharacterSets$Ranges" (2 : Nat) : Cond) ∈ lw_ok := lw_in (List.mem_append_right _ (List.mem_append_left _ (List.mem_of_getElem? (i := 88) rfl))) rfl
theorem k_89 : (Jvm.Cond.methodLink "CharacterSets" (36 : Nat) ({ cls := "CharacterSets$Ranges", name := "<init>", desc := "()V" } : Jvm.MethodName) : Cond) ∈ lw_ok := lw_in (List.mem_append_right _ (List.mem_append_left _ (List.mem_of_getElem? (i := 89) rfl))) rfl
theorem k_90 : (Jvm.Cond.instanceMethod ({ cls := "CharacterSets$Ranges", name := "<init>", desc := "()V" } : Jvm.MethodName) : Cond) ∈ lw_ok := lw_in (List.mem_append_right _ (List.mem_append_left _ (List.mem_of_getElem? (i := 90) rfl))) rfl
theorem k_91 : (Jvm.Cond.code ({ cls := "CharacterSets$Ranges", name := "<init>", desc := "()V" } : Jvm.MethodName) prog_3_method_1_code (1 : Nat) (Option.none : Option Jvm.ClassFile.FieldType) : Cond) ∈ lw_ok := lw_in (List.mem_append_right _ (List.mem_append_left _ (List.mem_of_getElem? (i := 91) rfl))) rfl
theorem k_92 : (Jvm.Cond.methodLink "CharacterSets$Ranges" (1 : Nat) ({ cls := "java/lang/Object", name := "<init>", desc := "()V" } : Jvm.MethodName) : Cond) ∈ lw_ok := lw_in (List.mem_append_right _ (List.mem_append_left _ (List.mem_of_getElem? (i := 92) rfl))) rfl
theorem k_93 : (Jvm.Cond.fieldLink "CharacterSets$Ranges" (9 : Nat) "CharacterSets$Ranges" "edges" "[I" : Cond) ∈ lw_ok := lw_in (List.mem_append_right _ (List.mem_append_left _ (List.mem_of_getElem? (i := 93) rfl))) rfl
theorem k_94 : (Jvm.Cond.fieldLink "CharacterSets$Ranges" (13 : Nat) "CharacterSets$Ranges" "count" "I" : Cond) ∈ lw_ok := lw_in (List.mem_append_right _ (List.mem_append_left _ (List.mem_of_getElem? (i := 94) rfl))) rfl
theorem k_95 : (Jvm.Cond.laysFinal "CharacterSets$Ranges" "CharacterSets$Ranges" "edges" "[I" : Cond) ∈ lw_ok := lw_in (List.mem_append_right _ (List.mem_append_left _ (List.mem_of_getElem? (i := 95) rfl))) rfl
theorem k_96 : (Jvm.Cond.soleField "CharacterSets$Ranges" "edges" : Cond) ∈ lw_ok := lw_in (List.mem_append_right _ (List.mem_append_left _ (List.mem_of_getElem? (i := 96) rfl))) rfl
theorem k_97 : (Jvm.Cond.lays "CharacterSets$Ranges" "CharacterSets$Ranges" "count" "I" : Cond) ∈ lw_ok := lw_in (List.mem_append_right _ (List.mem_append_left _ (List.mem_of_getElem? (i := 97) rfl))) rfl
theorem k_98 : (Jvm.Cond.soleField "CharacterSets$Ranges" "count" : Cond) ∈ lw_ok := lw_in (List.mem_append_right _ (List.mem_append_left _ (List.mem_of_getElem? (i := 98) rfl))) rfl
theorem k_99 : (Jvm.Cond.superclass "CharacterSets$Ranges" "java/lang/Object" : Cond) ∈ lw_ok := lw_in (List.mem_append_right _ (List.mem_append_left _ (List.mem_of_getElem? (i := 99) rfl))) rfl
theorem k_100 : (Jvm.Cond.arrayOver (Jvm.ClassFile.FieldType.object "CharacterSets$Ranges") : Cond) ∈ lw_tbl := List.mem_append_right _ (List.mem_append_left _ (List.mem_of_getElem? (i := 100) rfl))
theorem k_101 : (Jvm.Cond.fieldLink "CharacterSets" (9 : Nat) "CharacterSets" "ucp" "Z" : Cond) ∈ lw_ok := lw_in (List.mem_append_right _ (List.mem_append_left _ (List.mem_of_getElem? (i := 101) rfl))) rfl
theorem k_102 : (Jvm.Cond.fieldLink "CharacterSets" (14 : Nat) "CharacterSets" "last" "I" : Cond) ∈ lw_ok := lw_in (List.mem_append_right _ (List.mem_append_left _ (List.mem_of_getElem? (i := 102) rfl))) rfl
theorem k_103 : (Jvm.Cond.fieldLink "CharacterSets" (21 : Nat) "CharacterSets" "table" "LCharacterSets$Table;" : Cond) ∈ lw_ok := lw_in (List.mem_append_right _ (List.mem_append_left _ (List.mem_of_getElem? (i := 103) rfl))) rfl
theorem k_104 : (Jvm.Cond.fieldLink "CharacterSets" (30 : Nat) "CharacterSets" "rings" "LCharacterSets$CaseRings;" : Cond) ∈ lw_ok := lw_in (List.mem_append_right _ (List.mem_append_left _ (List.mem_of_getElem? (i := 104) rfl))) rfl
theorem k_105 : (Jvm.Cond.fieldLink "CharacterSets" (41 : Nat) "CharacterSets" "sets" "[LCharacterSets$Ranges;" : Cond) ∈ lw_ok := lw_in (List.mem_append_right _ (List.mem_append_left _ (List.mem_of_getElem? (i := 105) rfl))) rfl
theorem k_106 : (Jvm.Cond.fieldLink "CharacterSets" (37 : Nat) "CharacterSets" "gathered" "LCharacterSets$Ranges;" : Cond) ∈ lw_ok := lw_in (List.mem_append_right _ (List.mem_append_left _ (List.mem_of_getElem? (i := 106) rfl))) rfl
theorem k_107 : (Jvm.Cond.laysFinal "CharacterSets" "CharacterSets" "ucp" "Z" : Cond) ∈ lw_ok := lw_in (List.mem_append_right _ (List.mem_append_left _ (List.mem_of_getElem? (i := 107) rfl))) rfl
theorem k_108 : (Jvm.Cond.soleField "CharacterSets" "ucp" : Cond) ∈ lw_ok := lw_in (List.mem_append_right _ (List.mem_append_left _ (List.mem_of_getElem? (i := 108) rfl))) rfl
theorem k_109 : (Jvm.Cond.laysFinal "CharacterSets" "CharacterSets" "last" "I" : Cond) ∈ lw_ok := lw_in (List.mem_append_right _ (List.mem_append_left _ (List.mem_of_getElem? (i := 109) rfl))) rfl
theorem k_110 : (Jvm.Cond.soleField "CharacterSets" "last" : Cond) ∈ lw_ok := lw_in (List.mem_append_right _ (List.mem_append_left _ (List.mem_of_getElem? (i := 110) rfl))) rfl
theorem k_111 : (Jvm.Cond.laysFinal "CharacterSets" "CharacterSets" "table" "LCharacterSets$Table;" : Cond) ∈ lw_ok := lw_in (List.mem_append_right _ (List.mem_append_left _ (List.mem_of_getElem? (i := 111) rfl))) rfl
theorem k_112 : (Jvm.Cond.soleField "CharacterSets" "table" : Cond) ∈ lw_ok := lw_in (List.mem_append_right _ (List.mem_append_left _ (List.mem_of_getElem? (i := 112) rfl))) rfl
theorem k_113 : (Jvm.Cond.laysFinal "CharacterSets" "CharacterSets" "rings" "LCharacterSets$CaseRings;" : Cond) ∈ lw_ok := lw_in (List.mem_append_right _ (List.mem_append_left _ (List.mem_of_getElem? (i := 113) rfl))) rfl
theorem k_114 : (Jvm.Cond.soleField "CharacterSets" "rings" : Cond) ∈ lw_ok := lw_in (List.mem_append_right _ (List.mem_append_left _ (List.mem_of_getElem? (i := 114) rfl))) rfl
theorem k_115 : (Jvm.Cond.laysFinal "CharacterSets" "CharacterSets" "sets" "[LCharacterSets$Ranges;" : Cond) ∈ lw_ok := lw_in (List.mem_append_right _ (List.mem_append_left _ (List.mem_of_getElem? (i := 115) rfl))) rfl
theorem k_116 : (Jvm.Cond.soleField "CharacterSets" "sets" : Cond) ∈ lw_ok := lw_in (List.mem_append_right _ (List.mem_append_left _ (List.mem_of_getElem? (i := 116) rfl))) rfl
theorem k_117 : (Jvm.Cond.laysFinal "CharacterSets" "CharacterSets" "gathered" "LCharacterSets$Ranges;" : Cond) ∈ lw_ok := lw_in (List.mem_append_right _ (List.mem_append_left _ (List.mem_of_getElem? (i := 117) rfl))) rfl
theorem k_118 : (Jvm.Cond.soleField "CharacterSets" "gathered" : Cond) ∈ lw_ok := lw_in (List.mem_append_right _ (List.mem_append_left _ (List.mem_of_getElem? (i := 118) rfl))) rfl
theorem k_119 : (Jvm.Cond.superclass "CharacterSets" "java/lang/Object" : Cond) ∈ lw_ok := lw_in (List.mem_append_right _ (List.mem_append_left _ (List.mem_of_getElem? (i := 119) rfl))) rfl
theorem k_120 : (Jvm.Cond.methodLink "CharacterSetsLaw" (21 : Nat) ({ cls := "CharacterSets", name := "clear", desc := "(I)I" } : Jvm.MethodName) : Cond) ∈ lw_ok := lw_in (List.mem_append_right _ (List.mem_append_left _ (List.mem_of_getElem? (i := 120) rfl))) rfl
theorem k_121 : (Jvm.Cond.instanceMethod ({ cls := "CharacterSets", name := "clear", desc := "(I)I" } : Jvm.MethodName) : Cond) ∈ lw_ok := lw_in (List.mem_append_right _ (List.mem_append_left _ (List.mem_of_getElem? (i := 121) rfl))) rfl
theorem k_122 : (Jvm.Cond.selects "CharacterSets" ({ cls := "CharacterSets", name := "clear", desc := "(I)I" } : Jvm.MethodName) ({ cls := "CharacterSets", name := "clear", desc := "(I)I" } : Jvm.MethodName) : Cond) ∈ lw_ok := lw_in (List.mem_append_right _ (List.mem_append_left _ (List.mem_of_getElem? (i := 122) rfl))) rfl
theorem k_123 : (Jvm.Cond.code ({ cls := "CharacterSets", name := "clear", desc := "(I)I" } : Jvm.MethodName) prog_1_method_2_code (2 : Nat) (Option.some Jvm.ClassFile.FieldType.int) : Cond) ∈ lw_ok := lw_in (List.mem_append_right _ (List.mem_append_left _ (List.mem_of_getElem? (i := 123) rfl))) rfl
theorem k_124 : (Jvm.Cond.methodLink "CharacterSets" (45 : Nat) ({ cls := "CharacterSets", name := "isSet", desc := "(I)Z" } : Jvm.MethodName) : Cond) ∈ lw_ok := lw_in (List.mem_append_right _ (List.mem_append_left _ (List.mem_of_getElem? (i := 124) rfl))) rfl
theorem k_125 : (Jvm.Cond.static ({ cls := "CharacterSets", name := "isSet", desc := "(I)Z" } : Jvm.MethodName) : Cond) ∈ lw_ok := lw_in (List.mem_append_right _ (List.mem_append_left _ (List.mem_of_getElem? (i := 125) rfl))) rfl
theorem k_126 : (Jvm.Cond.code ({ cls := "CharacterSets", name := "isSet", desc := "(I)Z" } : Jvm.MethodName) prog_1_method_16_code (1 : Nat) (Option.some Jvm.ClassFile.FieldType.boolean) : Cond) ∈ lw_ok := lw_in (List.mem_append_right _ (List.mem_append_left _ (List.mem_of_getElem? (i := 126) rfl))) rfl
theorem k_127 : (Jvm.Cond.methodLink "CharacterSets" (49 : Nat) ({ cls := "CharacterSets$Ranges", name := "empty", desc := "()V" } : Jvm.MethodName) : Cond) ∈ lw_ok := lw_in (List.mem_append_right _ (List.mem_append_left _ (List.mem_of_getElem? (i := 127) rfl))) rfl
theorem k_128 : (Jvm.Cond.instanceMethod ({ cls := "CharacterSets$Ranges", name := "empty", desc := "()V" } : Jvm.MethodName) : Cond) ∈ lw_ok := lw_in (List.mem_append_right _ (List.mem_append_left _ (List.mem_of_getElem? (i := 128) rfl))) rfl
theorem k_129 : (Jvm.Cond.selects "CharacterSets$Ranges" ({ cls := "CharacterSets$Ranges", name := "empty", desc := "()V" } : Jvm.MethodName) ({ cls := "CharacterSets$Ranges", name := "empty", desc := "()V" } : Jvm.MethodName) : Cond) ∈ lw_ok := lw_in (List.mem_append_right _ (List.mem_append_left _ (List.mem_of_getElem? (i := 129) rfl))) rfl
theorem k_130 : (Jvm.Cond.code ({ cls := "CharacterSets$Ranges", name := "empty", desc := "()V" } : Jvm.MethodName) prog_3_method_2_code (1 : Nat) (Option.none : Option Jvm.ClassFile.FieldType) : Cond) ∈ lw_ok := lw_in (List.mem_append_right _ (List.mem_append_left _ (List.mem_of_getElem? (i := 130) rfl))) rfl
theorem k_131 : (Jvm.Cond.methodLink "CharacterSetsLaw" (26 : Nat) ({ cls := "CharacterSets", name := "range", desc := "(III)I" } : Jvm.MethodName) : Cond) ∈ lw_ok := lw_in (List.mem_append_right _ (List.mem_append_left _ (List.mem_of_getElem? (i := 131) rfl))) rfl
theorem k_132 : (Jvm.Cond.instanceMethod ({ cls := "CharacterSets", name := "range", desc := "(III)I" } : Jvm.MethodName) : Cond) ∈ lw_ok := lw_in (List.mem_append_right _ (List.mem_append_left _ (List.mem_of_getElem? (i := 132) rfl))) rfl
theorem k_133 : (Jvm.Cond.selects "CharacterSets" ({ cls := "CharacterSets", name := "range", desc := "(III)I" } : Jvm.MethodName) ({ cls := "CharacterSets", name := "range", desc := "(III)I" } : Jvm.MethodName) : Cond) ∈ lw_ok := lw_in (List.mem_append_right _ (List.mem_append_left _ (List.mem_of_getElem? (i := 133) rfl))) rfl
theorem k_134 : (Jvm.Cond.code ({ cls := "CharacterSets", name := "range", desc := "(III)I" } : Jvm.MethodName) prog_1_method_3_code (4 : Nat) (Option.some Jvm.ClassFile.FieldType.int) : Cond) ∈ lw_ok := lw_in (List.mem_append_right _ (List.mem_append_left _ (List.mem_of_getElem? (i := 134) rfl))) rfl
theorem k_135 : (Jvm.Cond.methodLink "CharacterSets" (52 : Nat) ({ cls := "CharacterSets", name := "isThere", desc := "(I)Z" } : Jvm.MethodName) : Cond) ∈ lw_ok := lw_in (List.mem_append_right _ (List.mem_append_left _ (List.mem_of_getElem? (i := 135) rfl))) rfl
theorem k_136 : (Jvm.Cond.privateMethod ({ cls := "CharacterSets", name := "isThere", desc := "(I)Z" } : Jvm.MethodName) : Cond) ∈ lw_tbl := List.mem_append_right _ (List.mem_append_left _ (List.mem_of_getElem? (i := 136) rfl))
theorem k_137 : (Jvm.Cond.instanceMethod ({ cls := "CharacterSets", name := "isThere", desc := "(I)Z" } : Jvm.MethodName) : Cond) ∈ lw_ok := lw_in (List.mem_append_right _ (List.mem_append_left _ (List.mem_of_getElem? (i := 137) rfl))) rfl
theorem k_138 : (Jvm.Cond.code ({ cls := "CharacterSets", name := "isThere", desc := "(I)Z" } : Jvm.MethodName) prog_1_method_17_code (2 : Nat) (Option.some Jvm.ClassFile.FieldType.boolean) : Cond) ∈ lw_ok := lw_in (List.mem_append_right _ (List.mem_append_left _ (List.mem_of_getElem? (i := 138) rfl))) rfl
theorem k_139 : (Jvm.Cond.methodLink "CharacterSets" (55 : Nat) ({ cls := "CharacterSets$Ranges", name := "insert", desc := "(II)V" } : Jvm.MethodName) : Cond) ∈ lw_ok := lw_in (List.mem_append_right _ (List.mem_append_left _ (List.mem_of_getElem? (i := 139) rfl))) rfl
theorem k_140 : (Jvm.Cond.instanceMethod ({ cls := "CharacterSets$Ranges", name := "insert", desc := "(II)V" } : Jvm.MethodName) : Cond) ∈ lw_ok := lw_in (List.mem_append_right _ (List.mem_append_left _ (List.mem_of_getElem? (i := 140) rfl))) rfl
theorem k_141 : (Jvm.Cond.selects "CharacterSets$Ranges" ({ cls := "CharacterSets$Ranges", name := "insert", desc := "(II)V" } : Jvm.MethodName) ({ cls := "CharacterSets$Ranges", name := "insert", desc := "(II)V" } : Jvm.MethodName) : Cond) ∈ lw_ok := lw_in (List.mem_append_right _ (List.mem_append_left _ (List.mem_of_getElem? (i := 141) rfl))) rfl
theorem k_142 : (Jvm.Cond.code ({ cls := "CharacterSets$Ranges", name := "insert", desc := "(II)V" } : Jvm.MethodName) prog_3_method_11_code (9 : Nat) (Option.none : Option Jvm.ClassFile.FieldType) : Cond) ∈ lw_ok := lw_in (List.mem_append_right _ (List.mem_append_left _ (List.mem_of_getElem? (i := 142) rfl))) rfl
theorem k_143 : (Jvm.Cond.methodLink "CharacterSets$Ranges" (17 : Nat) ({ cls := "CharacterSets$Ranges", name := "edgesUpTo", desc := "(I)I" } : Jvm.MethodName) : Cond) ∈ lw_ok := lw_in (List.mem_append_right _ (List.mem_append_left _ (List.mem_of_getElem? (i := 143) rfl))) rfl
theorem k_144 : (Jvm.Cond.privateMethod ({ cls := "CharacterSets$Ranges", name := "edgesUpTo", desc := "(I)I" } : Jvm.MethodName) : Cond) ∈ lw_tbl := List.mem_append_right _ (List.mem_append_left _ (List.mem_of_getElem? (i := 144) rfl))
theorem k_145 : (Jvm.Cond.instanceMethod ({ cls := "CharacterSets$Ranges", name := "edgesUpTo", desc := "(I)I" } : Jvm.MethodName) : Cond) ∈ lw_ok := lw_in (List.mem_append_right _ (List.mem_append_left _ (List.mem_of_getElem? (i := 145) rfl))) rfl
theorem k_146 : (Jvm.Cond.code ({ cls := "CharacterSets$Ranges", name := "edgesUpTo", desc := "(I)I" } : Jvm.MethodName) prog_3_method_14_code (5 : Nat) (Option.some Jvm.ClassFile.FieldType.int) : Cond) ∈ lw_ok := lw_in (List.mem_append_right _ (List.mem_append_left _ (List.mem_of_getElem? (i := 146) rfl))) rfl
theorem k_147 : (Jvm.Cond.methodLink "CharacterSets$Ranges" (34 : Nat) ({ cls := "java/lang/System", name := "arraycopy", desc := "(Ljava/lang/Object;ILjava/lang/Object;II)V" } : Jvm.MethodName) : Cond) ∈ lw_ok := lw_in (List.mem_append_right _ (List.mem_append_left _ (List.mem_of_getElem? (i := 147) rfl))) rfl
theorem k_148 : (Jvm.Cond.static ({ cls := "java/lang/System", name := "arraycopy", desc := "(Ljava/lang/Object;ILjava/lang/Object;II)V" } : Jvm.MethodName) : Cond) ∈ lw_ok := lw_in (List.mem_append_right _ (List.mem_append_left _ (List.mem_of_getElem? (i := 148) rfl))) rfl
theorem k_149 : (Jvm.Cond.native ({ cls := "java/lang/System", name := "arraycopy", desc := "(Ljava/lang/Object;ILjava/lang/Object;II)V" } : Jvm.MethodName) : Cond) ∈ lw_ok := lw_in (List.mem_append_right _ (List.mem_append_left _ (List.mem_of_getElem? (i := 149) rfl))) rfl
theorem k_150 : (Jvm.Cond.methodLink "CharacterSets" (59 : Nat) ({ cls := "CharacterSets$Ranges", name := "rangeCount", desc := "()I" } : Jvm.MethodName) : Cond) ∈ lw_ok := lw_in (List.mem_append_right _ (List.mem_append_left _ (List.mem_of_getElem? (i := 150) rfl))) rfl
theorem k_151 : (Jvm.Cond.instanceMethod ({ cls := "CharacterSets$Ranges", name := "rangeCount", desc := "()I" } : Jvm.MethodName) : Cond) ∈ lw_ok := lw_in (List.mem_append_right _ (List.mem_append_left _ (List.mem_of_getElem? (i := 151) rfl))) rfl
theorem k_152 : (Jvm.Cond.selects "CharacterSets$Ranges" ({ cls := "CharacterSets$Ranges", name := "rangeCount", desc := "()I" } : Jvm.MethodName) ({ cls := "CharacterSets$Ranges", name := "rangeCount", desc := "()I" } : Jvm.MethodName) : Cond) ∈ lw_ok := lw_in (List.mem_append_right _ (List.mem_append_left _ (List.mem_of_getElem? (i := 152) rfl))) rfl
theorem k_153 : (Jvm.Cond.code ({ cls := "CharacterSets$Ranges", name := "rangeCount", desc := "()I" } : Jvm.MethodName) prog_3_method_3_code (1 : Nat) (Option.some Jvm.ClassFile.FieldType.int) : Cond) ∈ lw_ok := lw_in (List.mem_append_right _ (List.mem_append_left _ (List.mem_of_getElem? (i := 153) rfl))) rfl
theorem k_154 : (Jvm.Cond.methodLink "CharacterSetsLaw" (31 : Nat) ({ cls := "CharacterSets", name := "property", desc := "(IIZZ)I" } : Jvm.MethodName) : Cond) ∈ lw_ok := lw_in (List.mem_append_right _ (List.mem_append_left _ (List.mem_of_getElem? (i := 154) rfl))) rfl
theorem k_155 : (Jvm.Cond.instanceMethod ({ cls := "CharacterSets", name := "property", desc := "(IIZZ)I" } : Jvm.MethodName) : Cond) ∈ lw_ok := lw_in (List.mem_append_right _ (List.mem_append_left _ (List.mem_of_getElem? (i := 155) rfl))) rfl
theorem k_156 : (Jvm.Cond.selects "CharacterSets" ({ cls := "CharacterSets", name := "property", desc := "(IIZZ)I" } : Jvm.MethodName) ({ cls := "CharacterSets", name := "property", desc := "(IIZZ)I" } : Jvm.MethodName) : Cond) ∈ lw_ok := lw_in (List.mem_append_right _ (List.mem_append_left _ (List.mem_of_getElem? (i := 156) rfl))) rfl
theorem k_157 : (Jvm.Cond.code ({ cls := "CharacterSets", name := "property", desc := "(IIZZ)I" } : Jvm.MethodName) prog_1_method_4_code (6 : Nat) (Option.some Jvm.ClassFile.FieldType.int) : Cond) ∈ lw_ok := lw_in (List.mem_append_right _ (List.mem_append_left _ (List.mem_of_getElem? (i := 157) rfl))) rfl
theorem k_158 : (Jvm.Cond.methodLink "CharacterSets" (63 : Nat) ({ cls := "CharacterSets", name := "gatherProperty", desc := "(I)V" } : Jvm.MethodName) : Cond) ∈ lw_ok := lw_in (List.mem_append_right _ (List.mem_append_left _ (List.mem_of_getElem? (i := 158) rfl))) rfl
theorem k_159 : (Jvm.Cond.privateMethod ({ cls := "CharacterSets", name := "gatherProperty", desc := "(I)V" } : Jvm.MethodName) : Cond) ∈ lw_tbl := List.mem_append_right _ (List.mem_append_left _ (List.mem_of_getElem? (i := 159) rfl))
theorem k_160 : (Jvm.Cond.instanceMethod ({ cls := "CharacterSets", name := "gatherProperty", desc := "(I)V" } : Jvm.MethodName) : Cond) ∈ lw_ok := lw_in (List.mem_append_right _ (List.mem_append_left _ (List.mem_of_getElem? (i := 160) rfl))) rfl
theorem k_161 : (Jvm.Cond.code ({ cls := "CharacterSets", name := "gatherProperty", desc := "(I)V" } : Jvm.MethodName) prog_1_method_22_code (2 : Nat) (Option.none : Option Jvm.ClassFile.FieldType) : Cond) ∈ lw_ok := lw_in (List.mem_append_right _ (List.mem_append_left _ (List.mem_of_getElem? (i := 161) rfl))) rfl
theorem k_162 : (Jvm.Cond.methodLink "CharacterSets" (126 : Nat) ({ cls := "CharacterSets", name := "gatherScript", desc := "(I)V" } : Jvm.MethodName) : Cond) ∈ lw_ok := lw_in (List.mem_append_right _ (List.mem_append_left _ (List.mem_of_getElem? (i := 162) rfl))) rfl
theorem k_163 : (Jvm.Cond.privateMethod ({ cls := "CharacterSets", name := "gatherScript", desc := "(I)V" } : Jvm.MethodName) : Cond) ∈ lw_tbl := List.mem_append_right _ (List.mem_append_left _ (List.mem_of_getElem? (i := 163) rfl))
theorem k_164 : (Jvm.Cond.instanceMethod ({ cls := "CharacterSets", name := "gatherScript", desc := "(I)V" } : Jvm.MethodName) : Cond) ∈ lw_ok := lw_in (List.mem_append_right _ (List.mem_append_left _ (List.mem_of_getElem? (i := 164) rfl))) rfl
theorem k_165 : (Jvm.Cond.code ({ cls := "CharacterSets", name := "gatherScript", desc := "(I)V" } : Jvm.MethodName) prog_1_method_29_code (3 : Nat) (Option.none : Option Jvm.ClassFile.FieldType) : Cond) ∈ lw_ok := lw_in (List.mem_append_right _ (List.mem_append_left _ (List.mem_of_getElem? (i := 165) rfl))) rfl
theorem k_166 : (Jvm.Cond.methodLink "CharacterSets" (210 : Nat) ({ cls := "CharacterSets$Table", name := "pieceCount", desc := "()I" } : Jvm.MethodName) : Cond) ∈ lw_ok := lw_in (List.mem_append_right _ (List.mem_append_left _ (List.mem_of_getElem? (i := 166) rfl))) rfl
theorem k_167 : (Jvm.Cond.instanceMethod ({ cls := "CharacterSets$Table", name := "pieceCount", desc := "()I" } : Jvm.MethodName) : Cond) ∈ lw_ok := lw_in (List.mem_append_right _ (List.mem_append_left _ (List.mem_of_getElem? (i := 167) rfl))) rfl
theorem k_168 : (Jvm.Cond.selects "CharacterSets$Table" ({ cls := "CharacterSets$Table", name := "pieceCount", desc := "()I" } : Jvm.MethodName) ({ cls := "CharacterSets$Table", name := "pieceCount", desc := "()I" } : Jvm.MethodName) : Cond) ∈ lw_ok := lw_in (List.mem_append_right _ (List.mem_append_left _ (List.mem_of_getElem? (i := 168) rfl))) rfl
theorem k_169 : (Jvm.Cond.code ({ cls := "CharacterSets$Table", name := "pieceCount", desc := "()I" } : Jvm.MethodName) prog_4_method_2_code (1 : Nat) (Option.some Jvm.ClassFile.FieldType.int) : Cond) ∈ lw_ok := lw_in (List.mem_append_right _ (List.mem_append_left _ (List.mem_of_getElem? (i := 169) rfl))) rfl
theorem k_170 : (Jvm.Cond.methodLink "CharacterSets" (228 : Nat) ({ cls := "CharacterSets$Table", name := "pieceScript", desc := "(I)I" } : Jvm.MethodName) : Cond) ∈ lw_ok := lw_in (List.mem_append_right _ (List.mem_append_left _ (List.mem_of_getElem? (i := 170) rfl))) rfl
theorem k_171 : (Jvm.Cond.instanceMethod ({ cls := "CharacterSets$Table", name := "pieceScript", desc := "(I)I" } : Jvm.MethodName) : Cond) ∈ lw_ok := lw_in (List.mem_append_right _ (List.mem_append_left _ (List.mem_of_getElem? (i := 171) rfl))) rfl
theorem k_172 : (Jvm.Cond.selects "CharacterSets$Table" ({ cls := "CharacterSets$Table", name := "pieceScript", desc := "(I)I" } : Jvm.MethodName) ({ cls := "CharacterSets$Table", name := "pieceScript", desc := "(I)I" } : Jvm.MethodName) : Cond) ∈ lw_ok := lw_in (List.mem_append_right _ (List.mem_append_left _ (List.mem_of_getElem? (i := 172) rfl))) rfl
theorem k_173 : (Jvm.Cond.code ({ cls := "CharacterSets$Table", name := "pieceScript", desc := "(I)I" } : Jvm.MethodName) prog_4_method_6_code (2 : Nat) (Option.some Jvm.ClassFile.FieldType.int) : Cond) ∈ lw_ok := lw_in (List.mem_append_right _ (List.mem_append_left _ (List.mem_of_getElem? (i := 173) rfl))) rfl
theorem k_174 : (Jvm.Cond.methodLink "CharacterSets" (216 : Nat) ({ cls := "CharacterSets$Table", name := "pieceLow", desc := "(I)I" } : Jvm.MethodName) : Cond) ∈ lw_ok := lw_in (List.mem_append_right _ (List.mem_append_left _ (List.mem_of_getElem? (i := 174) rfl))) rfl
theorem k_175 : (Jvm.Cond.instanceMethod ({ cls := "CharacterSets$Table", name := "pieceLow", desc := "(I)I" } : Jvm.MethodName) : Cond) ∈ lw_ok := lw_in (List.mem_append_right _ (List.mem_append_left _ (List.mem_of_getElem? (i := 175) rfl))) rfl
theorem k_176 : (Jvm.Cond.selects "CharacterSets$Table" ({ cls := "CharacterSets$Table", name := "pieceLow", desc := "(I)I" } : Jvm.MethodName) ({ cls := "CharacterSets$Table", name := "pieceLow", desc := "(I)I" } : Jvm.MethodName) : Cond) ∈ lw_ok := lw_in (List.mem_append_right _ (List.mem_append_left _ (List.mem_of_getElem? (i := 176) rfl))) rfl
theorem k_177 : (Jvm.Cond.code ({ cls := "CharacterSets$Table", name := "pieceLow", desc := "(I)I" } : Jvm.MethodName) prog_4_method_3_code (2 : Nat) (Option.some Jvm.ClassFile.FieldType.int) : Cond) ∈ lw_ok := lw_in (List.mem_append_right _ (List.mem_append_left _ (List.mem_of_getElem? (i := 177) rfl))) rfl
theorem k_178 : (Jvm.Cond.methodLink "CharacterSets" (219 : Nat) ({ cls := "CharacterSets$Table", name := "pieceHigh", desc := "(I)I" } : Jvm.MethodName) : Cond) ∈ lw_ok := lw_in (List.mem_append_right _ (List.mem_append_left _ (List.mem_of_getElem? (i := 178) rfl))) rfl
theorem k_179 : (Jvm.Cond.instanceMethod ({ cls := "CharacterSets$Table", name := "pieceHigh", desc := "(I)I" } : Jvm.MethodName) : Cond) ∈ lw_ok := lw_in (List.mem_append_right _ (List.mem_append_left _ (List.mem_of_getElem? (i := 179) rfl))) rfl
theorem k_180 : (Jvm.Cond.selects "CharacterSets$Table" ({ cls := "CharacterSets$Table", name := "pieceHigh", desc := "(I)I" } : Jvm.MethodName) ({ cls := "CharacterSets$Table", name := "pieceHigh", desc := "(I)I" } : Jvm.MethodName) : Cond) ∈ lw_ok := lw_in (List.mem_append_right _ (List.mem_append_left _ (List.mem_of_getElem? (i := 180) rfl))) rfl
theorem k_181 : (Jvm.Cond.code ({ cls := "CharacterSets$Table", name := "pieceHigh", desc := "(I)I" } : Jvm.MethodName) prog_4_method_4_code (2 : Nat) (Option.some Jvm.ClassFile.FieldType.int) : Cond) ∈ lw_ok := lw_in (List.mem_append_right _ (List.mem_append_left _ (List.mem_of_getElem? (i := 181) rfl))) rfl
theorem k_182 : (Jvm.Cond.constant "CharacterSets$Table" (36 : Nat) (1114111 : Int32) : Cond) ∈ lw_ok := lw_in (List.mem_append_right _ (List.mem_append_left _ (List.mem_of_getElem? (i := 182) rfl))) rfl
theorem k_183 : (Jvm.Cond.methodLink "CharacterSets" (135 : Nat) ({ cls := "CharacterSets", name := "gather", desc := "(II)V" } : Jvm.MethodName) : Cond) ∈ lw_ok := lw_in (List.mem_append_right _ (List.mem_append_left _ (List.mem_of_getElem? (i := 183) rfl))) rfl
theorem k_184 : (Jvm.Cond.privateMethod ({ cls := "CharacterSets", name := "gather", desc := "(II)V" } : Jvm.MethodName) : Cond) ∈ lw_tbl := List.mem_append_right _ (List.mem_append_left _ (List.mem_of_getElem? (i := 184) rfl))
theorem k_185 : (Jvm.Cond.instanceMethod ({ cls := "CharacterSets", name := "gather", desc := "(II)V" } : Jvm.MethodName) : Cond) ∈ lw_ok := lw_in (List.mem_append_right _ (List.mem_append_left _ (List.mem_of_getElem? (i := 185) rfl))) rfl
theorem k_186 : (Jvm.Cond.code ({ cls := "CharacterSets", name := "gather", desc := "(II)V" } : Jvm.MethodName) prog_1_method_30_code (4 : Nat) (Option.none : Option Jvm.ClassFile.FieldType) : Cond) ∈ lw_ok := lw_in (List.mem_append_right _ (List.mem_append_left _ (List.mem_of_getElem? (i := 186) rfl))) rfl
theorem k_187 : (Jvm.Cond.methodLink "CharacterSets" (222 : Nat) ({ cls := "java/lang/Math", name := "min", desc := "(II)I" } : Jvm.MethodName) : Cond) ∈ lw_ok := lw_in (List.mem_append_right _ (List.mem_append_left _ (List.mem_of_getElem? (i := 187) rfl))) rfl
theorem k_188 : (Jvm.Cond.static ({ cls := "java/lang/Math", name := "min", desc := "(II)I" } : Jvm.MethodName) : Cond) ∈ lw_ok := lw_in (List.mem_append_right _ (List.mem_append_left _ (List.mem_of_getElem? (i := 188) rfl))) rfl
theorem k_189 : (Jvm.Cond.code ({ cls := "java/lang/Math", name := "min", desc := "(II)I" } : Jvm.MethodName) prog_7_method_69_code (2 : Nat) (Option.some Jvm.ClassFile.FieldType.int) : Cond) ∈ lw_ok := lw_in (List.mem_append_right _ (List.mem_append_left _ (List.mem_of_getElem? (i := 189) rfl))) rfl
theorem k_190 : (Jvm.Cond.methodLink "CharacterSets" (129 : Nat) ({ cls := "CharacterSets", name := "categoriesOf", desc := "(I)I" } : Jvm.MethodName) : Cond) ∈ lw_ok := lw_in (List.mem_append_right _ (List.mem_append_left _ (List.mem_of_getElem? (i := 190) rfl))) rfl
theorem k_191 : (Jvm.Cond.static ({ cls := "CharacterSets", name := "categoriesOf", desc := "(I)I" } : Jvm.MethodName) : Cond) ∈ lw_ok := lw_in (List.mem_append_right _ (List.mem_append_left _ (List.mem_of_getElem? (i := 191) rfl))) rfl
theorem k_192 : (Jvm.Cond.code ({ cls := "CharacterSets", name := "categoriesOf", desc := "(I)I" } : Jvm.MethodName) prog_1_method_23_code (1 : Nat) (Option.some Jvm.ClassFile.FieldType.int) : Cond) ∈ lw_ok := lw_in (List.mem_append_right _ (List.mem_append_left _ (List.mem_of_getElem? (i := 192) rfl))) rfl
theorem k_193 : (Jvm.Cond.fieldLink "CharacterSets" (138 : Nat) "CharacterSets" "LETTER_GROUPS" "[I" : Cond) ∈ lw_ok := lw_in (List.mem_append_right _ (List.mem_append_left _ (List.mem_of_getElem? (i := 193) rfl))) rfl
theorem k_194 : (Jvm.Cond.laysStatic "CharacterSets" "LETTER_GROUPS" "[I" : Cond) ∈ lw_tbl := List.mem_append_right _ (List.mem_append_left _ (List.mem_of_getElem? (i := 194) rfl))
theorem k_195 : (Jvm.Cond.constant "CharacterSets" (142 : Nat) (33554431 : Int32) : Cond) ∈ lw_ok := lw_in (List.mem_append_right _ (List.mem_append_left _ (List.mem_of_getElem? (i := 195) rfl))) rfl
theorem k_196 : (Jvm.Cond.constant "CharacterSets" (143 : Nat) (29360128 : Int32) : Cond) ∈ lw_ok := lw_in (List.mem_append_right _ (List.mem_append_left _ (List.mem_of_getElem? (i := 196) rfl))) rfl
theorem k_197 : (Jvm.Cond.methodLink "CharacterSets" (132 : Nat) ({ cls := "CharacterSets", name := "gatherCategories", desc := "(II)V" } : Jvm.MethodName) : Cond) ∈ lw_ok := lw_in (List.mem_append_right _ (List.mem_append_left _ (List.mem_of_getElem? (i := 197) rfl))) rfl
theorem k_198 : (Jvm.Cond.privateMethod ({ cls := "CharacterSets", name := "gatherCategories", desc := "(II)V" } : Jvm.MethodName) : Cond) ∈ lw_tbl := List.mem_append_right _ (List.mem_append_left _ (List.mem_of_getElem? (i := 198) rfl))
theorem k_199 : (Jvm.Cond.instanceMethod ({ cls := "CharacterSets", name := "gatherCategories", desc := "(II)V" } : Jvm.MethodName) : Cond) ∈ lw_ok := lw_in (List.mem_append_right _ (List.mem_append_left _ (List.mem_of_getElem? (i := 199) rfl))) rfl
theorem k_200 : (Jvm.Cond.code ({ cls := "CharacterSets", name := "gatherCategories", desc := "(II)V" } : Jvm.MethodName) prog_1_method_28_code (4 : Nat) (Option.none : Option Jvm.ClassFile.FieldType) : Cond) ∈ lw_ok := lw_in (List.mem_append_right _ (List.mem_append_left _ (List.mem_of_getElem? (i := 200) rfl))) rfl
theorem k_201 : (Jvm.Cond.methodLink "CharacterSets" (213 : Nat) ({ cls := "CharacterSets$Table", name := "pieceCategory", desc := "(I)I" } : Jvm.MethodName) : Cond) ∈ lw_ok := lw_in (List.mem_append_right _ (List.mem_append_left _ (List.mem_of_getElem? (i := 201) rfl))) rfl
theorem k_202 : (Jvm.Cond.instanceMethod ({ cls := "CharacterSets$Table", name := "pieceCategory", desc := "(I)I" } : Jvm.MethodName) : Cond) ∈ lw_ok := lw_in (List.mem_append_right _ (List.mem_append_left _ (List.mem_of_getElem? (i := 202) rfl))) rfl
theorem k_203 : (Jvm.Cond.selects "CharacterSets$Table" ({ cls := "CharacterSets$Table", name := "pieceCategory", desc := "(I)I" } : Jvm.MethodName) ({ cls := "CharacterSets$Table", name := "pieceCategory", desc := "(I)I" } : Jvm.MethodName) : Cond) ∈ lw_ok := lw_in (List.mem_append_right _ (List.mem_append_left _ (List.mem_of_getElem? (i := 203) rfl))) rfl
theorem k_204 : (Jvm.Cond.code ({ cls := "CharacterSets$Table", name := "pieceCategory", desc := "(I)I" } : Jvm.MethodName) prog_4_method_5_code (2 : Nat) (Option.some Jvm.ClassFile.FieldType.int) : Cond) ∈ lw_ok := lw_in (List.mem_append_right _ (List.mem_append_left _ (List.mem_of_getElem? (i := 204) rfl))) rfl
theorem k_205 : (Jvm.Cond.methodLink "CharacterSets" (67 : Nat) ({ cls := "CharacterSets", name := "addGathered", desc := "(LCharacterSets$Ranges;Z)I" } : Jvm.MethodName) : Cond) ∈ lw_ok := lw_in (List.mem_append_right _ (List.mem_append_left _ (List.mem_of_getElem? (i := 205) rfl))) rfl
theorem k_206 : (Jvm.Cond.privateMethod ({ cls := "CharacterSets", name := "addGathered", desc := "(LCharacterSets$Ranges;Z)I" } : Jvm.MethodName) : Cond) ∈ lw_tbl := List.mem_append_right _ (List.mem_append_left _ (List.mem_of_getElem? (i := 206) rfl))
theorem k_207 : (Jvm.Cond.instanceMethod ({ cls := "CharacterSets", name := "addGathered", desc := "(LCharacterSets$Ranges;Z)I" } : Jvm.MethodName) : Cond) ∈ lw_ok := lw_in (List.mem_append_right _ (List.mem_append_left _ (List.mem_of_getElem? (i := 207) rfl))) rfl
theorem k_208 : (Jvm.Cond.code ({ cls := "CharacterSets", name := "addGathered", desc := "(LCharacterSets$Ranges;Z)I" } : Jvm.MethodName) prog_1_method_21_code (3 : Nat) (Option.some Jvm.ClassFile.FieldType.int) : Cond) ∈ lw_ok := lw_in (List.mem_append_right _ (List.mem_append_left _ (List.mem_of_getElem? (i := 208) rfl))) rfl
theorem k_209 : (Jvm.Cond.methodLink "CharacterSets" (82 : Nat) ({ cls := "CharacterSets$Ranges", name := "complement", desc := "(I)V" } : Jvm.MethodName) : Cond) ∈ lw_ok := lw_in (List.mem_append_right _ (List.mem_append_left _ (List.mem_of_getElem? (i := 209) rfl))) rfl
theorem k_210 : (Jvm.Cond.instanceMethod ({ cls := "CharacterSets$Ranges", name := "complement", desc := "(I)V" } : Jvm.MethodName) : Cond) ∈ lw_ok := lw_in (List.mem_append_right _ (List.mem_append_left _ (List.mem_of_getElem? (i := 210) rfl))) rfl
theorem k_211 : (Jvm.Cond.selects "CharacterSets$Ranges" ({ cls := "CharacterSets$Ranges", name := "complement", desc := "(I)V" } : Jvm.MethodName) ({ cls := "CharacterSets$Ranges", name := "complement", desc := "(I)V" } : Jvm.MethodName) : Cond) ∈ lw_ok := lw_in (List.mem_append_right _ (List.mem_append_left _ (List.mem_of_getElem? (i := 211) rfl))) rfl
theorem k_212 : (Jvm.Cond.code ({ cls := "CharacterSets$Ranges", name := "complement", desc := "(I)V" } : Jvm.MethodName) prog_3_method_13_code (2 : Nat) (Option.none : Option Jvm.ClassFile.FieldType) : Cond) ∈ lw_ok := lw_in (List.mem_append_right _ (List.mem_append_left _ (List.mem_of_getElem? (i := 212) rfl))) rfl
theorem k_213 : (Jvm.Cond.methodLink "CharacterSets" (85 : Nat) ({ cls := "CharacterSets$Ranges", name := "insertAll", desc := "(LCharacterSets$Ranges;)V" } : Jvm.MethodName) : Cond) ∈ lw_ok := lw_in (List.mem_append_right _ (List.mem_append_left _ (List.mem_of_getElem? (i := 213) rfl))) rfl
theorem k_214 : (Jvm.Cond.instanceMethod ({ cls := "CharacterSets$Ranges", name := "insertAll", desc := "(LCharacterSets$Ranges;)V" } : Jvm.MethodName) : Cond) ∈ lw_ok := lw_in (List.mem_append_right _ (List.mem_append_left _ (List.mem_of_getElem? (i := 214) rfl))) rfl
theorem k_215 : (Jvm.Cond.selects "CharacterSets$Ranges" ({ cls := "CharacterSets$Ranges", name := "insertAll", desc := "(LCharacterSets$Ranges;)V" } : Jvm.MethodName) ({ cls := "CharacterSets$Ranges", name := "insertAll", desc := "(LCharacterSets$Ranges;)V" } : Jvm.MethodName) : Cond) ∈ lw_ok := lw_in (List.mem_append_right _ (List.mem_append_left _ (List.mem_of_getElem? (i := 215) rfl))) rfl
theorem k_216 : (Jvm.Cond.code ({ cls := "CharacterSets$Ranges", name := "insertAll", desc := "(LCharacterSets$Ranges;)V" } : Jvm.MethodName) prog_3_method_12_code (3 : Nat) (Option.none : Option Jvm.ClassFile.FieldType) : Cond) ∈ lw_ok := lw_in (List.mem_append_right _ (List.mem_append_left _ (List.mem_of_getElem? (i := 216) rfl))) rfl
theorem k_217 : (Jvm.Cond.methodLink "CharacterSets$Ranges" (21 : Nat) ({ cls := "CharacterSets$Ranges", name := "rangeCount", desc := "()I" } : Jvm.MethodName) : Cond) ∈ lw_ok := lw_in (List.mem_append_right _ (List.mem_append_left _ (List.mem_of_getElem? (i := 217) rfl))) rfl
theorem k_218 : (Jvm.Cond.methodLink "CharacterSets$Ranges" (25 : Nat) ({ cls := "CharacterSets$Ranges", name := "lowOf", desc := "(I)I" } : Jvm.MethodName) : Cond) ∈ lw_ok := lw_in (List.mem_append_right _ (List.mem_append_left _ (List.mem_of_getElem? (i := 218) rfl))) rfl
theorem k_219 : (Jvm.Cond.instanceMethod ({ cls := "CharacterSets$Ranges", name := "lowOf", desc := "(I)I" } : Jvm.MethodName) : Cond) ∈ lw_ok := lw_in (List.mem_append_right _ (List.mem_append_left _ (List.mem_of_getElem? (i := 219) rfl))) rfl
theorem k_220 : (Jvm.Cond.selects "CharacterSets$Ranges" ({ cls := "CharacterSets$Ranges", name := "lowOf", desc := "(I)I" } : Jvm.MethodName) ({ cls := "CharacterSets$Ranges", name := "lowOf", desc := "(I)I" } : Jvm.MethodName) : Cond) ∈ lw_ok := lw_in (List.mem_append_right _ (List.mem_append_left _ (List.mem_of_getElem? (i := 220) rfl))) rfl
theorem k_221 : (Jvm.Cond.code ({ cls := "CharacterSets$Ranges", name := "lowOf", desc := "(I)I" } : Jvm.MethodName) prog_3_method_4_code (2 : Nat) (Option.some Jvm.ClassFile.FieldType.int) : Cond) ∈ lw_ok := lw_in (List.mem_append_right _ (List.mem_append_left _ (List.mem_of_getElem? (i := 221) rfl))) rfl
theorem k_222 : (Jvm.Cond.methodLink "CharacterSets$Ranges" (31 : Nat) ({ cls := "CharacterSets$Ranges", name := "highOf", desc := "(I)I" } : Jvm.MethodName) : Cond) ∈ lw_ok := lw_in (List.mem_append_right _ (List.mem_append_left _ (List.mem_of_getElem? (i := 222) rfl))) rfl
theorem k_223 : (Jvm.Cond.instanceMethod ({ cls := "CharacterSets$Ranges", name := "highOf", desc := "(I)I" } : Jvm.MethodName) : Cond) ∈ lw_ok := lw_in (List.mem_append_right _ (List.mem_append_left _ (List.mem_of_getElem? (i := 223) rfl))) rfl
theorem k_224 : (Jvm.Cond.selects "CharacterSets$Ranges" ({ cls := "CharacterSets$Ranges", name := "highOf", desc := "(I)I" } : Jvm.MethodName) ({ cls := "CharacterSets$Ranges", name := "highOf", desc := "(I)I" } : Jvm.MethodName) : Cond) ∈ lw_ok := lw_in (List.mem_append_right _ (List.mem_append_left _ (List.mem_of_getElem? (i := 224) rfl))) rfl
theorem k_225 : (Jvm.Cond.code ({ cls := "CharacterSets$Ranges", name := "highOf", desc := "(I)I" } : Jvm.MethodName) prog_3_method_5_code (2 : Nat) (Option.some Jvm.ClassFile.FieldType.int) : Cond) ∈ lw_ok := lw_in (List.mem_append_right _ (List.mem_append_left _ (List.mem_of_getElem? (i := 225) rfl))) rfl
theorem k_226 : (Jvm.Cond.methodLink "CharacterSets$Ranges" (40 : Nat) ({ cls := "CharacterSets$Ranges", name := "insert", desc := "(II)V" } : Jvm.MethodName) : Cond) ∈ lw_ok := lw_in (List.mem_append_right _ (List.mem_append_left _ (List.mem_of_getElem? (i := 226) rfl))) rfl
theorem k_227 : (Jvm.Cond.methodLink "CharacterSetsLaw" (36 : Nat) ({ cls := "CharacterSets", name := "named", desc := "(IIZZ)I" } : Jvm.MethodName) : Cond) ∈ lw_ok := lw_in (List.mem_append_right _ (List.mem_append_left _ (List.mem_of_getElem? (i := 227) rfl))) rfl
theorem k_228 : (Jvm.Cond.instanceMethod ({ cls := "CharacterSets", name := "named", desc := "(IIZZ)I" } : Jvm.MethodName) : Cond) ∈ lw_ok := lw_in (List.mem_append_right _ (List.mem_append_left _ (List.mem_of_getElem? (i := 228) rfl))) rfl
theorem k_229 : (Jvm.Cond.selects "CharacterSets" ({ cls := "CharacterSets", name := "named", desc := "(IIZZ)I" } : Jvm.MethodName) ({ cls := "CharacterSets", name := "named", desc := "(IIZZ)I" } : Jvm.MethodName) : Cond) ∈ lw_ok := lw_in (List.mem_append_right _ (List.mem_append_left _ (List.mem_of_getElem? (i := 229) rfl))) rfl
theorem k_230 : (Jvm.Cond.code ({ cls := "CharacterSets", name := "named", desc := "(IIZZ)I" } : Jvm.MethodName) prog_1_method_5_code (6 : Nat) (Option.some Jvm.ClassFile.FieldType.int) : Cond) ∈ lw_ok := lw_in (List.mem_append_right _ (List.mem_append_left _ (List.mem_of_getElem? (i := 230) rfl))) rfl
theorem k_231 : (Jvm.Cond.methodLink "CharacterSets" (71 : Nat) ({ cls := "CharacterSets", name := "gatherNamed", desc := "(I)V" } : Jvm.MethodName) : Cond) ∈ lw_ok := lw_in (List.mem_append_right _ (List.mem_append_left _ (List.mem_of_getElem? (i := 231) rfl))) rfl
theorem k_232 : (Jvm.Cond.privateMethod ({ cls := "CharacterSets", name := "gatherNamed", desc := "(I)V" } : Jvm.MethodName) : Cond) ∈ lw_tbl := List.mem_append_right _ (List.mem_append_left _ (List.mem_of_getElem? (i := 232) rfl))
theorem k_233 : (Jvm.Cond.instanceMethod ({ cls := "CharacterSets", name := "gatherNamed", desc := "(I)V" } : Jvm.MethodName) : Cond) ∈ lw_ok := lw_in (List.mem_append_right _ (List.mem_append_left _ (List.mem_of_getElem? (i := 233) rfl))) rfl
theorem k_234 : (Jvm.Cond.code ({ cls := "CharacterSets", name := "gatherNamed", desc := "(I)V" } : Jvm.MethodName) prog_1_method_24_code (3 : Nat) (Option.none : Option Jvm.ClassFile.FieldType) : Cond) ∈ lw_ok := lw_in (List.mem_append_right _ (List.mem_append_left _ (List.mem_of_getElem? (i := 234) rfl))) rfl
theorem k_235 : (Jvm.Cond.methodLink "CharacterSets" (144 : Nat) ({ cls := "CharacterSets", name := "listOf", desc := "(I)[I" } : Jvm.MethodName) : Cond) ∈ lw_ok := lw_in (List.mem_append_right _ (List.mem_append_left _ (List.mem_of_getElem? (i := 235) rfl))) rfl
theorem k_236 : (Jvm.Cond.static ({ cls := "CharacterSets", name := "listOf", desc := "(I)[I" } : Jvm.MethodName) : Cond) ∈ lw_ok := lw_in (List.mem_append_right _ (List.mem_append_left _ (List.mem_of_getElem? (i := 236) rfl))) rfl
theorem k_237 : (Jvm.Cond.code ({ cls := "CharacterSets", name := "listOf", desc := "(I)[I" } : Jvm.MethodName) prog_1_method_26_code (1 : Nat) (Option.some (Jvm.ClassFile.FieldType.array Jvm.ClassFile.FieldType.int)) : Cond) ∈ lw_ok := lw_in (List.mem_append_right _ (List.mem_append_left _ (List.mem_of_getElem? (i := 237) rfl))) rfl
theorem k_238 : (Jvm.Cond.fieldLink "CharacterSets" (162 : Nat) "CharacterSets" "DIGITS" "[I" : Cond) ∈ lw_ok := lw_in (List.mem_append_right _ (List.mem_append_left _ (List.mem_of_getElem? (i := 238) rfl))) rfl
theorem k_239 : (Jvm.Cond.laysStatic "CharacterSets" "DIGITS" "[I" : Cond) ∈ lw_tbl := List.mem_append_right _ (List.mem_append_left _ (List.mem_of_getElem? (i := 239) rfl))
theorem k_240 : (Jvm.Cond.fieldLink "CharacterSets" (165 : Nat) "CharacterSets" "WORDS" "[I" : Cond) ∈ lw_ok := lw_in (List.mem_append_right _ (List.mem_append_right _ (List.mem_append_left _ (List.mem_of_getElem? (i := 0) rfl)))) rfl
theorem k_241 : (Jvm.Cond.laysStatic "CharacterSets" "WORDS" "[I" : Cond) ∈ lw_tbl := List.mem_append_right _ (List.mem_append_right _ (List.mem_append_left _ (List.mem_of_getElem? (i := 1) rfl)))
theorem k_242 : (Jvm.Cond.fieldLink "CharacterSets" (168 : Nat) "CharacterSets" "SPACES" "[I" : Cond) ∈ lw_ok := lw_in (List.mem_append_right _ (List.mem_append_right _ (List.mem_append_left _ (List.mem_of_getElem? (i := 2) rfl)))) rfl
theorem k_243 : (Jvm.Cond.laysStatic "CharacterSets" "SPACES" "[I" : Cond) ∈ lw_tbl := List.mem_append_right _ (List.mem_append_right _ (List.mem_append_left _ (List.mem_of_getElem? (i := 3) rfl)))
theorem k_244 : (Jvm.Cond.fieldLink "CharacterSets" (155 : Nat) "CharacterSets" "HORIZONTALS" "[I" : Cond) ∈ lw_ok := lw_in (List.mem_append_right _ (List.mem_append_right _ (List.mem_append_left _ (List.mem_of_getElem? (i := 4) rfl)))) rfl
theorem k_245 : (Jvm.Cond.laysStatic "CharacterSets" "HORIZONTALS" "[I" : Cond) ∈ lw_tbl := List.mem_append_right _ (List.mem_append_right _ (List.mem_append_left _ (List.mem_of_getElem? (i := 5) rfl)))
theorem k_246 : (Jvm.Cond.fieldLink "CharacterSets" (171 : Nat) "CharacterSets" "VERTICALS" "[I" : Cond) ∈ lw_ok := lw_in (List.mem_append_right _ (List.mem_append_right _ (List.mem_append_left _ (List.mem_of_getElem? (i := 6) rfl)))) rfl
theorem k_247 : (Jvm.Cond.laysStatic "CharacterSets" "VERTICALS" "[I" : Cond) ∈ lw_tbl := List.mem_append_right _ (List.mem_append_right _ (List.mem_append_left _ (List.mem_of_getElem? (i := 7) rfl)))
theorem k_248 : (Jvm.Cond.fieldLink "CharacterSets" (174 : Nat) "CharacterSets" "ALPHAS" "[I" : Cond) ∈ lw_ok := lw_in (List.mem_append_right _ (List.mem_append_right _ (List.mem_append_left _ (List.mem_of_getElem? (i := 8) rfl)))) rfl
theorem k_249 : (Jvm.Cond.laysStatic "CharacterSets" "ALPHAS" "[I" : Cond) ∈ lw_tbl := List.mem_append_right _ (List.mem_append_right _ (List.mem_append_left _ (List.mem_of_getElem? (i := 9) rfl)))
theorem k_250 : (Jvm.Cond.fieldLink "CharacterSets" (177 : Nat) "CharacterSets" "LOWERS" "[I" : Cond) ∈ lw_ok := lw_in (List.mem_append_right _ (List.mem_append_right _ (List.mem_append_left _ (List.mem_of_getElem? (i := 10) rfl)))) rfl
theorem k_251 : (Jvm.Cond.laysStatic "CharacterSets" "LOWERS" "[I" : Cond) ∈ lw_tbl := List.mem_append_right _ (List.mem_append_right _ (List.mem_append_left _ (List.mem_of_getElem? (i := 11) rfl)))
theorem k_252 : (Jvm.Cond.fieldLink "CharacterSets" (180 : Nat) "CharacterSets" "UPPERS" "[I" : Cond) ∈ lw_ok := lw_in (List.mem_append_right _ (List.mem_append_right _ (List.mem_append_left _ (List.mem_of_getElem? (i := 12) rfl)))) rfl
theorem k_253 : (Jvm.Cond.laysStatic "CharacterSets" "UPPERS" "[I" : Cond) ∈ lw_tbl := List.mem_append_right _ (List.mem_append_right _ (List.mem_append_left _ (List.mem_of_getElem? (i := 13) rfl)))
theorem k_254 : (Jvm.Cond.fieldLink "CharacterSets" (183 : Nat) "CharacterSets" "ALNUMS" "[I" : Cond) ∈ lw_ok := lw_in (List.mem_append_right _ (List.mem_append_right _ (List.mem_append_left _ (List.mem_of_getElem? (i := 14) rfl)))) rfl
theorem k_255 : (Jvm.Cond.laysStatic "CharacterSets" "ALNUMS" "[I" : Cond) ∈ lw_tbl := List.mem_append_right _ (List.mem_append_right _ (List.mem_append_left _ (List.mem_of_getElem? (i := 15) rfl)))
theorem k_256 : (Jvm.Cond.fieldLink "CharacterSets" (186 : Nat) "CharacterSets" "BLANKS" "[I" : Cond) ∈ lw_ok := lw_in (List.mem_append_right _ (List.mem_append_right _ (List.mem_append_left _ (List.mem_of_getElem? (i := 16) rfl)))) rfl
theorem k_257 : (Jvm.Cond.laysStatic "CharacterSets" "BLANKS" "[I" : Cond) ∈ lw_tbl := List.mem_append_right _ (List.mem_append_right _ (List.mem_append_left _ (List.mem_of_getElem? (i := 17) rfl)))
theorem k_258 : (Jvm.Cond.fieldLink "CharacterSets" (189 : Nat) "CharacterSets" "CONTROLS" "[I" : Cond) ∈ lw_ok := lw_in (List.mem_append_right _ (List.mem_append_right _ (List.mem_append_left _ (List.mem_of_getElem? (i := 18) rfl)))) rfl
theorem k_259 : (Jvm.Cond.laysStatic "CharacterSets" "CONTROLS" "[I" : Cond) ∈ lw_tbl := List.mem_append_right _ (List.mem_append_right _ (List.mem_append_left _ (List.mem_of_getElem? (i := 19) rfl)))
theorem k_260 : (Jvm.Cond.fieldLink "CharacterSets" (192 : Nat) "CharacterSets" "GRAPHS" "[I" : Cond) ∈ lw_ok := lw_in (List.mem_append_right _ (List.mem_append_right _ (List.mem_append_left _ (List.mem_of_getElem? (i := 20) rfl)))) rfl
theorem k_261 : (Jvm.Cond.laysStatic "CharacterSets" "GRAPHS" "[I" : Cond) ∈ lw_tbl := List.mem_append_right _ (List.mem_append_right _ (List.mem_append_left _ (List.mem_of_getElem? (i := 21) rfl)))
theorem k_262 : (Jvm.Cond.fieldLink "CharacterSets" (195 : Nat) "CharacterSets" "PRINTS" "[I" : Cond) ∈ lw_ok := lw_in (List.mem_append_right _ (List.mem_append_right _ (List.mem_append_left _ (List.mem_of_getElem? (i := 22) rfl)))) rfl
theorem k_263 : (Jvm.Cond.laysStatic "CharacterSets" "PRINTS" "[I" : Cond) ∈ lw_tbl := List.mem_append_right _ (List.mem_append_right _ (List.mem_append_left _ (List.mem_of_getElem? (i := 23) rfl)))
theorem k_264 : (Jvm.Cond.fieldLink "CharacterSets" (198 : Nat) "CharacterSets" "PUNCTS" "[I" : Cond) ∈ lw_ok := lw_in (List.mem_append_right _ (List.mem_append_right _ (List.mem_append_left _ (List.mem_of_getElem? (i := 24) rfl)))) rfl
theorem k_265 : (Jvm.Cond.laysStatic "CharacterSets" "PUNCTS" "[I" : Cond) ∈ lw_tbl := List.mem_append_right _ (List.mem_append_right _ (List.mem_append_left _ (List.mem_of_getElem? (i := 25) rfl)))
theorem k_266 : (Jvm.Cond.fieldLink "CharacterSets" (201 : Nat) "CharacterSets" "HEX_DIGITS" "[I" : Cond) ∈ lw_ok := lw_in (List.mem_append_right _ (List.mem_append_right _ (List.mem_append_left _ (List.mem_of_getElem? (i := 26) rfl)))) rfl
theorem k_267 : (Jvm.Cond.laysStatic "CharacterSets" "HEX_DIGITS" "[I" : Cond) ∈ lw_tbl := List.mem_append_right _ (List.mem_append_right _ (List.mem_append_left _ (List.mem_of_getElem? (i := 27) rfl)))
theorem k_268 : (Jvm.Cond.fieldLink "CharacterSets" (204 : Nat) "CharacterSets" "ASCII" "[I" : Cond) ∈ lw_ok := lw_in (List.mem_append_right _ (List.mem_append_right _ (List.mem_append_left _ (List.mem_of_getElem? (i := 28) rfl)))) rfl
theorem k_269 : (Jvm.Cond.laysStatic "CharacterSets" "ASCII" "[I" : Cond) ∈ lw_tbl := List.mem_append_right _ (List.mem_append_right _ (List.mem_append_left _ (List.mem_of_getElem? (i := 29) rfl)))
theorem k_270 : (Jvm.Cond.fieldLink "CharacterSets" (207 : Nat) "CharacterSets" "NOTHING" "[I" : Cond) ∈ lw_ok := lw_in (List.mem_append_right _ (List.mem_append_right _ (List.mem_append_left _ (List.mem_of_getElem? (i := 30) rfl)))) rfl
theorem k_271 : (Jvm.Cond.laysStatic "CharacterSets" "NOTHING" "[I" : Cond) ∈ lw_tbl := List.mem_append_right _ (List.mem_append_right _ (List.mem_append_left _ (List.mem_of_getElem? (i := 31) rfl)))
theorem k_272 : (Jvm.Cond.methodLink "CharacterSets" (148 : Nat) ({ cls := "CharacterSets", name := "gatherList", desc := "([I)V" } : Jvm.MethodName) : Cond) ∈ lw_ok := lw_in (List.mem_append_right _ (List.mem_append_right _ (List.mem_append_left _ (List.mem_of_getElem? (i := 32) rfl)))) rfl
theorem k_273 : (Jvm.Cond.privateMethod ({ cls := "CharacterSets", name := "gatherList", desc := "([I)V" } : Jvm.MethodName) : Cond) ∈ lw_tbl := List.mem_append_right _ (List.mem_append_right _ (List.mem_append_left _ (List.mem_of_getElem? (i := 33) rfl)))
theorem k_274 : (Jvm.Cond.instanceMethod ({ cls := "CharacterSets", name := "gatherList", desc := "([I)V" } : Jvm.MethodName) : Cond) ∈ lw_ok := lw_in (List.mem_append_right _ (List.mem_append_right _ (List.mem_append_left _ (List.mem_of_getElem? (i := 34) rfl)))) rfl
theorem k_275 : (Jvm.Cond.code ({ cls := "CharacterSets", name := "gatherList", desc := "([I)V" } : Jvm.MethodName) prog_1_method_27_code (3 : Nat) (Option.none : Option Jvm.ClassFile.FieldType) : Cond) ∈ lw_ok := lw_in (List.mem_append_right _ (List.mem_append_right _ (List.mem_append_left _ (List.mem_of_getElem? (i := 35) rfl)))) rfl
theorem k_276 : (Jvm.Cond.methodLink "CharacterSets" (152 : Nat) ({ cls := "CharacterSets", name := "propertyOf", desc := "(I)I" } : Jvm.MethodName) : Cond) ∈ lw_ok := lw_in (List.mem_append_right _ (List.mem_append_right _ (List.mem_append_left _ (List.mem_of_getElem? (i := 36) rfl)))) rfl
theorem k_277 : (Jvm.Cond.static ({ cls := "CharacterSets", name := "propertyOf", desc := "(I)I" } : Jvm.MethodName) : Cond) ∈ lw_ok := lw_in (List.mem_append_right _ (List.mem_append_right _ (List.mem_append_left _ (List.mem_of_getElem? (i := 37) rfl)))) rfl
theorem k_278 : (Jvm.Cond.code ({ cls := "CharacterSets", name := "propertyOf", desc := "(I)I" } : Jvm.MethodName) prog_1_method_25_code (1 : Nat) (Option.some Jvm.ClassFile.FieldType.int) : Cond) ∈ lw_ok := lw_in (List.mem_append_right _ (List.mem_append_right _ (List.mem_append_left _ (List.mem_of_getElem? (i := 38) rfl)))) rfl
theorem k_279 : (Jvm.Cond.constant "CharacterSets" (158 : Nat) (4194300 : Int32) : Cond) ∈ lw_ok := lw_in (List.mem_append_right _ (List.mem_append_right _ (List.mem_append_left _ (List.mem_of_getElem? (i := 39) rfl)))) rfl
theorem k_280 : (Jvm.Cond.constant "CharacterSets" (159 : Nat) (20971516 : Int32) : Cond) ∈ lw_ok := lw_in (List.mem_append_right _ (List.mem_append_right _ (List.mem_append_left _ (List.mem_of_getElem? (i := 40) rfl)))) rfl
theorem k_281 : (Jvm.Cond.constant "CharacterSets" (160 : Nat) (260096 : Int32) : Cond) ∈ lw_ok := lw_in (List.mem_append_right _ (List.mem_append_right _ (List.mem_append_left _ (List.mem_of_getElem? (i := 41) rfl)))) rfl
theorem k_282 : (Jvm.Cond.constant "CharacterSets" (161 : Nat) (3932160 : Int32) : Cond) ∈ lw_ok := lw_in (List.mem_append_right _ (List.mem_append_right _ (List.mem_append_left _ (List.mem_of_getElem? (i := 42) rfl)))) rfl
theorem k_283 : (Jvm.Cond.methodLink "CharacterSetsLaw" (40 : Nat) ({ cls := "CharacterSets", name := "close", desc := "(I)I" } : Jvm.MethodName) : Cond) ∈ lw_ok := lw_in (List.mem_append_right _ (List.mem_append_right _ (List.mem_append_left _ (List.mem_of_getElem? (i := 43) rfl)))) rfl
theorem k_284 : (Jvm.Cond.instanceMethod ({ cls := "CharacterSets", name := "close", desc := "(I)I" } : Jvm.MethodName) : Cond) ∈ lw_ok := lw_in (List.mem_append_right _ (List.mem_append_right _ (List.mem_append_left _ (List.mem_of_getElem? (i := 44) rfl)))) rfl
theorem k_285 : (Jvm.Cond.selects "CharacterSets" ({ cls := "CharacterSets", name := "close", desc := "(I)I" } : Jvm.MethodName) ({ cls := "CharacterSets", name := "close", desc := "(I)I" } : Jvm.MethodName) : Cond) ∈ lw_ok := lw_in (List.mem_append_right _ (List.mem_append_right _ (List.mem_append_left _ (List.mem_of_getElem? (i := 45) rfl)))) rfl
theorem k_286 : (Jvm.Cond.code ({ cls := "CharacterSets", name := "close", desc := "(I)I" } : Jvm.MethodName) prog_1_method_6_code (5 : Nat) (Option.some Jvm.ClassFile.FieldType.int) : Cond) ∈ lw_ok := lw_in (List.mem_append_right _ (List.mem_append_right _ (List.mem_append_left _ (List.mem_of_getElem? (i := 46) rfl)))) rfl
theorem k_287 : (Jvm.Cond.methodLink "CharacterSets" (74 : Nat) ({ cls := "CharacterSets$CaseRings", name := "characterAt", desc := "(I)I" } : Jvm.MethodName) : Cond) ∈ lw_ok := lw_in (List.mem_append_right _ (List.mem_append_right _ (List.mem_append_left _ (List.mem_of_getElem? (i := 47) rfl)))) rfl
theorem k_288 : (Jvm.Cond.methodLink "CharacterSets" (78 : Nat) ({ cls := "CharacterSets", name := "isMissing", desc := "(LCharacterSets$Ranges;I)Z" } : Jvm.MethodName) : Cond) ∈ lw_ok := lw_in (List.mem_append_right _ (List.mem_append_right _ (List.mem_append_left _ (List.mem_of_getElem? (i := 48) rfl)))) rfl
theorem k_289 : (Jvm.Cond.privateMethod ({ cls := "CharacterSets", name := "isMissing", desc := "(LCharacterSets$Ranges;I)Z" } : Jvm.MethodName) : Cond) ∈ lw_tbl := List.mem_append_right _ (List.mem_append_right _ (List.mem_append_left _ (List.mem_of_getElem? (i := 49) rfl)))
theorem k_290 : (Jvm.Cond.instanceMethod ({ cls := "CharacterSets", name := "isMissing", desc := "(LCharacterSets$Ranges;I)Z" } : Jvm.MethodName) : Cond) ∈ lw_ok := lw_in (List.mem_append_right _ (List.mem_append_right _ (List.mem_append_left _ (List.mem_of_getElem? (i := 50) rfl)))) rfl
theorem k_291 : (Jvm.Cond.code ({ cls := "CharacterSets", name := "isMissing", desc := "(LCharacterSets$Ranges;I)Z" } : Jvm.MethodName) prog_1_method_18_code (4 : Nat) (Option.some Jvm.ClassFile.FieldType.boolean) : Cond) ∈ lw_ok := lw_in (List.mem_append_right _ (List.mem_append_right _ (List.mem_append_left _ (List.mem_of_getElem? (i := 51) rfl)))) rfl
theorem k_292 : (Jvm.Cond.methodLink "CharacterSets" (123 : Nat) ({ cls := "CharacterSets$CaseRings", name := "nextOf", desc := "(I)I" } : Jvm.MethodName) : Cond) ∈ lw_ok := lw_in (List.mem_append_right _ (List.mem_append_right _ (List.mem_append_left _ (List.mem_of_getElem? (i := 52) rfl)))) rfl
theorem k_293 : (Jvm.Cond.instanceMethod ({ cls := "CharacterSets$CaseRings", name := "nextOf", desc := "(I)I" } : Jvm.MethodName) : Cond) ∈ lw_ok := lw_in (List.mem_append_right _ (List.mem_append_right _ (List.mem_append_left _ (List.mem_of_getElem? (i := 53) rfl)))) rfl
theorem k_294 : (Jvm.Cond.selects "CharacterSets$CaseRings" ({ cls := "CharacterSets$CaseRings", name := "nextOf", desc := "(I)I" } : Jvm.MethodName) ({ cls := "CharacterSets$CaseRings", name := "nextOf", desc := "(I)I" } : Jvm.MethodName) : Cond) ∈ lw_ok := lw_in (List.mem_append_right _ (List.mem_append_right _ (List.mem_append_left _ (List.mem_of_getElem? (i := 54) rfl)))) rfl
theorem k_295 : (Jvm.Cond.code ({ cls := "CharacterSets$CaseRings", name := "nextOf", desc := "(I)I" } : Jvm.MethodName) prog_2_method_3_code (3 : Nat) (Option.some Jvm.ClassFile.FieldType.int) : Cond) ∈ lw_ok := lw_in (List.mem_append_right _ (List.mem_append_right _ (List.mem_append_left _ (List.mem_of_getElem? (i := 55) rfl)))) rfl
theorem k_296 : (Jvm.Cond.methodLink "CharacterSets" (96 : Nat) ({ cls := "CharacterSets$Ranges", name := "contains", desc := "(I)Z" } : Jvm.MethodName) : Cond) ∈ lw_ok := lw_in (List.mem_append_right _ (List.mem_append_right _ (List.mem_append_left _ (List.mem_of_getElem? (i := 56) rfl)))) rfl
theorem k_297 : (Jvm.Cond.instanceMethod ({ cls := "CharacterSets$Ranges", name := "contains", desc := "(I)Z" } : Jvm.MethodName) : Cond) ∈ lw_ok := lw_in (List.mem_append_right _ (List.mem_append_right _ (List.mem_append_left _ (List.mem_of_getElem? (i := 57) rfl)))) rfl
theorem k_298 : (Jvm.Cond.selects "CharacterSets$Ranges" ({ cls := "CharacterSets$Ranges", name := "contains", desc := "(I)Z" } : Jvm.MethodName) ({ cls := "CharacterSets$Ranges", name := "contains", desc := "(I)Z" } : Jvm.MethodName) : Cond) ∈ lw_ok := lw_in (List.mem_append_right _ (List.mem_append_right _ (List.mem_append_left _ (List.mem_of_getElem? (i := 58) rfl)))) rfl
theorem k_299 : (Jvm.Cond.code ({ cls := "CharacterSets$Ranges", name := "contains", desc := "(I)Z" } : Jvm.MethodName) prog_3_method_7_code (2 : Nat) (Option.some Jvm.ClassFile.FieldType.boolean) : Cond) ∈ lw_ok := lw_in (List.mem_append_right _ (List.mem_append_right _ (List.mem_append_left _ (List.mem_of_getElem? (i := 59) rfl)))) rfl
theorem k_300 : (Jvm.Cond.methodLink "CharacterSetsLaw" (44 : Nat) ({ cls := "CharacterSets", name := "invert", desc := "(I)I" } : Jvm.MethodName) : Cond) ∈ lw_ok := lw_in (List.mem_append_right _ (List.mem_append_right _ (List.mem_append_left _ (List.mem_of_getElem? (i := 60) rfl)))) rfl
theorem k_301 : (Jvm.Cond.instanceMethod ({ cls := "CharacterSets", name := "invert", desc := "(I)I" } : Jvm.MethodName) : Cond) ∈ lw_ok := lw_in (List.mem_append_right _ (List.mem_append_right _ (List.mem_append_left _ (List.mem_of_getElem? (i := 61) rfl)))) rfl
theorem k_302 : (Jvm.Cond.selects "CharacterSets" ({ cls := "CharacterSets", name := "invert", desc := "(I)I" } : Jvm.MethodName) ({ cls := "CharacterSets", name := "invert", desc := "(I)I" } : Jvm.MethodName) : Cond) ∈ lw_ok := lw_in (List.mem_append_right _ (List.mem_append_right _ (List.mem_append_left _ (List.mem_of_getElem? (i := 62) rfl)))) rfl
theorem k_303 : (Jvm.Cond.code ({ cls := "CharacterSets", name := "invert", desc := "(I)I" } : Jvm.MethodName) prog_1_method_7_code (2 : Nat) (Option.some Jvm.ClassFile.FieldType.int) : Cond) ∈ lw_ok := lw_in (List.mem_append_right _ (List.mem_append_right _ (List.mem_append_left _ (List.mem_of_getElem? (i := 63) rfl)))) rfl
theorem k_304 : (Jvm.Cond.methodLink "CharacterSetsLaw" (48 : Nat) ({ cls := "CharacterSets", name := "join", desc := "(II)I" } : Jvm.MethodName) : Cond) ∈ lw_ok := lw_in (List.mem_append_right _ (List.mem_append_right _ (List.mem_append_left _ (List.mem_of_getElem? (i := 64) rfl)))) rfl
theorem k_305 : (Jvm.Cond.instanceMethod ({ cls := "CharacterSets", name := "join", desc := "(II)I" } : Jvm.MethodName) : Cond) ∈ lw_ok := lw_in (List.mem_append_right _ (List.mem_append_right _ (List.mem_append_left _ (List.mem_of_getElem? (i := 65) rfl)))) rfl
theorem k_306 : (Jvm.Cond.selects "CharacterSets" ({ cls := "CharacterSets", name := "join", desc := "(II)I" } : Jvm.MethodName) ({ cls := "CharacterSets", name := "join", desc := "(II)I" } : Jvm.MethodName) : Cond) ∈ lw_ok := lw_in (List.mem_append_right _ (List.mem_append_right _ (List.mem_append_left _ (List.mem_of_getElem? (i := 66) rfl)))) rfl
theorem k_307 : (Jvm.Cond.code ({ cls := "CharacterSets", name := "join", desc := "(II)I" } : Jvm.MethodName) prog_1_method_8_code (3 : Nat) (Option.some Jvm.ClassFile.FieldType.int) : Cond) ∈ lw_ok := lw_in (List.mem_append_right _ (List.mem_append_right _ (List.mem_append_left _ (List.mem_of_getElem? (i := 67) rfl)))) rfl
theorem k_308 : (Jvm.Cond.methodLink "CharacterSetsLaw" (53 : Nat) ({ cls := "CharacterSets", name := "meets", desc := "(II)I" } : Jvm.MethodName) : Cond) ∈ lw_ok := lw_in (List.mem_append_right _ (List.mem_append_right _ (List.mem_append_left _ (List.mem_of_getElem? (i := 68) rfl)))) rfl
theorem k_309 : (Jvm.Cond.instanceMethod ({ cls := "CharacterSets", name := "meets", desc := "(II)I" } : Jvm.MethodName) : Cond) ∈ lw_ok := lw_in (List.mem_append_right _ (List.mem_append_right _ (List.mem_append_left _ (List.mem_of_getElem? (i := 69) rfl)))) rfl
theorem k_310 : (Jvm.Cond.selects "CharacterSets" ({ cls := "CharacterSets", name := "meets", desc := "(II)I" } : Jvm.MethodName) ({ cls := "CharacterSets", name := "meets", desc := "(II)I" } : Jvm.MethodName) : Cond) ∈ lw_ok := lw_in (List.mem_append_right _ (List.mem_append_right _ (List.mem_append_left _ (List.mem_of_getElem? (i := 70) rfl)))) rfl
theorem k_311 : (Jvm.Cond.code ({ cls := "CharacterSets", name := "meets", desc := "(II)I" } : Jvm.MethodName) prog_1_method_9_code (3 : Nat) (Option.some Jvm.ClassFile.FieldType.int) : Cond) ∈ lw_ok := lw_in (List.mem_append_right _ (List.mem_append_right _ (List.mem_append_left _ (List.mem_of_getElem? (i := 71) rfl)))) rfl
theorem k_312 : (Jvm.Cond.methodLink "CharacterSets" (89 : Nat) ({ cls := "CharacterSets$Ranges", name := "overlaps", desc := "(LCharacterSets$Ranges;)Z" } : Jvm.MethodName) : Cond) ∈ lw_ok := lw_in (List.mem_append_right _ (List.mem_append_right _ (List.mem_append_left _ (List.mem_of_getElem? (i := 72) rfl)))) rfl
theorem k_313 : (Jvm.Cond.instanceMethod ({ cls := "CharacterSets$Ranges", name := "overlaps", desc := "(LCharacterSets$Ranges;)Z" } : Jvm.MethodName) : Cond) ∈ lw_ok := lw_in (List.mem_append_right _ (List.mem_append_right _ (List.mem_append_left _ (List.mem_of_getElem? (i := 73) rfl)))) rfl
theorem k_314 : (Jvm.Cond.selects "CharacterSets$Ranges" ({ cls := "CharacterSets$Ranges", name := "overlaps", desc := "(LCharacterSets$Ranges;)Z" } : Jvm.MethodName) ({ cls := "CharacterSets$Ranges", name := "overlaps", desc := "(LCharacterSets$Ranges;)Z" } : Jvm.MethodName) : Cond) ∈ lw_ok := lw_in (List.mem_append_right _ (List.mem_append_right _ (List.mem_append_left _ (List.mem_of_getElem? (i := 74) rfl)))) rfl
theorem k_315 : (Jvm.Cond.code ({ cls := "CharacterSets$Ranges", name := "overlaps", desc := "(LCharacterSets$Ranges;)Z" } : Jvm.MethodName) prog_3_method_10_code (4 : Nat) (Option.some Jvm.ClassFile.FieldType.boolean) : Cond) ∈ lw_ok := lw_in (List.mem_append_right _ (List.mem_append_right _ (List.mem_append_left _ (List.mem_of_getElem? (i := 75) rfl)))) rfl
theorem k_316 : (Jvm.Cond.methodLink "CharacterSets$Ranges" (28 : Nat) ({ cls := "CharacterSets$Ranges", name := "firstFrom", desc := "(I)I" } : Jvm.MethodName) : Cond) ∈ lw_ok := lw_in (List.mem_append_right _ (List.mem_append_right _ (List.mem_append_left _ (List.mem_of_getElem? (i := 76) rfl)))) rfl
theorem k_317 : (Jvm.Cond.instanceMethod ({ cls := "CharacterSets$Ranges", name := "firstFrom", desc := "(I)I" } : Jvm.MethodName) : Cond) ∈ lw_ok := lw_in (List.mem_append_right _ (List.mem_append_right _ (List.mem_append_left _ (List.mem_of_getElem? (i := 77) rfl)))) rfl
theorem k_318 : (Jvm.Cond.selects "CharacterSets$Ranges" ({ cls := "CharacterSets$Ranges", name := "firstFrom", desc := "(I)I" } : Jvm.MethodName) ({ cls := "CharacterSets$Ranges", name := "firstFrom", desc := "(I)I" } : Jvm.MethodName) : Cond) ∈ lw_ok := lw_in (List.mem_append_right _ (List.mem_append_right _ (List.mem_append_left _ (List.mem_of_getElem? (i := 78) rfl)))) rfl
theorem k_319 : (Jvm.Cond.code ({ cls := "CharacterSets$Ranges", name := "firstFrom", desc := "(I)I" } : Jvm.MethodName) prog_3_method_8_code (3 : Nat) (Option.some Jvm.ClassFile.FieldType.int) : Cond) ∈ lw_ok := lw_in (List.mem_append_right _ (List.mem_append_right _ (List.mem_append_left _ (List.mem_of_getElem? (i := 79) rfl)))) rfl
theorem k_320 : (Jvm.Cond.methodLink "CharacterSetsLaw" (57 : Nat) ({ cls := "CharacterSets", name := "same", desc := "(II)I" } : Jvm.MethodName) : Cond) ∈ lw_ok := lw_in (List.mem_append_right _ (List.mem_append_right _ (List.mem_append_left _ (List.mem_of_getElem? (i := 80) rfl)))) rfl
theorem k_321 : (Jvm.Cond.instanceMethod ({ cls := "CharacterSets", name := "same", desc := "(II)I" } : Jvm.MethodName) : Cond) ∈ lw_ok := lw_in (List.mem_append_right _ (List.mem_append_right _ (List.mem_append_left _ (List.mem_of_getElem? (i := 81) rfl)))) rfl
theorem k_322 : (Jvm.Cond.selects "CharacterSets" ({ cls := "CharacterSets", name := "same", desc := "(II)I" } : Jvm.MethodName) ({ cls := "CharacterSets", name := "same", desc := "(II)I" } : Jvm.MethodName) : Cond) ∈ lw_ok := lw_in (List.mem_append_right _ (List.mem_append_right _ (List.mem_append_left _ (List.mem_of_getElem? (i := 82) rfl)))) rfl
theorem k_323 : (Jvm.Cond.code ({ cls := "CharacterSets", name := "same", desc := "(II)I" } : Jvm.MethodName) prog_1_method_10_code (3 : Nat) (Option.some Jvm.ClassFile.FieldType.int) : Cond) ∈ lw_ok := lw_in (List.mem_append_right _ (List.mem_append_right _ (List.mem_append_left _ (List.mem_of_getElem? (i := 83) rfl)))) rfl
theorem k_324 : (Jvm.Cond.methodLink "CharacterSets" (93 : Nat) ({ cls := "CharacterSets$Ranges", name := "matches", desc := "(LCharacterSets$Ranges;)Z" } : Jvm.MethodName) : Cond) ∈ lw_ok := lw_in (List.mem_append_right _ (List.mem_append_right _ (List.mem_append_left _ (List.mem_of_getElem? (i := 84) rfl)))) rfl
theorem k_325 : (Jvm.Cond.instanceMethod ({ cls := "CharacterSets$Ranges", name := "matches", desc := "(LCharacterSets$Ranges;)Z" } : Jvm.MethodName) : Cond) ∈ lw_ok := lw_in (List.mem_append_right _ (List.mem_append_right _ (List.mem_append_left _ (List.mem_of_getElem? (i := 85) rfl)))) rfl
theorem k_326 : (Jvm.Cond.selects "CharacterSets$Ranges" ({ cls := "CharacterSets$Ranges", name := "matches", desc := "(LCharacterSets$Ranges;)Z" } : Jvm.MethodName) ({ cls := "CharacterSets$Ranges", name := "matches", desc := "(LCharacterSets$Ranges;)Z" } : Jvm.MethodName) : Cond) ∈ lw_ok := lw_in (List.mem_append_right _ (List.mem_append_right _ (List.mem_append_left _ (List.mem_of_getElem? (i := 86) rfl)))) rfl
theorem k_327 : (Jvm.Cond.code ({ cls := "CharacterSets$Ranges", name := "matches", desc := "(LCharacterSets$Ranges;)Z" } : Jvm.MethodName) prog_3_method_9_code (3 : Nat) (Option.some Jvm.ClassFile.FieldType.boolean) : Cond) ∈ lw_ok := lw_in (List.mem_append_right _ (List.mem_append_right _ (List.mem_append_left _ (List.mem_of_getElem? (i := 87) rfl)))) rfl
theorem k_328 : (Jvm.Cond.methodLink "CharacterSetsLaw" (61 : Nat) ({ cls := "CharacterSets", name := "has", desc := "(II)I" } : Jvm.MethodName) : Cond) ∈ lw_ok := lw_in (List.mem_append_right _ (List.mem_append_right _ (List.mem_append_left _ (List.mem_of_getElem? (i := 88) rfl)))) rfl
theorem k_329 : (Jvm.Cond.instanceMethod ({ cls := "CharacterSets", name := "has", desc := "(II)I" } : Jvm.MethodName) : Cond) ∈ lw_ok := lw_in (List.mem_append_right _ (List.mem_append_right _ (List.mem_append_left _ (List.mem_of_getElem? (i := 89) rfl)))) rfl
theorem k_330 : (Jvm.Cond.selects "CharacterSets" ({ cls := "CharacterSets", name := "has", desc := "(II)I" } : Jvm.MethodName) ({ cls := "CharacterSets", name := "has", desc := "(II)I" } : Jvm.MethodName) : Cond) ∈ lw_ok := lw_in (List.mem_append_right _ (List.mem_append_right _ (List.mem_append_left _ (List.mem_of_getElem? (i := 90) rfl)))) rfl
theorem k_331 : (Jvm.Cond.code ({ cls := "CharacterSets", name := "has", desc := "(II)I" } : Jvm.MethodName) prog_1_method_11_code (3 : Nat) (Option.some Jvm.ClassFile.FieldType.int) : Cond) ∈ lw_ok := lw_in (List.mem_append_right _ (List.mem_append_right _ (List.mem_append_left _ (List.mem_of_getElem? (i := 91) rfl)))) rfl
theorem k_332 : (Jvm.Cond.methodLink "CharacterSetsLaw" (65 : Nat) ({ cls := "CharacterSets", name := "size", desc := "(I)I" } : Jvm.MethodName) : Cond) ∈ lw_ok := lw_in (List.mem_append_right _ (List.mem_append_right _ (List.mem_append_left _ (List.mem_of_getElem? (i := 92) rfl)))) rfl
theorem k_333 : (Jvm.Cond.instanceMethod ({ cls := "CharacterSets", name := "size", desc := "(I)I" } : Jvm.MethodName) : Cond) ∈ lw_ok := lw_in (List.mem_append_right _ (List.mem_append_right _ (List.mem_append_left _ (List.mem_of_getElem? (i := 93) rfl)))) rfl
theorem k_334 : (Jvm.Cond.selects "CharacterSets" ({ cls := "CharacterSets", name := "size", desc := "(I)I" } : Jvm.MethodName) ({ cls := "CharacterSets", name := "size", desc := "(I)I" } : Jvm.MethodName) : Cond) ∈ lw_ok := lw_in (List.mem_append_right _ (List.mem_append_right _ (List.mem_append_left _ (List.mem_of_getElem? (i := 94) rfl)))) rfl
theorem k_335 : (Jvm.Cond.code ({ cls := "CharacterSets", name := "size", desc := "(I)I" } : Jvm.MethodName) prog_1_method_12_code (2 : Nat) (Option.some Jvm.ClassFile.FieldType.int) : Cond) ∈ lw_ok := lw_in (List.mem_append_right _ (List.mem_append_right _ (List.mem_append_left _ (List.mem_of_getElem? (i := 95) rfl)))) rfl
theorem k_336 : (Jvm.Cond.methodLink "CharacterSets" (99 : Nat) ({ cls := "CharacterSets$Ranges", name := "memberCount", desc := "()I" } : Jvm.MethodName) : Cond) ∈ lw_ok := lw_in (List.mem_append_right _ (List.mem_append_right _ (List.mem_append_left _ (List.mem_of_getElem? (i := 96) rfl)))) rfl
theorem k_337 : (Jvm.Cond.instanceMethod ({ cls := "CharacterSets$Ranges", name := "memberCount", desc := "()I" } : Jvm.MethodName) : Cond) ∈ lw_ok := lw_in (List.mem_append_right _ (List.mem_append_right _ (List.mem_append_left _ (List.mem_of_getElem? (i := 97) rfl)))) rfl
theorem k_338 : (Jvm.Cond.selects "CharacterSets$Ranges" ({ cls := "CharacterSets$Ranges", name := "memberCount", desc := "()I" } : Jvm.MethodName) ({ cls := "CharacterSets$Ranges", name := "memberCount", desc := "()I" } : Jvm.MethodName) : Cond) ∈ lw_ok := lw_in (List.mem_append_right _ (List.mem_append_right _ (List.mem_append_left _ (List.mem_of_getElem? (i := 98) rfl)))) rfl
theorem k_339 : (Jvm.Cond.code ({ cls := "CharacterSets$Ranges", name := "memberCount", desc := "()I" } : Jvm.MethodName) prog_3_method_6_code (3 : Nat) (Option.some Jvm.ClassFile.FieldType.int) : Cond) ∈ lw_ok := lw_in (List.mem_append_right _ (List.mem_append_right _ (List.mem_append_left _ (List.mem_of_getElem? (i := 99) rfl)))) rfl
theorem k_340 : (Jvm.Cond.methodLink "CharacterSetsLaw" (69 : Nat) ({ cls := "CharacterSets", name := "least", desc := "(II)I" } : Jvm.MethodName) : Cond) ∈ lw_ok := lw_in (List.mem_append_right _ (List.mem_append_right _ (List.mem_append_left _ (List.mem_of_getElem? (i := 100) rfl)))) rfl
theorem k_341 : (Jvm.Cond.instanceMethod ({ cls := "CharacterSets", name := "least", desc := "(II)I" } : Jvm.MethodName) : Cond) ∈ lw_ok := lw_in (List.mem_append_right _ (List.mem_append_right _ (List.mem_append_left _ (List.mem_of_getElem? (i := 101) rfl)))) rfl
theorem k_342 : (Jvm.Cond.selects "CharacterSets" ({ cls := "CharacterSets", name := "least", desc := "(II)I" } : Jvm.MethodName) ({ cls := "CharacterSets", name := "least", desc := "(II)I" } : Jvm.MethodName) : Cond) ∈ lw_ok := lw_in (List.mem_append_right _ (List.mem_append_right _ (List.mem_append_left _ (List.mem_of_getElem? (i := 102) rfl)))) rfl
theorem k_343 : (Jvm.Cond.code ({ cls := "CharacterSets", name := "least", desc := "(II)I" } : Jvm.MethodName) prog_1_method_13_code (3 : Nat) (Option.some Jvm.ClassFile.FieldType.int) : Cond) ∈ lw_ok := lw_in (List.mem_append_right _ (List.mem_append_right _ (List.mem_append_left _ (List.mem_of_getElem? (i := 103) rfl)))) rfl
theorem k_344 : (Jvm.Cond.methodLink "CharacterSets" (102 : Nat) ({ cls := "CharacterSets$Ranges", name := "firstFrom", desc := "(I)I" } : Jvm.MethodName) : Cond) ∈ lw_ok := lw_in (List.mem_append_right _ (List.mem_append_right _ (List.mem_append_left _ (List.mem_of_getElem? (i := 104) rfl)))) rfl
theorem k_345 : (Jvm.Cond.methodLink "CharacterSetsLaw" (73 : Nat) ({ cls := "CharacterSets", name := "bound", desc := "(IIZ)I" } : Jvm.MethodName) : Cond) ∈ lw_ok := lw_in (List.mem_append_right _ (List.mem_append_right _ (List.mem_append_left _ (List.mem_of_getElem? (i := 105) rfl)))) rfl
theorem k_346 : (Jvm.Cond.instanceMethod ({ cls := "CharacterSets", name := "bound", desc := "(IIZ)I" } : Jvm.MethodName) : Cond) ∈ lw_ok := lw_in (List.mem_append_right _ (List.mem_append_right _ (List.mem_append_left _ (List.mem_of_getElem? (i := 106) rfl)))) rfl
theorem k_347 : (Jvm.Cond.selects "CharacterSets" ({ cls := "CharacterSets", name := "bound", desc := "(IIZ)I" } : Jvm.MethodName) ({ cls := "CharacterSets", name := "bound", desc := "(IIZ)I" } : Jvm.MethodName) : Cond) ∈ lw_ok := lw_in (List.mem_append_right _ (List.mem_append_right _ (List.mem_append_left _ (List.mem_of_getElem? (i := 107) rfl)))) rfl
theorem k_348 : (Jvm.Cond.code ({ cls := "CharacterSets", name := "bound", desc := "(IIZ)I" } : Jvm.MethodName) prog_1_method_14_code (4 : Nat) (Option.some Jvm.ClassFile.FieldType.int) : Cond) ∈ lw_ok := lw_in (List.mem_append_right _ (List.mem_append_right _ (List.mem_append_left _ (List.mem_of_getElem? (i := 108) rfl)))) rfl
theorem k_349 : (Jvm.Cond.methodLink "CharacterSets" (105 : Nat) ({ cls := "CharacterSets$Ranges", name := "highOf", desc := "(I)I" } : Jvm.MethodName) : Cond) ∈ lw_ok := lw_in (List.mem_append_right _ (List.mem_append_right _ (List.mem_append_left _ (List.mem_of_getElem? (i := 109) rfl)))) rfl
theorem k_350 : (Jvm.Cond.methodLink "CharacterSets" (108 : Nat) ({ cls := "CharacterSets$Ranges", name := "lowOf", desc := "(I)I" } : Jvm.MethodName) : Cond) ∈ lw_ok := lw_in (List.mem_append_right _ (List.mem_append_right _ (List.mem_append_left _ (List.mem_of_getElem? (i := 110) rfl)))) rfl
theorem k_351 : (Jvm.Cond.methodLink "CharacterSetsLaw" (78 : Nat) ({ cls := "CharacterSets", name := "about", desc := "(II)I" } : Jvm.MethodName) : Cond) ∈ lw_ok := lw_in (List.mem_append_right _ (List.mem_append_right _ (List.mem_append_left _ (List.mem_of_getElem? (i := 111) rfl)))) rfl
theorem k_352 : (Jvm.Cond.instanceMethod ({ cls := "CharacterSets", name := "about", desc := "(II)I" } : Jvm.MethodName) : Cond) ∈ lw_ok := lw_in (List.mem_append_right _ (List.mem_append_right _ (List.mem_append_left _ (List.mem_of_getElem? (i := 112) rfl)))) rfl
theorem k_353 : (Jvm.Cond.selects "CharacterSets" ({ cls := "CharacterSets", name := "about", desc := "(II)I" } : Jvm.MethodName) ({ cls := "CharacterSets", name := "about", desc := "(II)I" } : Jvm.MethodName) : Cond) ∈ lw_ok := lw_in (List.mem_append_right _ (List.mem_append_right _ (List.mem_append_left _ (List.mem_of_getElem? (i := 113) rfl)))) rfl
theorem k_354 : (Jvm.Cond.code ({ cls := "CharacterSets", name := "about", desc := "(II)I" } : Jvm.MethodName) prog_1_method_15_code (3 : Nat) (Option.some Jvm.ClassFile.FieldType.int) : Cond) ∈ lw_ok := lw_in (List.mem_append_right _ (List.mem_append_right _ (List.mem_append_left _ (List.mem_of_getElem? (i := 114) rfl)))) rfl
theorem k_355 : (Jvm.Cond.methodLink "CharacterSets" (111 : Nat) ({ cls := "CharacterSets$Table", name := "categoryOf", desc := "(I)I" } : Jvm.MethodName) : Cond) ∈ lw_ok := lw_in (List.mem_append_right _ (List.mem_append_right _ (List.mem_append_left _ (List.mem_of_getElem? (i := 115) rfl)))) rfl
theorem k_356 : (Jvm.Cond.instanceMethod ({ cls := "CharacterSets$Table", name := "categoryOf", desc := "(I)I" } : Jvm.MethodName) : Cond) ∈ lw_ok := lw_in (List.mem_append_right _ (List.mem_append_right _ (List.mem_append_left _ (List.mem_of_getElem? (i := 116) rfl)))) rfl
theorem k_357 : (Jvm.Cond.selects "CharacterSets$Table" ({ cls := "CharacterSets$Table", name := "categoryOf", desc := "(I)I" } : Jvm.MethodName) ({ cls := "CharacterSets$Table", name := "categoryOf", desc := "(I)I" } : Jvm.MethodName) : Cond) ∈ lw_ok := lw_in (List.mem_append_right _ (List.mem_append_right _ (List.mem_append_left _ (List.mem_of_getElem? (i := 117) rfl)))) rfl
theorem k_358 : (Jvm.Cond.code ({ cls := "CharacterSets$Table", name := "categoryOf", desc := "(I)I" } : Jvm.MethodName) prog_4_method_7_code (2 : Nat) (Option.some Jvm.ClassFile.FieldType.int) : Cond) ∈ lw_ok := lw_in (List.mem_append_right _ (List.mem_append_right _ (List.mem_append_left _ (List.mem_of_getElem? (i := 118) rfl)))) rfl
theorem k_359 : (Jvm.Cond.methodLink "CharacterSets$Table" (37 : Nat) ({ cls := "CharacterSets$Table", name := "pieceOf", desc := "(I)I" } : Jvm.MethodName) : Cond) ∈ lw_ok := lw_in (List.mem_append_right _ (List.mem_append_right _ (List.mem_append_left _ (List.mem_of_getElem? (i := 119) rfl)))) rfl
theorem k_360 : (Jvm.Cond.privateMethod ({ cls := "CharacterSets$Table", name := "pieceOf", desc := "(I)I" } : Jvm.MethodName) : Cond) ∈ lw_tbl := List.mem_append_right _ (List.mem_append_right _ (List.mem_append_left _ (List.mem_of_getElem? (i := 120) rfl)))
theorem k_361 : (Jvm.Cond.instanceMethod ({ cls := "CharacterSets$Table", name := "pieceOf", desc := "(I)I" } : Jvm.MethodName) : Cond) ∈ lw_ok := lw_in (List.mem_append_right _ (List.mem_append_right _ (List.mem_append_left _ (List.mem_of_getElem? (i := 121) rfl)))) rfl
theorem k_362 : (Jvm.Cond.code ({ cls := "CharacterSets$Table", name := "pieceOf", desc := "(I)I" } : Jvm.MethodName) prog_4_method_9_code (4 : Nat) (Option.some Jvm.ClassFile.FieldType.int) : Cond) ∈ lw_ok := lw_in (List.mem_append_right _ (List.mem_append_right _ (List.mem_append_left _ (List.mem_of_getElem? (i := 122) rfl)))) rfl
theorem k_363 : (Jvm.Cond.methodLink "CharacterSets" (114 : Nat) ({ cls := "CharacterSets$Table", name := "scriptOf", desc := "(I)I" } : Jvm.MethodName) : Cond) ∈ lw_ok := lw_in (List.mem_append_right _ (List.mem_append_right _ (List.mem_append_left _ (List.mem_of_getElem? (i := 123) rfl)))) rfl
theorem k_364 : (Jvm.Cond.instanceMethod ({ cls := "CharacterSets$Table", name := "scriptOf", desc := "(I)I" } : Jvm.MethodName) : Cond) ∈ lw_ok := lw_in (List.mem_append_right _ (List.mem_append_right _ (List.mem_append_left _ (List.mem_of_getElem? (i := 124) rfl)))) rfl
theorem k_365 : (Jvm.Cond.selects "CharacterSets$Table" ({ cls := "CharacterSets$Table", name := "scriptOf", desc := "(I)I" } : Jvm.MethodName) ({ cls := "CharacterSets$Table", name := "scriptOf", desc := "(I)I" } : Jvm.MethodName) : Cond) ∈ lw_ok := lw_in (List.mem_append_right _ (List.mem_append_right _ (List.mem_append_left _ (List.mem_of_getElem? (i := 125) rfl)))) rfl
theorem k_366 : (Jvm.Cond.code ({ cls := "CharacterSets$Table", name := "scriptOf", desc := "(I)I" } : Jvm.MethodName) prog_4_method_8_code (2 : Nat) (Option.some Jvm.ClassFile.FieldType.int) : Cond) ∈ lw_ok := lw_in (List.mem_append_right _ (List.mem_append_right _ (List.mem_append_left _ (List.mem_of_getElem? (i := 126) rfl)))) rfl
theorem k_367 : (Jvm.Cond.methodLink "CharacterSets" (117 : Nat) ({ cls := "CharacterSets", name := "upperOf", desc := "(I)I" } : Jvm.MethodName) : Cond) ∈ lw_ok := lw_in (List.mem_append_right _ (List.mem_append_right _ (List.mem_append_left _ (List.mem_of_getElem? (i := 127) rfl)))) rfl
theorem k_368 : (Jvm.Cond.privateMethod ({ cls := "CharacterSets", name := "upperOf", desc := "(I)I" } : Jvm.MethodName) : Cond) ∈ lw_tbl := List.mem_append_right _ (List.mem_append_right _ (List.mem_append_left _ (List.mem_of_getElem? (i := 128) rfl)))
theorem k_369 : (Jvm.Cond.instanceMethod ({ cls := "CharacterSets", name := "upperOf", desc := "(I)I" } : Jvm.MethodName) : Cond) ∈ lw_ok := lw_in (List.mem_append_right _ (List.mem_append_right _ (List.mem_append_left _ (List.mem_of_getElem? (i := 129) rfl)))) rfl
theorem k_370 : (Jvm.Cond.code ({ cls := "CharacterSets", name := "upperOf", desc := "(I)I" } : Jvm.MethodName) prog_1_method_19_code (6 : Nat) (Option.some Jvm.ClassFile.FieldType.int) : Cond) ∈ lw_ok := lw_in (List.mem_append_right _ (List.mem_append_right _ (List.mem_append_left _ (List.mem_of_getElem? (i := 130) rfl)))) rfl
theorem k_371 : (Jvm.Cond.methodLink "CharacterSets" (120 : Nat) ({ cls := "CharacterSets", name := "lowerOf", desc := "(I)I" } : Jvm.MethodName) : Cond) ∈ lw_ok := lw_in (List.mem_append_right _ (List.mem_append_right _ (List.mem_append_left _ (List.mem_of_getElem? (i := 131) rfl)))) rfl
theorem k_372 : (Jvm.Cond.privateMethod ({ cls := "CharacterSets", name := "lowerOf", desc := "(I)I" } : Jvm.MethodName) : Cond) ∈ lw_tbl := List.mem_append_right _ (List.mem_append_right _ (List.mem_append_left _ (List.mem_of_getElem? (i := 132) rfl)))
theorem k_373 : (Jvm.Cond.instanceMethod ({ cls := "CharacterSets", name := "lowerOf", desc := "(I)I" } : Jvm.MethodName) : Cond) ∈ lw_ok := lw_in (List.mem_append_right _ (List.mem_append_right _ (List.mem_append_left _ (List.mem_of_getElem? (i := 133) rfl)))) rfl
theorem k_374 : (Jvm.Cond.code ({ cls := "CharacterSets", name := "lowerOf", desc := "(I)I" } : Jvm.MethodName) prog_1_method_20_code (5 : Nat) (Option.some Jvm.ClassFile.FieldType.int) : Cond) ∈ lw_ok := lw_in (List.mem_append_right _ (List.mem_append_right _ (List.mem_append_left _ (List.mem_of_getElem? (i := 134) rfl)))) rfl
theorem k_375 : (Jvm.Cond.methodLink "CharacterSetsLaw" (9 : Nat) ({ cls := "CharacterSetsLaw", name := "cell", desc := "([II)I" } : Jvm.MethodName) : Cond) ∈ lw_ok := lw_in (List.mem_append_right _ (List.mem_append_right _ (List.mem_append_left _ (List.mem_of_getElem? (i := 135) rfl)))) rfl
theorem k_376 : (Jvm.Cond.static ({ cls := "CharacterSetsLaw", name := "cell", desc := "([II)I" } : Jvm.MethodName) : Cond) ∈ lw_ok := lw_in (List.mem_append_right _ (List.mem_append_right _ (List.mem_append_left _ (List.mem_of_getElem? (i := 136) rfl)))) rfl
theorem k_377 : (Jvm.Cond.code ({ cls := "CharacterSetsLaw", name := "cell", desc := "([II)I" } : Jvm.MethodName) method_2_code (2 : Nat) (Option.some Jvm.ClassFile.FieldType.int) : Cond) ∈ lw_ok := lw_in (List.mem_append_right _ (List.mem_append_right _ (List.mem_append_left _ (List.mem_of_getElem? (i := 137) rfl)))) rfl
theorem k_378 : (Jvm.Cond.classLink "CharacterSetsLaw" (18 : Nat) "CharacterSetsModel" : Cond) ∈ lw_ok := lw_in (List.mem_append_right _ (List.mem_append_right _ (List.mem_append_left _ (List.mem_of_getElem? (i := 138) rfl)))) rfl
theorem k_379 : (Jvm.Cond.instantiable "CharacterSetsModel" (9 : Nat) : Cond) ∈ lw_ok := lw_in (List.mem_append_right _ (List.mem_append_right _ (List.mem_append_left _ (List.mem_of_getElem? (i := 139) rfl)))) rfl
theorem k_380 : (Jvm.Cond.methodLink "CharacterSetsLaw" (20 : Nat) ({ cls := "CharacterSetsModel", name := "<init>", desc := "(I)V" } : Jvm.MethodName) : Cond) ∈ lw_ok := lw_in (List.mem_append_right _ (List.mem_append_right _ (List.mem_append_left _ (List.mem_of_getElem? (i := 140) rfl)))) rfl
theorem k_381 : (Jvm.Cond.instanceMethod ({ cls := "CharacterSetsModel", name := "<init>", desc := "(I)V" } : Jvm.MethodName) : Cond) ∈ lw_ok := lw_in (List.mem_append_right _ (List.mem_append_right _ (List.mem_append_left _ (List.mem_of_getElem? (i := 141) rfl)))) rfl
theorem k_382 : (Jvm.Cond.code ({ cls := "CharacterSetsModel", name := "<init>", desc := "(I)V" } : Jvm.MethodName) prog_6_method_1_code (3 : Nat) (Option.none : Option Jvm.ClassFile.FieldType) : Cond) ∈ lw_ok := lw_in (List.mem_append_right _ (List.mem_append_right _ (List.mem_append_left _ (List.mem_of_getElem? (i := 142) rfl)))) rfl
theorem k_383 : (Jvm.Cond.methodLink "CharacterSetsModel" (1 : Nat) ({ cls := "java/lang/Object", name := "<init>", desc := "()V" } : Jvm.MethodName) : Cond) ∈ lw_ok := lw_in (List.mem_append_right _ (List.mem_append_right _ (List.mem_append_left _ (List.mem_of_getElem? (i := 143) rfl)))) rfl
theorem k_384 : (Jvm.Cond.constant "CharacterSetsModel" (7 : Nat) (139264 : Int32) : Cond) ∈ lw_ok := lw_in (List.mem_append_right _ (List.mem_append_right _ (List.mem_append_left _ (List.mem_of_getElem? (i := 144) rfl)))) rfl
theorem k_385 : (Jvm.Cond.constant "CharacterSetsModel" (26 : Nat) (40960 : Int32) : Cond) ∈ lw_ok := lw_in (List.mem_append_right _ (List.mem_append_right _ (List.mem_append_left _ (List.mem_of_getElem? (i := 145) rfl)))) rfl
theorem k_386 : (Jvm.Cond.constant "CharacterSetsModel" (27 : Nat) (44032 : Int32) : Cond) ∈ lw_ok := lw_in (List.mem_append_right _ (List.mem_append_right _ (List.mem_append_left _ (List.mem_of_getElem? (i := 146) rfl)))) rfl
theorem k_387 : (Jvm.Cond.constant "CharacterSetsModel" (28 : Nat) (55204 : Int32) : Cond) ∈ lw_ok := lw_in (List.mem_append_right _ (List.mem_append_right _ (List.mem_append_left _ (List.mem_of_getElem? (i := 147) rfl)))) rfl
theorem k_388 : (Jvm.Cond.constant "CharacterSetsModel" (29 : Nat) (57344 : Int32) : Cond) ∈ lw_ok := lw_in (List.mem_append_right _ (List.mem_append_right _ (List.mem_append_left _ (List.mem_of_getElem? (i := 148) rfl)))) rfl
theorem k_389 : (Jvm.Cond.constant "CharacterSetsModel" (30 : Nat) (63744 : Int32) : Cond) ∈ lw_ok := lw_in (List.mem_append_right _ (List.mem_append_right _ (List.mem_append_left _ (List.mem_of_getElem? (i := 149) rfl)))) rfl
theorem k_390 : (Jvm.Cond.constant "CharacterSetsModel" (31 : Nat) (65039 : Int32) : Cond) ∈ lw_ok := lw_in (List.mem_append_right _ (List.mem_append_right _ (List.mem_append_left _ (List.mem_of_getElem? (i := 150) rfl)))) rfl
theorem k_391 : (Jvm.Cond.constant "CharacterSetsModel" (32 : Nat) (65040 : Int32) : Cond) ∈ lw_ok := lw_in (List.mem_append_right _ (List.mem_append_right _ (List.mem_append_left _ (List.mem_of_getElem? (i := 151) rfl)))) rfl
theorem k_392 : (Jvm.Cond.constant "CharacterSetsModel" (33 : Nat) (65279 : Int32) : Cond) ∈ lw_ok := lw_in (List.mem_append_right _ (List.mem_append_right _ (List.mem_append_left _ (List.mem_of_getElem? (i := 152) rfl)))) rfl
theorem k_393 : (Jvm.Cond.constant "CharacterSetsModel" (34 : Nat) (65280 : Int32) : Cond) ∈ lw_ok := lw_in (List.mem_append_right _ (List.mem_append_right _ (List.mem_append_left _ (List.mem_of_getElem? (i := 153) rfl)))) rfl
theorem k_394 : (Jvm.Cond.constant "CharacterSetsModel" (35 : Nat) (127744 : Int32) : Cond) ∈ lw_ok := lw_in (List.mem_append_right _ (List.mem_append_right _ (List.mem_append_left _ (List.mem_of_getElem? (i := 154) rfl)))) rfl
theorem k_395 : (Jvm.Cond.constant "CharacterSetsModel" (36 : Nat) (128592 : Int32) : Cond) ∈ lw_ok := lw_in (List.mem_append_right _ (List.mem_append_right _ (List.mem_append_left _ (List.mem_of_getElem? (i := 155) rfl)))) rfl
theorem k_396 : (Jvm.Cond.constant "CharacterSetsModel" (37 : Nat) (1114112 : Int32) : Cond) ∈ lw_ok := lw_in (List.mem_append_right _ (List.mem_append_right _ (List.mem_append_left _ (List.mem_of_getElem? (i := 156) rfl)))) rfl
theorem k_397 : (Jvm.Cond.constant "CharacterSetsModel" (48 : Nat) (1114111 : Int32) : Cond) ∈ lw_ok := lw_in (List.mem_append_right _ (List.mem_append_right _ (List.mem_append_left _ (List.mem_of_getElem? (i := 157) rfl)))) rfl
theorem k_398 : (Jvm.Cond.methodLink "CharacterSetsModel" (55 : Nat) ({ cls := "CharacterSetsModel", name := "table0", desc := "()V" } : Jvm.MethodName) : Cond) ∈ lw_ok := lw_in (List.mem_append_right _ (List.mem_append_right _ (List.mem_append_left _ (List.mem_of_getElem? (i := 158) rfl)))) rfl
theorem k_399 : (Jvm.Cond.privateMethod ({ cls := "CharacterSetsModel", name := "table0", desc := "()V" } : Jvm.MethodName) : Cond) ∈ lw_tbl := List.mem_append_right _ (List.mem_append_right _ (List.mem_append_left _ (List.mem_of_getElem? (i := 159) rfl)))
theorem k_400 : (Jvm.Cond.instanceMethod ({ cls := "CharacterSetsModel", name := "table0", desc := "()V" } : Jvm.MethodName) : Cond) ∈ lw_ok := lw_in (List.mem_append_right _ (List.mem_append_right _ (List.mem_append_left _ (List.mem_of_getElem? (i := 160) rfl)))) rfl
theorem k_401 : (Jvm.Cond.code ({ cls := "CharacterSetsModel", name := "table0", desc := "()V" } : Jvm.MethodName) prog_6_method_3_code (1 : Nat) (Option.none : Option Jvm.ClassFile.FieldType) : Cond) ∈ lw_ok := lw_in (List.mem_append_right _ (List.mem_append_right _ (List.mem_append_left _ (List.mem_of_getElem? (i := 161) rfl)))) rfl
theorem k_402 : (Jvm.Cond.methodLink "CharacterSetsModel" (67 : Nat) ({ cls := "CharacterSetsModel", name := "kinds", desc := "(III)V" } : Jvm.MethodName) : Cond) ∈ lw_ok := lw_in (List.mem_append_right _ (List.mem_append_right _ (List.mem_append_left _ (List.mem_of_getElem? (i := 162) rfl)))) rfl
theorem k_403 : (Jvm.Cond.privateMethod ({ cls := "CharacterSetsModel", name := "kinds", desc := "(III)V" } : Jvm.MethodName) : Cond) ∈ lw_tbl := List.mem_append_right _ (List.mem_append_right _ (List.mem_append_left _ (List.mem_of_getElem? (i := 163) rfl)))
theorem k_404 : (Jvm.Cond.instanceMethod ({ cls := "CharacterSetsModel", name := "kinds", desc := "(III)V" } : Jvm.MethodName) : Cond) ∈ lw_ok := lw_in (List.mem_append_right _ (List.mem_append_right _ (List.mem_append_left _ (List.mem_of_getElem? (i := 164) rfl)))) rfl
theorem k_405 : (Jvm.Cond.code ({ cls := "CharacterSetsModel", name := "kinds", desc := "(III)V" } : Jvm.MethodName) prog_6_method_2_code (5 : Nat) (Option.none : Option Jvm.ClassFile.FieldType) : Cond) ∈ lw_ok := lw_in (List.mem_append_right _ (List.mem_append_right _ (List.mem_append_left _ (List.mem_of_getElem? (i := 165) rfl)))) rfl
theorem k_406 : (Jvm.Cond.methodLink "CharacterSetsModel" (58 : Nat) ({ cls := "CharacterSetsModel", name := "table1", desc := "()V" } : Jvm.MethodName) : Cond) ∈ lw_ok := lw_in (List.mem_append_right _ (List.mem_append_right _ (List.mem_append_left _ (List.mem_of_getElem? (i := 166) rfl)))) rfl
theorem k_407 : (Jvm.Cond.privateMethod ({ cls := "CharacterSetsModel", name := "table1", desc := "()V" } : Jvm.MethodName) : Cond) ∈ lw_tbl := List.mem_append_right _ (List.mem_append_right _ (List.mem_append_left _ (List.mem_of_getElem? (i := 167) rfl)))
theorem k_408 : (Jvm.Cond.instanceMethod ({ cls := "CharacterSetsModel", name := "table1", desc := "()V" } : Jvm.MethodName) : Cond) ∈ lw_ok := lw_in (List.mem_append_right _ (List.mem_append_right _ (List.mem_append_left _ (List.mem_of_getElem? (i := 168) rfl)))) rfl
theorem k_409 : (Jvm.Cond.code ({ cls := "CharacterSetsModel", name := "table1", desc := "()V" } : Jvm.MethodName) prog_6_method_4_code (1 : Nat) (Option.none : Option Jvm.ClassFile.FieldType) : Cond) ∈ lw_ok := lw_in (List.mem_append_right _ (List.mem_append_right _ (List.mem_append_left _ (List.mem_of_getElem? (i := 169) rfl)))) rfl
theorem k_410 : (Jvm.Cond.methodLink "CharacterSetsModel" (61 : Nat) ({ cls := "CharacterSetsModel", name := "table2", desc := "()V" } : Jvm.MethodName) : Cond) ∈ lw_ok := lw_in (List.mem_append_right _ (List.mem_append_right _ (List.mem_append_left _ (List.mem_of_getElem? (i := 170) rfl)))) rfl
theorem k_411 : (Jvm.Cond.privateMethod ({ cls := "CharacterSetsModel", name := "table2", desc := "()V" } : Jvm.MethodName) : Cond) ∈ lw_tbl := List.mem_append_right _ (List.mem_append_right _ (List.mem_append_left _ (List.mem_of_getElem? (i := 171) rfl)))
theorem k_412 : (Jvm.Cond.instanceMethod ({ cls := "CharacterSetsModel", name := "table2", desc := "()V" } : Jvm.MethodName) : Cond) ∈ lw_ok := lw_in (List.mem_append_right _ (List.mem_append_right _ (List.mem_append_left _ (List.mem_of_getElem? (i := 172) rfl)))) rfl
theorem k_413 : (Jvm.Cond.code ({ cls := "CharacterSetsModel", name := "table2", desc := "()V" } : Jvm.MethodName) prog_6_method_5_code (1 : Nat) (Option.none : Option Jvm.ClassFile.FieldType) : Cond) ∈ lw_ok := lw_in (List.mem_append_right _ (List.mem_append_right _ (List.mem_append_left _ (List.mem_of_getElem? (i := 173) rfl)))) rfl
theorem k_414 : (Jvm.Cond.methodLink "CharacterSetsModel" (64 : Nat) ({ cls := "CharacterSetsModel", name := "table3", desc := "()V" } : Jvm.MethodName) : Cond) ∈ lw_ok := lw_in (List.mem_append_right _ (List.mem_append_right _ (List.mem_append_left _ (List.mem_of_getElem? (i := 174) rfl)))) rfl
theorem k_415 : (Jvm.Cond.privateMethod ({ cls := "CharacterSetsModel", name := "table3", desc := "()V" } : Jvm.MethodName) : Cond) ∈ lw_tbl := List.mem_append_right _ (List.mem_append_right _ (List.mem_append_left _ (List.mem_of_getElem? (i := 175) rfl)))
theorem k_416 : (Jvm.Cond.instanceMethod ({ cls := "CharacterSetsModel", name := "table3", desc := "()V" } : Jvm.MethodName) : Cond) ∈ lw_ok := lw_in (List.mem_append_right _ (List.mem_append_right _ (List.mem_append_left _ (List.mem_of_getElem? (i := 176) rfl)))) rfl
theorem k_417 : (Jvm.Cond.code ({ cls := "CharacterSetsModel", name := "table3", desc := "()V" } : Jvm.MethodName) prog_6_method_6_code (1 : Nat) (Option.none : Option Jvm.ClassFile.FieldType) : Cond) ∈ lw_ok := lw_in (List.mem_append_right _ (List.mem_append_right _ (List.mem_append_left _ (List.mem_of_getElem? (i := 177) rfl)))) rfl
theorem k_418 : (Jvm.Cond.fieldLink "CharacterSetsModel" (41 : Nat) "CharacterSetsModel" "utf" "Z" : Cond) ∈ lw_ok := lw_in (List.mem_append_right _ (List.mem_append_right _ (List.mem_append_left _ (List.mem_of_getElem? (i := 178) rfl)))) rfl
theorem k_419 : (Jvm.Cond.fieldLink "CharacterSetsModel" (45 : Nat) "CharacterSetsModel" "ucp" "Z" : Cond) ∈ lw_ok := lw_in (List.mem_append_right _ (List.mem_append_right _ (List.mem_append_left _ (List.mem_of_getElem? (i := 179) rfl)))) rfl
theorem k_420 : (Jvm.Cond.fieldLink "CharacterSetsModel" (49 : Nat) "CharacterSetsModel" "last" "I" : Cond) ∈ lw_ok := lw_in (List.mem_append_right _ (List.mem_append_right _ (List.mem_append_left _ (List.mem_of_getElem? (i := 180) rfl)))) rfl
theorem k_421 : (Jvm.Cond.fieldLink "CharacterSetsModel" (52 : Nat) "CharacterSetsModel" "words" "I" : Cond) ∈ lw_ok := lw_in (List.mem_append_right _ (List.mem_append_right _ (List.mem_append_left _ (List.mem_of_getElem? (i := 181) rfl)))) rfl
theorem k_422 : (Jvm.Cond.fieldLink "CharacterSetsModel" (8 : Nat) "CharacterSetsModel" "bits" "[J" : Cond) ∈ lw_ok := lw_in (List.mem_append_right _ (List.mem_append_right _ (List.mem_append_left _ (List.mem_of_getElem? (i := 182) rfl)))) rfl
theorem k_423 : (Jvm.Cond.fieldLink "CharacterSetsModel" (14 : Nat) "CharacterSetsModel" "kind" "[B" : Cond) ∈ lw_ok := lw_in (List.mem_append_right _ (List.mem_append_right _ (List.mem_append_left _ (List.mem_of_getElem? (i := 183) rfl)))) rfl
theorem k_424 : (Jvm.Cond.fieldLink "CharacterSetsModel" (18 : Nat) "CharacterSetsModel" "mate" "[I" : Cond) ∈ lw_ok := lw_in (List.mem_append_right _ (List.mem_append_right _ (List.mem_append_left _ (List.mem_of_getElem? (i := 184) rfl)))) rfl
theorem k_425 : (Jvm.Cond.fieldLink "CharacterSetsModel" (22 : Nat) "CharacterSetsModel" "mates" "I" : Cond) ∈ lw_ok := lw_in (List.mem_append_right _ (List.mem_append_right _ (List.mem_append_left _ (List.mem_of_getElem? (i := 185) rfl)))) rfl
theorem k_426 : (Jvm.Cond.fieldLink "CharacterSetsModel" (38 : Nat) "CharacterSetsModel" "parts" "[I" : Cond) ∈ lw_ok := lw_in (List.mem_append_right _ (List.mem_append_right _ (List.mem_append_left _ (List.mem_of_getElem? (i := 186) rfl)))) rfl
theorem k_427 : (Jvm.Cond.laysFinal "CharacterSetsModel" "CharacterSetsModel" "utf" "Z" : Cond) ∈ lw_ok := lw_in (List.mem_append_right _ (List.mem_append_right _ (List.mem_append_left _ (List.mem_of_getElem? (i := 187) rfl)))) rfl
theorem k_428 : (Jvm.Cond.soleField "CharacterSetsModel" "utf" : Cond) ∈ lw_ok := lw_in (List.mem_append_right _ (List.mem_append_right _ (List.mem_append_left _ (List.mem_of_getElem? (i := 188) rfl)))) rfl
theorem k_429 : (Jvm.Cond.laysFinal "CharacterSetsModel" "CharacterSetsModel" "ucp" "Z" : Cond) ∈ lw_ok := lw_in (List.mem_append_right _ (List.mem_append_right _ (List.mem_append_left _ (List.mem_of_getElem? (i := 189) rfl)))) rfl
theorem k_430 : (Jvm.Cond.soleField "CharacterSetsModel" "ucp" : Cond) ∈ lw_ok := lw_in (List.mem_append_right _ (List.mem_append_right _ (List.mem_append_left _ (List.mem_of_getElem? (i := 190) rfl)))) rfl
theorem k_431 : (Jvm.Cond.laysFinal "CharacterSetsModel" "CharacterSetsModel" "last" "I" : Cond) ∈ lw_ok := lw_in (List.mem_append_right _ (List.mem_append_right _ (List.mem_append_left _ (List.mem_of_getElem? (i := 191) rfl)))) rfl
theorem k_432 : (Jvm.Cond.soleField "CharacterSetsModel" "last" : Cond) ∈ lw_ok := lw_in (List.mem_append_right _ (List.mem_append_right _ (List.mem_append_left _ (List.mem_of_getElem? (i := 192) rfl)))) rfl
theorem k_433 : (Jvm.Cond.laysFinal "CharacterSetsModel" "CharacterSetsModel" "words" "I" : Cond) ∈ lw_ok := lw_in (List.mem_append_right _ (List.mem_append_right _ (List.mem_append_left _ (List.mem_of_getElem? (i := 193) rfl)))) rfl
theorem k_434 : (Jvm.Cond.soleField "CharacterSetsModel" "words" : Cond) ∈ lw_ok := lw_in (List.mem_append_right _ (List.mem_append_right _ (List.mem_append_left _ (List.mem_of_getElem? (i := 194) rfl)))) rfl
theorem k_435 : (Jvm.Cond.laysFinal "CharacterSetsModel" "CharacterSetsModel" "bits" "[J" : Cond) ∈ lw_ok := lw_in (List.mem_append_right _ (List.mem_append_right _ (List.mem_append_left _ (List.mem_of_getElem? (i := 195) rfl)))) rfl
theorem k_436 : (Jvm.Cond.soleField "CharacterSetsModel" "bits" : Cond) ∈ lw_ok := lw_in (List.mem_append_right _ (List.mem_append_right _ (List.mem_append_left _ (List.mem_of_getElem? (i := 196) rfl)))) rfl
theorem k_437 : (Jvm.Cond.laysFinal "CharacterSetsModel" "CharacterSetsModel" "kind" "[B" : Cond) ∈ lw_ok := lw_in (List.mem_append_right _ (List.mem_append_right _ (List.mem_append_left _ (List.mem_of_getElem? (i := 197) rfl)))) rfl
theorem k_438 : (Jvm.Cond.soleField "CharacterSetsModel" "kind" : Cond) ∈ lw_ok := lw_in (List.mem_append_right _ (List.mem_append_right _ (List.mem_append_left _ (List.mem_of_getElem? (i := 198) rfl)))) rfl
theorem k_439 : (Jvm.Cond.laysFinal "CharacterSetsModel" "CharacterSetsModel" "mate" "[I" : Cond) ∈ lw_ok := lw_in (List.mem_append_right _ (List.mem_append_right _ (List.mem_append_left _ (List.mem_of_getElem? (i := 199) rfl)))) rfl
theorem k_440 : (Jvm.Cond.soleField "CharacterSetsModel" "mate" : Cond) ∈ lw_ok := lw_in (List.mem_append_right _ (List.mem_append_right _ (List.mem_append_left _ (List.mem_of_getElem? (i := 200) rfl)))) rfl
theorem k_441 : (Jvm.Cond.lays "CharacterSetsModel" "CharacterSetsModel" "mates" "I" : Cond) ∈ lw_ok := lw_in (List.mem_append_right _ (List.mem_append_right _ (List.mem_append_left _ (List.mem_of_getElem? (i := 201) rfl)))) rfl
theorem k_442 : (Jvm.Cond.soleField "CharacterSetsModel" "mates" : Cond) ∈ lw_ok := lw_in (List.mem_append_right _ (List.mem_append_right _ (List.mem_append_left _ (List.mem_of_getElem? (i := 202) rfl)))) rfl
theorem k_443 : (Jvm.Cond.laysFinal "CharacterSetsModel" "CharacterSetsModel" "parts" "[I" : Cond) ∈ lw_ok := lw_in (List.mem_append_right _ (List.mem_append_right _ (List.mem_append_left _ (List.mem_of_getElem? (i := 203) rfl)))) rfl
theorem k_444 : (Jvm.Cond.soleField "CharacterSetsModel" "parts" : Cond) ∈ lw_ok := lw_in (List.mem_append_right _ (List.mem_append_right _ (List.mem_append_left _ (List.mem_of_getElem? (i := 204) rfl)))) rfl
theorem k_445 : (Jvm.Cond.superclass "CharacterSetsModel" "java/lang/Object" : Cond) ∈ lw_ok := lw_in (List.mem_append_right _ (List.mem_append_right _ (List.mem_append_left _ (List.mem_of_getElem? (i := 205) rfl)))) rfl
theorem k_446 : (Jvm.Cond.arrayClass Jvm.ClassFile.FieldType.long : Cond) ∈ lw_ok := lw_in (List.mem_append_right _ (List.mem_append_right _ (List.mem_append_left _ (List.mem_of_getElem? (i := 206) rfl)))) rfl
theorem k_447 : (Jvm.Cond.arrayClass Jvm.ClassFile.FieldType.byte : Cond) ∈ lw_ok := lw_in (List.mem_append_right _ (List.mem_append_right _ (List.mem_append_left _ (List.mem_of_getElem? (i := 207) rfl)))) rfl
theorem k_448 : (Jvm.Cond.methodLink "CharacterSetsLaw" (25 : Nat) ({ cls := "CharacterSetsModel", name := "clear", desc := "(I)I" } : Jvm.MethodName) : Cond) ∈ lw_ok := lw_in (List.mem_append_right _ (List.mem_append_right _ (List.mem_append_left _ (List.mem_of_getElem? (i := 208) rfl)))) rfl
theorem k_449 : (Jvm.Cond.instanceMethod ({ cls := "CharacterSetsModel", name := "clear", desc := "(I)I" } : Jvm.MethodName) : Cond) ∈ lw_ok := lw_in (List.mem_append_right _ (List.mem_append_right _ (List.mem_append_left _ (List.mem_of_getElem? (i := 209) rfl)))) rfl
theorem k_450 : (Jvm.Cond.selects "CharacterSetsModel" ({ cls := "CharacterSetsModel", name := "clear", desc := "(I)I" } : Jvm.MethodName) ({ cls := "CharacterSetsModel", name := "clear", desc := "(I)I" } : Jvm.MethodName) : Cond) ∈ lw_ok := lw_in (List.mem_append_right _ (List.mem_append_right _ (List.mem_append_left _ (List.mem_of_getElem? (i := 210) rfl)))) rfl
theorem k_451 : (Jvm.Cond.code ({ cls := "CharacterSetsModel", name := "clear", desc := "(I)I" } : Jvm.MethodName) prog_6_method_24_code (3 : Nat) (Option.some Jvm.ClassFile.FieldType.int) : Cond) ∈ lw_ok := lw_in (List.mem_append_right _ (List.mem_append_right _ (List.mem_append_left _ (List.mem_of_getElem? (i := 211) rfl)))) rfl
theorem k_452 : (Jvm.Cond.methodLink "CharacterSetsModel" (117 : Nat) ({ cls := "CharacterSetsModel", name := "none", desc := "(I)Z" } : Jvm.MethodName) : Cond) ∈ lw_ok := lw_in (List.mem_append_right _ (List.mem_append_right _ (List.mem_append_left _ (List.mem_of_getElem? (i := 212) rfl)))) rfl
theorem k_453 : (Jvm.Cond.privateMethod ({ cls := "CharacterSetsModel", name := "none", desc := "(I)Z" } : Jvm.MethodName) : Cond) ∈ lw_tbl := List.mem_append_right _ (List.mem_append_right _ (List.mem_append_left _ (List.mem_of_getElem? (i := 213) rfl)))
theorem k_454 : (Jvm.Cond.instanceMethod ({ cls := "CharacterSetsModel", name := "none", desc := "(I)Z" } : Jvm.MethodName) : Cond) ∈ lw_ok := lw_in (List.mem_append_right _ (List.mem_append_right _ (List.mem_append_left _ (List.mem_of_getElem? (i := 214) rfl)))) rfl
theorem k_455 : (Jvm.Cond.code ({ cls := "CharacterSetsModel", name := "none", desc := "(I)Z" } : Jvm.MethodName) prog_6_method_18_code (2 : Nat) (Option.some Jvm.ClassFile.FieldType.boolean) : Cond) ∈ lw_ok := lw_in (List.mem_append_right _ (List.mem_append_right _ (List.mem_append_left _ (List.mem_of_getElem? (i := 215) rfl)))) rfl
theorem k_456 : (Jvm.Cond.methodLink "CharacterSetsLaw" (30 : Nat) ({ cls := "CharacterSetsModel", name := "range", desc := "(III)I" } : Jvm.MethodName) : Cond) ∈ lw_ok := lw_in (List.mem_append_right _ (List.mem_append_right _ (List.mem_append_left _ (List.mem_of_getElem? (i := 216) rfl)))) rfl
theorem k_457 : (Jvm.Cond.instanceMethod ({ cls := "CharacterSetsModel", name := "range", desc := "(III)I" } : Jvm.MethodName) : Cond) ∈ lw_ok := lw_in (List.mem_append_right _ (List.mem_append_right _ (List.mem_append_left _ (List.mem_of_getElem? (i := 217) rfl)))) rfl
theorem k_458 : (Jvm.Cond.selects "CharacterSetsModel" ({ cls := "CharacterSetsModel", name := "range", desc := "(III)I" } : Jvm.MethodName) ({ cls := "CharacterSetsModel", name := "range", desc := "(III)I" } : Jvm.MethodName) : Cond) ∈ lw_ok := lw_in (List.mem_append_right _ (List.mem_append_right _ (List.mem_append_left _ (List.mem_of_getElem? (i := 218) rfl)))) rfl
theorem k_459 : (Jvm.Cond.code ({ cls := "CharacterSetsModel", name := "range", desc := "(III)I" } : Jvm.MethodName) prog_6_method_25_code (4 : Nat) (Option.some Jvm.ClassFile.FieldType.int) : Cond) ∈ lw_ok := lw_in (List.mem_append_right _ (List.mem_append_right _ (List.mem_append_left _ (List.mem_of_getElem? (i := 219) rfl)))) rfl
theorem k_460 : (Jvm.Cond.methodLink "CharacterSetsModel" (121 : Nat) ({ cls := "CharacterSetsModel", name := "fill", desc := "(III)V" } : Jvm.MethodName) : Cond) ∈ lw_ok := lw_in (List.mem_append_right _ (List.mem_append_right _ (List.mem_append_left _ (List.mem_of_getElem? (i := 220) rfl)))) rfl
theorem k_461 : (Jvm.Cond.privateMethod ({ cls := "CharacterSetsModel", name := "fill", desc := "(III)V" } : Jvm.MethodName) : Cond) ∈ lw_tbl := List.mem_append_right _ (List.mem_append_right _ (List.mem_append_left _ (List.mem_of_getElem? (i := 221) rfl)))
theorem k_462 : (Jvm.Cond.instanceMethod ({ cls := "CharacterSetsModel", name := "fill", desc := "(III)V" } : Jvm.MethodName) : Cond) ∈ lw_ok := lw_in (List.mem_append_right _ (List.mem_append_right _ (List.mem_append_left _ (List.mem_of_getElem? (i := 222) rfl)))) rfl
theorem k_463 : (Jvm.Cond.code ({ cls := "CharacterSetsModel", name := "fill", desc := "(III)V" } : Jvm.MethodName) prog_6_method_21_code (5 : Nat) (Option.none : Option Jvm.ClassFile.FieldType) : Cond) ∈ lw_ok := lw_in (List.mem_append_right _ (List.mem_append_right _ (List.mem_append_left _ (List.mem_of_getElem? (i := 223) rfl)))) rfl
theorem k_464 : (Jvm.Cond.constantLong "CharacterSetsModel" (99 : Nat) (-1 : Int64) : Cond) ∈ lw_ok := lw_in (List.mem_append_right _ (List.mem_append_right _ (List.mem_append_left _ (List.mem_of_getElem? (i := 224) rfl)))) rfl
theorem k_465 : (Jvm.Cond.methodLink "CharacterSetsModel" (101 : Nat) ({ cls := "CharacterSetsModel", name := "put", desc := "(II)V" } : Jvm.MethodName) : Cond) ∈ lw_ok := lw_in (List.mem_append_right _ (List.mem_append_right _ (List.mem_append_left _ (List.mem_of_getElem? (i := 225) rfl)))) rfl
theorem k_466 : (Jvm.Cond.privateMethod ({ cls := "CharacterSetsModel", name := "put", desc := "(II)V" } : Jvm.MethodName) : Cond) ∈ lw_tbl := List.mem_append_right _ (List.mem_append_right _ (List.mem_append_left _ (List.mem_of_getElem? (i := 226) rfl)))
theorem k_467 : (Jvm.Cond.instanceMethod ({ cls := "CharacterSetsModel", name := "put", desc := "(II)V" } : Jvm.MethodName) : Cond) ∈ lw_ok := lw_in (List.mem_append_right _ (List.mem_append_right _ (List.mem_append_left _ (List.mem_of_getElem? (i := 227) rfl)))) rfl
theorem k_468 : (Jvm.Cond.code ({ cls := "CharacterSetsModel", name := "put", desc := "(II)V" } : Jvm.MethodName) prog_6_method_20_code (3 : Nat) (Option.none : Option Jvm.ClassFile.FieldType) : Cond) ∈ lw_ok := lw_in (List.mem_append_right _ (List.mem_append_right _ (List.mem_append_left _ (List.mem_of_getElem? (i := 228) rfl)))) rfl
theorem k_469 : (Jvm.Cond.methodLink "CharacterSetsModel" (124 : Nat) ({ cls := "CharacterSetsModel", name := "ranges", desc := "(I)I" } : Jvm.MethodName) : Cond) ∈ lw_ok := lw_in (List.mem_append_right _ (List.mem_append_right _ (List.mem_append_left _ (List.mem_of_getElem? (i := 229) rfl)))) rfl
theorem k_470 : (Jvm.Cond.privateMethod ({ cls := "CharacterSetsModel", name := "ranges", desc := "(I)I" } : Jvm.MethodName) : Cond) ∈ lw_tbl := List.mem_append_right _ (List.mem_append_right _ (List.mem_append_left _ (List.mem_of_getElem? (i := 230) rfl)))
theorem k_471 : (Jvm.Cond.instanceMethod ({ cls := "CharacterSetsModel", name := "ranges", desc := "(I)I" } : Jvm.MethodName) : Cond) ∈ lw_ok := lw_in (List.mem_append_right _ (List.mem_append_right _ (List.mem_append_left _ (List.mem_of_getElem? (i := 231) rfl)))) rfl
theorem k_472 : (Jvm.Cond.code ({ cls := "CharacterSetsModel", name := "ranges", desc := "(I)I" } : Jvm.MethodName) prog_6_method_23_code (8 : Nat) (Option.some Jvm.ClassFile.FieldType.int) : Cond) ∈ lw_ok := lw_in (List.mem_append_right _ (List.mem_append_right _ (List.mem_append_left _ (List.mem_of_getElem? (i := 232) rfl)))) rfl
theorem k_473 : (Jvm.Cond.methodLink "CharacterSetsModel" (113 : Nat) ({ cls := "CharacterSetsModel", name := "ones", desc := "(J)I" } : Jvm.MethodName) : Cond) ∈ lw_ok := lw_in (List.mem_append_right _ (List.mem_append_right _ (List.mem_append_left _ (List.mem_of_getElem? (i := 233) rfl)))) rfl
theorem k_474 : (Jvm.Cond.privateMethod ({ cls := "CharacterSetsModel", name := "ones", desc := "(J)I" } : Jvm.MethodName) : Cond) ∈ lw_tbl := List.mem_append_right _ (List.mem_append_right _ (List.mem_append_left _ (List.mem_of_getElem? (i := 234) rfl)))
theorem k_475 : (Jvm.Cond.instanceMethod ({ cls := "CharacterSetsModel", name := "ones", desc := "(J)I" } : Jvm.MethodName) : Cond) ∈ lw_ok := lw_in (List.mem_append_right _ (List.mem_append_right _ (List.mem_append_left _ (List.mem_of_getElem? (i := 235) rfl)))) rfl
theorem k_476 : (Jvm.Cond.code ({ cls := "CharacterSetsModel", name := "ones", desc := "(J)I" } : Jvm.MethodName) prog_6_method_22_code (5 : Nat) (Option.some Jvm.ClassFile.FieldType.int) : Cond) ∈ lw_ok := lw_in (List.mem_append_right _ (List.mem_append_right _ (List.mem_append_left _ (List.mem_of_getElem? (i := 236) rfl)))) rfl
theorem k_477 : (Jvm.Cond.constantLong "CharacterSetsModel" (105 : Nat) (6148914691236517205 : Int64) : Cond) ∈ lw_ok := lw_in (List.mem_append_right _ (List.mem_append_right _ (List.mem_append_left _ (List.mem_of_getElem? (i := 237) rfl)))) rfl
theorem k_478 : (Jvm.Cond.constantLong "CharacterSetsModel" (107 : Nat) (3689348814741910323 : Int64) : Cond) ∈ lw_ok := lw_in (List.mem_append_right _ (List.mem_append_right _ (List.mem_append_left _ (List.mem_of_getElem? (i := 238) rfl)))) rfl
theorem k_479 : (Jvm.Cond.constantLong "CharacterSetsModel" (109 : Nat) (1085102592571150095 : Int64) : Cond) ∈ lw_ok := lw_in (List.mem_append_right _ (List.mem_append_right _ (List.mem_append_left _ (List.mem_of_getElem? (i := 239) rfl)))) rfl
theorem k_480 : (Jvm.Cond.constantLong "CharacterSetsModel" (111 : Nat) (72340172838076673 : Int64) : Cond) ∈ lw_ok := lw_in (List.mem_append_right _ (List.mem_append_right _ (List.mem_append_right _ (List.mem_of_getElem? (i := 0) rfl)))) rfl
theorem k_481 : (Jvm.Cond.methodLink "CharacterSetsLaw" (35 : Nat) ({ cls := "CharacterSetsModel", name := "property", desc := "(IIZZ)I" } : Jvm.MethodName) : Cond) ∈ lw_ok := lw_in (List.mem_append_right _ (List.mem_append_right _ (List.mem_append_right _ (List.mem_of_getElem? (i := 1) rfl)))) rfl
theorem k_482 : (Jvm.Cond.instanceMethod ({ cls := "CharacterSetsModel", name := "property", desc := "(IIZZ)I" } : Jvm.MethodName) : Cond) ∈ lw_ok := lw_in (List.mem_append_right _ (List.mem_append_right _ (List.mem_append_right _ (List.mem_of_getElem? (i := 2) rfl)))) rfl
theorem k_483 : (Jvm.Cond.selects "CharacterSetsModel" ({ cls := "CharacterSetsModel", name := "property", desc := "(IIZZ)I" } : Jvm.MethodName) ({ cls := "CharacterSetsModel", name := "property", desc := "(IIZZ)I" } : Jvm.MethodName) : Cond) ∈ lw_ok := lw_in (List.mem_append_right _ (List.mem_append_right _ (List.mem_append_right _ (List.mem_of_getElem? (i := 3) rfl)))) rfl
theorem k_484 : (Jvm.Cond.code ({ cls := "CharacterSetsModel", name := "property", desc := "(IIZZ)I" } : Jvm.MethodName) prog_6_method_28_code (8 : Nat) (Option.some Jvm.ClassFile.FieldType.int) : Cond) ∈ lw_ok := lw_in (List.mem_append_right _ (List.mem_append_right _ (List.mem_append_right _ (List.mem_of_getElem? (i := 4) rfl)))) rfl
theorem k_485 : (Jvm.Cond.methodLink "CharacterSetsModel" (134 : Nat) ({ cls := "CharacterSetsModel", name := "holds", desc := "(II)Z" } : Jvm.MethodName) : Cond) ∈ lw_ok := lw_in (List.mem_append_right _ (List.mem_append_right _ (List.mem_append_right _ (List.mem_of_getElem? (i := 5) rfl)))) rfl
theorem k_486 : (Jvm.Cond.privateMethod ({ cls := "CharacterSetsModel", name := "holds", desc := "(II)Z" } : Jvm.MethodName) : Cond) ∈ lw_tbl := List.mem_append_right _ (List.mem_append_right _ (List.mem_append_right _ (List.mem_of_getElem? (i := 6) rfl)))
theorem k_487 : (Jvm.Cond.instanceMethod ({ cls := "CharacterSetsModel", name := "holds", desc := "(II)Z" } : Jvm.MethodName) : Cond) ∈ lw_ok := lw_in (List.mem_append_right _ (List.mem_append_right _ (List.mem_append_right _ (List.mem_of_getElem? (i := 7) rfl)))) rfl
theorem k_488 : (Jvm.Cond.code ({ cls := "CharacterSetsModel", name := "holds", desc := "(II)Z" } : Jvm.MethodName) prog_6_method_26_code (4 : Nat) (Option.some Jvm.ClassFile.FieldType.boolean) : Cond) ∈ lw_ok := lw_in (List.mem_append_right _ (List.mem_append_right _ (List.mem_append_right _ (List.mem_of_getElem? (i := 8) rfl)))) rfl
theorem k_489 : (Jvm.Cond.methodLink "CharacterSetsModel" (75 : Nat) ({ cls := "CharacterSetsModel", name := "category", desc := "(I)I" } : Jvm.MethodName) : Cond) ∈ lw_ok := lw_in (List.mem_append_right _ (List.mem_append_right _ (List.mem_append_right _ (List.mem_of_getElem? (i := 9) rfl)))) rfl
theorem k_490 : (Jvm.Cond.privateMethod ({ cls := "CharacterSetsModel", name := "category", desc := "(I)I" } : Jvm.MethodName) : Cond) ∈ lw_tbl := List.mem_append_right _ (List.mem_append_right _ (List.mem_append_right _ (List.mem_of_getElem? (i := 10) rfl)))
theorem k_491 : (Jvm.Cond.instanceMethod ({ cls := "CharacterSetsModel", name := "category", desc := "(I)I" } : Jvm.MethodName) : Cond) ∈ lw_ok := lw_in (List.mem_append_right _ (List.mem_append_right _ (List.mem_append_right _ (List.mem_of_getElem? (i := 11) rfl)))) rfl
theorem k_492 : (Jvm.Cond.code ({ cls := "CharacterSetsModel", name := "category", desc := "(I)I" } : Jvm.MethodName) prog_6_method_7_code (2 : Nat) (Option.some Jvm.ClassFile.FieldType.int) : Cond) ∈ lw_ok := lw_in (List.mem_append_right _ (List.mem_append_right _ (List.mem_append_right _ (List.mem_of_getElem? (i := 12) rfl)))) rfl
theorem k_493 : (Jvm.Cond.constant "CharacterSetsModel" (71 : Nat) (40959 : Int32) : Cond) ∈ lw_ok := lw_in (List.mem_append_right _ (List.mem_append_right _ (List.mem_append_right _ (List.mem_of_getElem? (i := 13) rfl)))) rfl
theorem k_494 : (Jvm.Cond.constant "CharacterSetsModel" (72 : Nat) (55203 : Int32) : Cond) ∈ lw_ok := lw_in (List.mem_append_right _ (List.mem_append_right _ (List.mem_append_right _ (List.mem_of_getElem? (i := 14) rfl)))) rfl
theorem k_495 : (Jvm.Cond.constant "CharacterSetsModel" (73 : Nat) (63743 : Int32) : Cond) ∈ lw_ok := lw_in (List.mem_append_right _ (List.mem_append_right _ (List.mem_append_right _ (List.mem_of_getElem? (i := 15) rfl)))) rfl
theorem k_496 : (Jvm.Cond.constant "CharacterSetsModel" (74 : Nat) (128591 : Int32) : Cond) ∈ lw_ok := lw_in (List.mem_append_right _ (List.mem_append_right _ (List.mem_append_right _ (List.mem_of_getElem? (i := 16) rfl)))) rfl
theorem k_497 : (Jvm.Cond.methodLink "CharacterSetsModel" (127 : Nat) ({ cls := "CharacterSetsModel", name := "general", desc := "(II)Z" } : Jvm.MethodName) : Cond) ∈ lw_ok := lw_in (List.mem_append_right _ (List.mem_append_right _ (List.mem_append_right _ (List.mem_of_getElem? (i := 17) rfl)))) rfl
theorem k_498 : (Jvm.Cond.privateMethod ({ cls := "CharacterSetsModel", name := "general", desc := "(II)Z" } : Jvm.MethodName) : Cond) ∈ lw_tbl := List.mem_append_right _ (List.mem_append_right _ (List.mem_append_right _ (List.mem_of_getElem? (i := 18) rfl)))
theorem k_499 : (Jvm.Cond.instanceMethod ({ cls := "CharacterSetsModel", name := "general", desc := "(II)Z" } : Jvm.MethodName) : Cond) ∈ lw_ok := lw_in (List.mem_append_right _ (List.mem_append_right _ (List.mem_append_right _ (List.mem_of_getElem? (i := 19) rfl)))) rfl
theorem k_500 : (Jvm.Cond.code ({ cls := "CharacterSetsModel", name := "general", desc := "(II)Z" } : Jvm.MethodName) prog_6_method_27_code (3 : Nat) (Option.some Jvm.ClassFile.FieldType.boolean) : Cond) ∈ lw_ok := lw_in (List.mem_append_right _ (List.mem_append_right _ (List.mem_append_right _ (List.mem_of_getElem? (i := 20) rfl)))) rfl
theorem k_501 : (Jvm.Cond.methodLink "CharacterSetsModel" (131 : Nat) ({ cls := "CharacterSetsModel", name := "script", desc := "(I)I" } : Jvm.MethodName) : Cond) ∈ lw_ok := lw_in (List.mem_append_right _ (List.mem_append_right _ (List.mem_append_right _ (List.mem_of_getElem? (i := 21) rfl)))) rfl
theorem k_502 : (Jvm.Cond.privateMethod ({ cls := "CharacterSetsModel", name := "script", desc := "(I)I" } : Jvm.MethodName) : Cond) ∈ lw_tbl := List.mem_append_right _ (List.mem_append_right _ (List.mem_append_right _ (List.mem_of_getElem? (i := 22) rfl)))
theorem k_503 : (Jvm.Cond.instanceMethod ({ cls := "CharacterSetsModel", name := "script", desc := "(I)I" } : Jvm.MethodName) : Cond) ∈ lw_ok := lw_in (List.mem_append_right _ (List.mem_append_right _ (List.mem_append_right _ (List.mem_of_getElem? (i := 23) rfl)))) rfl
theorem k_504 : (Jvm.Cond.code ({ cls := "CharacterSetsModel", name := "script", desc := "(I)I" } : Jvm.MethodName) prog_6_method_8_code (3 : Nat) (Option.some Jvm.ClassFile.FieldType.int) : Cond) ∈ lw_ok := lw_in (List.mem_append_right _ (List.mem_append_right _ (List.mem_append_right _ (List.mem_of_getElem? (i := 24) rfl)))) rfl
theorem k_505 : (Jvm.Cond.methodLink "CharacterSetsLaw" (39 : Nat) ({ cls := "CharacterSetsModel", name := "named", desc := "(IIZZ)I" } : Jvm.MethodName) : Cond) ∈ lw_ok := lw_in (List.mem_append_right _ (List.mem_append_right _ (List.mem_append_right _ (List.mem_of_getElem? (i := 25) rfl)))) rfl
theorem k_506 : (Jvm.Cond.instanceMethod ({ cls := "CharacterSetsModel", name := "named", desc := "(IIZZ)I" } : Jvm.MethodName) : Cond) ∈ lw_ok := lw_in (List.mem_append_right _ (List.mem_append_right _ (List.mem_append_right _ (List.mem_of_getElem? (i := 26) rfl)))) rfl
theorem k_507 : (Jvm.Cond.selects "CharacterSetsModel" ({ cls := "CharacterSetsModel", name := "named", desc := "(IIZZ)I" } : Jvm.MethodName) ({ cls := "CharacterSetsModel", name := "named", desc := "(IIZZ)I" } : Jvm.MethodName) : Cond) ∈ lw_ok := lw_in (List.mem_append_right _ (List.mem_append_right _ (List.mem_append_right _ (List.mem_of_getElem? (i := 27) rfl)))) rfl
theorem k_508 : (Jvm.Cond.code ({ cls := "CharacterSetsModel", name := "named", desc := "(IIZZ)I" } : Jvm.MethodName) prog_6_method_35_code (8 : Nat) (Option.some Jvm.ClassFile.FieldType.int) : Cond) ∈ lw_ok := lw_in (List.mem_append_right _ (List.mem_append_right _ (List.mem_append_right _ (List.mem_of_getElem? (i := 28) rfl)))) rfl
theorem k_509 : (Jvm.Cond.methodLink "CharacterSetsModel" (152 : Nat) ({ cls := "CharacterSetsModel", name := "names", desc := "(II)Z" } : Jvm.MethodName) : Cond) ∈ lw_ok := lw_in (List.mem_append_right _ (List.mem_append_right _ (List.mem_append_right _ (List.mem_of_getElem? (i := 29) rfl)))) rfl
theorem k_510 : (Jvm.Cond.privateMethod ({ cls := "CharacterSetsModel", name := "names", desc := "(II)Z" } : Jvm.MethodName) : Cond) ∈ lw_tbl := List.mem_append_right _ (List.mem_append_right _ (List.mem_append_right _ (List.mem_of_getElem? (i := 30) rfl)))
theorem k_511 : (Jvm.Cond.instanceMethod ({ cls := "CharacterSetsModel", name := "names", desc := "(II)Z" } : Jvm.MethodName) : Cond) ∈ lw_ok := lw_in (List.mem_append_right _ (List.mem_append_right _ (List.mem_append_right _ (List.mem_of_getElem? (i := 31) rfl)))) rfl
theorem k_512 : (Jvm.Cond.code ({ cls := "CharacterSetsModel", name := "names", desc := "(II)Z" } : Jvm.MethodName) prog_6_method_34_code (3 : Nat) (Option.some Jvm.ClassFile.FieldType.boolean) : Cond) ∈ lw_ok := lw_in (List.mem_append_right _ (List.mem_append_right _ (List.mem_append_right _ (List.mem_of_getElem? (i := 32) rfl)))) rfl
theorem k_513 : (Jvm.Cond.methodLink "CharacterSetsModel" (149 : Nat) ({ cls := "CharacterSetsModel", name := "widely", desc := "(II)Z" } : Jvm.MethodName) : Cond) ∈ lw_ok := lw_in (List.mem_append_right _ (List.mem_append_right _ (List.mem_append_right _ (List.mem_of_getElem? (i := 33) rfl)))) rfl
theorem k_514 : (Jvm.Cond.privateMethod ({ cls := "CharacterSetsModel", name := "widely", desc := "(II)Z" } : Jvm.MethodName) : Cond) ∈ lw_tbl := List.mem_append_right _ (List.mem_append_right _ (List.mem_append_right _ (List.mem_of_getElem? (i := 34) rfl)))
theorem k_515 : (Jvm.Cond.instanceMethod ({ cls := "CharacterSetsModel", name := "widely", desc := "(II)Z" } : Jvm.MethodName) : Cond) ∈ lw_ok := lw_in (List.mem_append_right _ (List.mem_append_right _ (List.mem_append_right _ (List.mem_of_getElem? (i := 35) rfl)))) rfl
theorem k_516 : (Jvm.Cond.code ({ cls := "CharacterSetsModel", name := "widely", desc := "(II)Z" } : Jvm.MethodName) prog_6_method_33_code (5 : Nat) (Option.some Jvm.ClassFile.FieldType.boolean) : Cond) ∈ lw_ok := lw_in (List.mem_append_right _ (List.mem_append_right _ (List.mem_append_right _ (List.mem_of_getElem? (i := 36) rfl)))) rfl
theorem k_517 : (Jvm.Cond.methodLink "CharacterSetsModel" (143 : Nat) ({ cls := "CharacterSetsModel", name := "blank", desc := "(I)Z" } : Jvm.MethodName) : Cond) ∈ lw_ok := lw_in (List.mem_append_right _ (List.mem_append_right _ (List.mem_append_right _ (List.mem_of_getElem? (i := 37) rfl)))) rfl
theorem k_518 : (Jvm.Cond.privateMethod ({ cls := "CharacterSetsModel", name := "blank", desc := "(I)Z" } : Jvm.MethodName) : Cond) ∈ lw_tbl := List.mem_append_right _ (List.mem_append_right _ (List.mem_append_right _ (List.mem_of_getElem? (i := 38) rfl)))
theorem k_519 : (Jvm.Cond.instanceMethod ({ cls := "CharacterSetsModel", name := "blank", desc := "(I)Z" } : Jvm.MethodName) : Cond) ∈ lw_ok := lw_in (List.mem_append_right _ (List.mem_append_right _ (List.mem_append_right _ (List.mem_of_getElem? (i := 39) rfl)))) rfl
theorem k_520 : (Jvm.Cond.code ({ cls := "CharacterSetsModel", name := "blank", desc := "(I)Z" } : Jvm.MethodName) prog_6_method_31_code (2 : Nat) (Option.some Jvm.ClassFile.FieldType.boolean) : Cond) ∈ lw_ok := lw_in (List.mem_append_right _ (List.mem_append_right _ (List.mem_append_right _ (List.mem_of_getElem? (i := 40) rfl)))) rfl
theorem k_521 : (Jvm.Cond.methodLink "CharacterSetsModel" (146 : Nat) ({ cls := "CharacterSetsModel", name := "plainly", desc := "(II)Z" } : Jvm.MethodName) : Cond) ∈ lw_ok := lw_in (List.mem_append_right _ (List.mem_append_right _ (List.mem_append_right _ (List.mem_of_getElem? (i := 41) rfl)))) rfl
theorem k_522 : (Jvm.Cond.privateMethod ({ cls := "CharacterSetsModel", name := "plainly", desc := "(II)Z" } : Jvm.MethodName) : Cond) ∈ lw_tbl := List.mem_append_right _ (List.mem_append_right _ (List.mem_append_right _ (List.mem_of_getElem? (i := 42) rfl)))
theorem k_523 : (Jvm.Cond.instanceMethod ({ cls := "CharacterSetsModel", name := "plainly", desc := "(II)Z" } : Jvm.MethodName) : Cond) ∈ lw_ok := lw_in (List.mem_append_right _ (List.mem_append_right _ (List.mem_append_right _ (List.mem_of_getElem? (i := 43) rfl)))) rfl
theorem k_524 : (Jvm.Cond.code ({ cls := "CharacterSetsModel", name := "plainly", desc := "(II)Z" } : Jvm.MethodName) prog_6_method_32_code (4 : Nat) (Option.some Jvm.ClassFile.FieldType.boolean) : Cond) ∈ lw_ok := lw_in (List.mem_append_right _ (List.mem_append_right _ (List.mem_append_right _ (List.mem_of_getElem? (i := 44) rfl)))) rfl
theorem k_525 : (Jvm.Cond.methodLink "CharacterSetsModel" (137 : Nat) ({ cls := "CharacterSetsModel", name := "digit", desc := "(I)Z" } : Jvm.MethodName) : Cond) ∈ lw_ok := lw_in (List.mem_append_right _ (List.mem_append_right _ (List.mem_append_right _ (List.mem_of_getElem? (i := 45) rfl)))) rfl
theorem k_526 : (Jvm.Cond.privateMethod ({ cls := "CharacterSetsModel", name := "digit", desc := "(I)Z" } : Jvm.MethodName) : Cond) ∈ lw_tbl := List.mem_append_right _ (List.mem_append_right _ (List.mem_append_right _ (List.mem_of_getElem? (i := 46) rfl)))
theorem k_527 : (Jvm.Cond.instanceMethod ({ cls := "CharacterSetsModel", name := "digit", desc := "(I)Z" } : Jvm.MethodName) : Cond) ∈ lw_ok := lw_in (List.mem_append_right _ (List.mem_append_right _ (List.mem_append_right _ (List.mem_of_getElem? (i := 47) rfl)))) rfl
theorem k_528 : (Jvm.Cond.code ({ cls := "CharacterSetsModel", name := "digit", desc := "(I)Z" } : Jvm.MethodName) prog_6_method_30_code (2 : Nat) (Option.some Jvm.ClassFile.FieldType.boolean) : Cond) ∈ lw_ok := lw_in (List.mem_append_right _ (List.mem_append_right _ (List.mem_append_right _ (List.mem_of_getElem? (i := 48) rfl)))) rfl
theorem k_529 : (Jvm.Cond.methodLink "CharacterSetsModel" (140 : Nat) ({ cls := "CharacterSetsModel", name := "alpha", desc := "(I)Z" } : Jvm.MethodName) : Cond) ∈ lw_ok := lw_in (List.mem_append_right _ (List.mem_append_right _ (List.mem_append_right _ (List.mem_of_getElem? (i := 49) rfl)))) rfl
theorem k_530 : (Jvm.Cond.privateMethod ({ cls := "CharacterSetsModel", name := "alpha", desc := "(I)Z" } : Jvm.MethodName) : Cond) ∈ lw_tbl := List.mem_append_right _ (List.mem_append_right _ (List.mem_append_right _ (List.mem_of_getElem? (i := 50) rfl)))
theorem k_531 : (Jvm.Cond.instanceMethod ({ cls := "CharacterSetsModel", name := "alpha", desc := "(I)Z" } : Jvm.MethodName) : Cond) ∈ lw_ok := lw_in (List.mem_append_right _ (List.mem_append_right _ (List.mem_append_right _ (List.mem_of_getElem? (i := 51) rfl)))) rfl
theorem k_532 : (Jvm.Cond.code ({ cls := "CharacterSetsModel", name := "alpha", desc := "(I)Z" } : Jvm.MethodName) prog_6_method_29_code (2 : Nat) (Option.some Jvm.ClassFile.FieldType.boolean) : Cond) ∈ lw_ok := lw_in (List.mem_append_right _ (List.mem_append_right _ (List.mem_append_right _ (List.mem_of_getElem? (i := 52) rfl)))) rfl
theorem k_533 : (Jvm.Cond.methodLink "CharacterSetsLaw" (43 : Nat) ({ cls := "CharacterSetsModel", name := "close", desc := "(I)I" } : Jvm.MethodName) : Cond) ∈ lw_ok := lw_in (List.mem_append_right _ (List.mem_append_right _ (List.mem_append_right _ (List.mem_of_getElem? (i := 53) rfl)))) rfl
theorem k_534 : (Jvm.Cond.instanceMethod ({ cls := "CharacterSetsModel", name := "close", desc := "(I)I" } : Jvm.MethodName) : Cond) ∈ lw_ok := lw_in (List.mem_append_right _ (List.mem_append_right _ (List.mem_append_right _ (List.mem_of_getElem? (i := 54) rfl)))) rfl
theorem k_535 : (Jvm.Cond.selects "CharacterSetsModel" ({ cls := "CharacterSetsModel", name := "close", desc := "(I)I" } : Jvm.MethodName) ({ cls := "CharacterSetsModel", name := "close", desc := "(I)I" } : Jvm.MethodName) : Cond) ∈ lw_ok := lw_in (List.mem_append_right _ (List.mem_append_right _ (List.mem_append_right _ (List.mem_of_getElem? (i := 55) rfl)))) rfl
theorem k_536 : (Jvm.Cond.code ({ cls := "CharacterSetsModel", name := "close", desc := "(I)I" } : Jvm.MethodName) prog_6_method_37_code (6 : Nat) (Option.some Jvm.ClassFile.FieldType.int) : Cond) ∈ lw_ok := lw_in (List.mem_append_right _ (List.mem_append_right _ (List.mem_append_right _ (List.mem_of_getElem? (i := 56) rfl)))) rfl
theorem k_537 : (Jvm.Cond.methodLink "CharacterSetsModel" (155 : Nat) ({ cls := "CharacterSetsModel", name := "count", desc := "(I)I" } : Jvm.MethodName) : Cond) ∈ lw_ok := lw_in (List.mem_append_right _ (List.mem_append_right _ (List.mem_append_right _ (List.mem_of_getElem? (i := 57) rfl)))) rfl
theorem k_538 : (Jvm.Cond.privateMethod ({ cls := "CharacterSetsModel", name := "count", desc := "(I)I" } : Jvm.MethodName) : Cond) ∈ lw_tbl := List.mem_append_right _ (List.mem_append_right _ (List.mem_append_right _ (List.mem_of_getElem? (i := 58) rfl)))
theorem k_539 : (Jvm.Cond.instanceMethod ({ cls := "CharacterSetsModel", name := "count", desc := "(I)I" } : Jvm.MethodName) : Cond) ∈ lw_ok := lw_in (List.mem_append_right _ (List.mem_append_right _ (List.mem_append_right _ (List.mem_of_getElem? (i := 59) rfl)))) rfl
theorem k_540 : (Jvm.Cond.code ({ cls := "CharacterSetsModel", name := "count", desc := "(I)I" } : Jvm.MethodName) prog_6_method_36_code (4 : Nat) (Option.some Jvm.ClassFile.FieldType.int) : Cond) ∈ lw_ok := lw_in (List.mem_append_right _ (List.mem_append_right _ (List.mem_append_right _ (List.mem_of_getElem? (i := 60) rfl)))) rfl
theorem k_541 : (Jvm.Cond.methodLink "CharacterSetsModel" (158 : Nat) ({ cls := "CharacterSetsModel", name := "in", desc := "(II)Z" } : Jvm.MethodName) : Cond) ∈ lw_ok := lw_in (List.mem_append_right _ (List.mem_append_right _ (List.mem_append_right _ (List.mem_of_getElem? (i := 61) rfl)))) rfl
theorem k_542 : (Jvm.Cond.privateMethod ({ cls := "CharacterSetsModel", name := "in", desc := "(II)Z" } : Jvm.MethodName) : Cond) ∈ lw_tbl := List.mem_append_right _ (List.mem_append_right _ (List.mem_append_right _ (List.mem_of_getElem? (i := 62) rfl)))
theorem k_543 : (Jvm.Cond.instanceMethod ({ cls := "CharacterSetsModel", name := "in", desc := "(II)Z" } : Jvm.MethodName) : Cond) ∈ lw_ok := lw_in (List.mem_append_right _ (List.mem_append_right _ (List.mem_append_right _ (List.mem_of_getElem? (i := 63) rfl)))) rfl
theorem k_544 : (Jvm.Cond.code ({ cls := "CharacterSetsModel", name := "in", desc := "(II)Z" } : Jvm.MethodName) prog_6_method_19_code (3 : Nat) (Option.some Jvm.ClassFile.FieldType.boolean) : Cond) ∈ lw_ok := lw_in (List.mem_append_right _ (List.mem_append_right _ (List.mem_append_right _ (List.mem_of_getElem? (i := 64) rfl)))) rfl
theorem k_545 : (Jvm.Cond.methodLink "CharacterSetsModel" (96 : Nat) ({ cls := "CharacterSetsModel", name := "caseOf", desc := "(I)V" } : Jvm.MethodName) : Cond) ∈ lw_ok := lw_in (List.mem_append_right _ (List.mem_append_right _ (List.mem_append_right _ (List.mem_of_getElem? (i := 65) rfl)))) rfl
theorem k_546 : (Jvm.Cond.privateMethod ({ cls := "CharacterSetsModel", name := "caseOf", desc := "(I)V" } : Jvm.MethodName) : Cond) ∈ lw_tbl := List.mem_append_right _ (List.mem_append_right _ (List.mem_append_right _ (List.mem_of_getElem? (i := 66) rfl)))
theorem k_547 : (Jvm.Cond.instanceMethod ({ cls := "CharacterSetsModel", name := "caseOf", desc := "(I)V" } : Jvm.MethodName) : Cond) ∈ lw_ok := lw_in (List.mem_append_right _ (List.mem_append_right _ (List.mem_append_right _ (List.mem_of_getElem? (i := 67) rfl)))) rfl
theorem k_548 : (Jvm.Cond.code ({ cls := "CharacterSetsModel", name := "caseOf", desc := "(I)V" } : Jvm.MethodName) prog_6_method_14_code (4 : Nat) (Option.none : Option Jvm.ClassFile.FieldType) : Cond) ∈ lw_ok := lw_in (List.mem_append_right _ (List.mem_append_right _ (List.mem_append_right _ (List.mem_of_getElem? (i := 68) rfl)))) rfl
theorem k_549 : (Jvm.Cond.methodLink "CharacterSetsModel" (89 : Nat) ({ cls := "CharacterSetsModel", name := "first", desc := "(I)I" } : Jvm.MethodName) : Cond) ∈ lw_ok := lw_in (List.mem_append_right _ (List.mem_append_right _ (List.mem_append_right _ (List.mem_of_getElem? (i := 69) rfl)))) rfl
theorem k_550 : (Jvm.Cond.privateMethod ({ cls := "CharacterSetsModel", name := "first", desc := "(I)I" } : Jvm.MethodName) : Cond) ∈ lw_tbl := List.mem_append_right _ (List.mem_append_right _ (List.mem_append_right _ (List.mem_of_getElem? (i := 70) rfl)))
theorem k_551 : (Jvm.Cond.instanceMethod ({ cls := "CharacterSetsModel", name := "first", desc := "(I)I" } : Jvm.MethodName) : Cond) ∈ lw_ok := lw_in (List.mem_append_right _ (List.mem_append_right _ (List.mem_append_right _ (List.mem_of_getElem? (i := 71) rfl)))) rfl
theorem k_552 : (Jvm.Cond.code ({ cls := "CharacterSetsModel", name := "first", desc := "(I)I" } : Jvm.MethodName) prog_6_method_13_code (2 : Nat) (Option.some Jvm.ClassFile.FieldType.int) : Cond) ∈ lw_ok := lw_in (List.mem_append_right _ (List.mem_append_right _ (List.mem_append_right _ (List.mem_of_getElem? (i := 72) rfl)))) rfl
theorem k_553 : (Jvm.Cond.methodLink "CharacterSetsModel" (83 : Nat) ({ cls := "CharacterSetsModel", name := "third", desc := "(I)I" } : Jvm.MethodName) : Cond) ∈ lw_ok := lw_in (List.mem_append_right _ (List.mem_append_right _ (List.mem_append_right _ (List.mem_of_getElem? (i := 73) rfl)))) rfl
theorem k_554 : (Jvm.Cond.privateMethod ({ cls := "CharacterSetsModel", name := "third", desc := "(I)I" } : Jvm.MethodName) : Cond) ∈ lw_tbl := List.mem_append_right _ (List.mem_append_right _ (List.mem_append_right _ (List.mem_of_getElem? (i := 74) rfl)))
theorem k_555 : (Jvm.Cond.instanceMethod ({ cls := "CharacterSetsModel", name := "third", desc := "(I)I" } : Jvm.MethodName) : Cond) ∈ lw_ok := lw_in (List.mem_append_right _ (List.mem_append_right _ (List.mem_append_right _ (List.mem_of_getElem? (i := 75) rfl)))) rfl
theorem k_556 : (Jvm.Cond.code ({ cls := "CharacterSetsModel", name := "third", desc := "(I)I" } : Jvm.MethodName) prog_6_method_12_code (2 : Nat) (Option.some Jvm.ClassFile.FieldType.int) : Cond) ∈ lw_ok := lw_in (List.mem_append_right _ (List.mem_append_right _ (List.mem_append_right _ (List.mem_of_getElem? (i := 76) rfl)))) rfl
theorem k_557 : (Jvm.Cond.methodLink "CharacterSetsModel" (86 : Nat) ({ cls := "CharacterSetsModel", name := "pair", desc := "(I)I" } : Jvm.MethodName) : Cond) ∈ lw_ok := lw_in (List.mem_append_right _ (List.mem_append_right _ (List.mem_append_right _ (List.mem_of_getElem? (i := 77) rfl)))) rfl
theorem k_558 : (Jvm.Cond.privateMethod ({ cls := "CharacterSetsModel", name := "pair", desc := "(I)I" } : Jvm.MethodName) : Cond) ∈ lw_tbl := List.mem_append_right _ (List.mem_append_right _ (List.mem_append_right _ (List.mem_of_getElem? (i := 78) rfl)))
theorem k_559 : (Jvm.Cond.instanceMethod ({ cls := "CharacterSetsModel", name := "pair", desc := "(I)I" } : Jvm.MethodName) : Cond) ∈ lw_ok := lw_in (List.mem_append_right _ (List.mem_append_right _ (List.mem_append_right _ (List.mem_of_getElem? (i := 79) rfl)))) rfl
theorem k_560 : (Jvm.Cond.code ({ cls := "CharacterSetsModel", name := "pair", desc := "(I)I" } : Jvm.MethodName) prog_6_method_11_code (3 : Nat) (Option.some Jvm.ClassFile.FieldType.int) : Cond) ∈ lw_ok := lw_in (List.mem_append_right _ (List.mem_append_right _ (List.mem_append_right _ (List.mem_of_getElem? (i := 80) rfl)))) rfl
theorem k_561 : (Jvm.Cond.methodLink "CharacterSetsModel" (79 : Nat) ({ cls := "CharacterSetsModel", name := "inAny", desc := "(III)Z" } : Jvm.MethodName) : Cond) ∈ lw_ok := lw_in (List.mem_append_right _ (List.mem_append_right _ (List.mem_append_right _ (List.mem_of_getElem? (i := 81) rfl)))) rfl
theorem k_562 : (Jvm.Cond.privateMethod ({ cls := "CharacterSetsModel", name := "inAny", desc := "(III)Z" } : Jvm.MethodName) : Cond) ∈ lw_tbl := List.mem_append_right _ (List.mem_append_right _ (List.mem_append_right _ (List.mem_of_getElem? (i := 82) rfl)))
theorem k_563 : (Jvm.Cond.instanceMethod ({ cls := "CharacterSetsModel", name := "inAny", desc := "(III)Z" } : Jvm.MethodName) : Cond) ∈ lw_ok := lw_in (List.mem_append_right _ (List.mem_append_right _ (List.mem_append_right _ (List.mem_of_getElem? (i := 83) rfl)))) rfl
theorem k_564 : (Jvm.Cond.code ({ cls := "CharacterSetsModel", name := "inAny", desc := "(III)Z" } : Jvm.MethodName) prog_6_method_10_code (4 : Nat) (Option.some Jvm.ClassFile.FieldType.boolean) : Cond) ∈ lw_ok := lw_in (List.mem_append_right _ (List.mem_append_right _ (List.mem_append_right _ (List.mem_of_getElem? (i := 84) rfl)))) rfl
theorem k_565 : (Jvm.Cond.methodLink "CharacterSetsModel" (92 : Nat) ({ cls := "CharacterSetsModel", name := "withMate", desc := "(I)V" } : Jvm.MethodName) : Cond) ∈ lw_ok := lw_in (List.mem_append_right _ (List.mem_append_right _ (List.mem_append_right _ (List.mem_of_getElem? (i := 85) rfl)))) rfl
theorem k_566 : (Jvm.Cond.privateMethod ({ cls := "CharacterSetsModel", name := "withMate", desc := "(I)V" } : Jvm.MethodName) : Cond) ∈ lw_tbl := List.mem_append_right _ (List.mem_append_right _ (List.mem_append_right _ (List.mem_of_getElem? (i := 86) rfl)))
theorem k_567 : (Jvm.Cond.instanceMethod ({ cls := "CharacterSetsModel", name := "withMate", desc := "(I)V" } : Jvm.MethodName) : Cond) ∈ lw_ok := lw_in (List.mem_append_right _ (List.mem_append_right _ (List.mem_append_right _ (List.mem_of_getElem? (i := 87) rfl)))) rfl
theorem k_568 : (Jvm.Cond.code ({ cls := "CharacterSetsModel", name := "withMate", desc := "(I)V" } : Jvm.MethodName) prog_6_method_9_code (2 : Nat) (Option.none : Option Jvm.ClassFile.FieldType) : Cond) ∈ lw_ok := lw_in (List.mem_append_right _ (List.mem_append_right _ (List.mem_append_right _ (List.mem_of_getElem? (i := 88) rfl)))) rfl
theorem k_569 : (Jvm.Cond.methodLink "CharacterSetsLaw" (47 : Nat) ({ cls := "CharacterSetsModel", name := "invert", desc := "(I)I" } : Jvm.MethodName) : Cond) ∈ lw_ok := lw_in (List.mem_append_right _ (List.mem_append_right _ (List.mem_append_right _ (List.mem_of_getElem? (i := 89) rfl)))) rfl
theorem k_570 : (Jvm.Cond.instanceMethod ({ cls := "CharacterSetsModel", name := "invert", desc := "(I)I" } : Jvm.MethodName) : Cond) ∈ lw_ok := lw_in (List.mem_append_right _ (List.mem_append_right _ (List.mem_append_right _ (List.mem_of_getElem? (i := 90) rfl)))) rfl
theorem k_571 : (Jvm.Cond.selects "CharacterSetsModel" ({ cls := "CharacterSetsModel", name := "invert", desc := "(I)I" } : Jvm.MethodName) ({ cls := "CharacterSetsModel", name := "invert", desc := "(I)I" } : Jvm.MethodName) : Cond) ∈ lw_ok := lw_in (List.mem_append_right _ (List.mem_append_right _ (List.mem_append_right _ (List.mem_of_getElem? (i := 91) rfl)))) rfl
theorem k_572 : (Jvm.Cond.code ({ cls := "CharacterSetsModel", name := "invert", desc := "(I)I" } : Jvm.MethodName) prog_6_method_38_code (3 : Nat) (Option.some Jvm.ClassFile.FieldType.int) : Cond) ∈ lw_ok := lw_in (List.mem_append_right _ (List.mem_append_right _ (List.mem_append_right _ (List.mem_of_getElem? (i := 92) rfl)))) rfl
theorem k_573 : (Jvm.Cond.methodLink "CharacterSetsLaw" (52 : Nat) ({ cls := "CharacterSetsModel", name := "join", desc := "(II)I" } : Jvm.MethodName) : Cond) ∈ lw_ok := lw_in (List.mem_append_right _ (List.mem_append_right _ (List.mem_append_right _ (List.mem_of_getElem? (i := 93) rfl)))) rfl
theorem k_574 : (Jvm.Cond.instanceMethod ({ cls := "CharacterSetsModel", name := "join", desc := "(II)I" } : Jvm.MethodName) : Cond) ∈ lw_ok := lw_in (List.mem_append_right _ (List.mem_append_right _ (List.mem_append_right _ (List.mem_of_getElem? (i := 94) rfl)))) rfl
theorem k_575 : (Jvm.Cond.selects "CharacterSetsModel" ({ cls := "CharacterSetsModel", name := "join", desc := "(II)I" } : Jvm.MethodName) ({ cls := "CharacterSetsModel", name := "join", desc := "(II)I" } : Jvm.MethodName) : Cond) ∈ lw_ok := lw_in (List.mem_append_right _ (List.mem_append_right _ (List.mem_append_right _ (List.mem_of_getElem? (i := 95) rfl)))) rfl
theorem k_576 : (Jvm.Cond.code ({ cls := "CharacterSetsModel", name := "join", desc := "(II)I" } : Jvm.MethodName) prog_6_method_39_code (4 : Nat) (Option.some Jvm.ClassFile.FieldType.int) : Cond) ∈ lw_ok := lw_in (List.mem_append_right _ (List.mem_append_right _ (List.mem_append_right _ (List.mem_of_getElem? (i := 96) rfl)))) rfl
theorem k_577 : (Jvm.Cond.methodLink "CharacterSetsLaw" (56 : Nat) ({ cls := "CharacterSetsModel", name := "meets", desc := "(II)I" } : Jvm.MethodName) : Cond) ∈ lw_ok := lw_in (List.mem_append_right _ (List.mem_append_right _ (List.mem_append_right _ (List.mem_of_getElem? (i := 97) rfl)))) rfl
theorem k_578 : (Jvm.Cond.instanceMethod ({ cls := "CharacterSetsModel", name := "meets", desc := "(II)I" } : Jvm.MethodName) : Cond) ∈ lw_ok := lw_in (List.mem_append_right _ (List.mem_append_right _ (List.mem_append_right _ (List.mem_of_getElem? (i := 98) rfl)))) rfl
theorem k_579 : (Jvm.Cond.selects "CharacterSetsModel" ({ cls := "CharacterSetsModel", name := "meets", desc := "(II)I" } : Jvm.MethodName) ({ cls := "CharacterSetsModel", name := "meets", desc := "(II)I" } : Jvm.MethodName) : Cond) ∈ lw_ok := lw_in (List.mem_append_right _ (List.mem_append_right _ (List.mem_append_right _ (List.mem_of_getElem? (i := 99) rfl)))) rfl
theorem k_580 : (Jvm.Cond.code ({ cls := "CharacterSetsModel", name := "meets", desc := "(II)I" } : Jvm.MethodName) prog_6_method_40_code (6 : Nat) (Option.some Jvm.ClassFile.FieldType.int) : Cond) ∈ lw_ok := lw_in (List.mem_append_right _ (List.mem_append_right _ (List.mem_append_right _ (List.mem_of_getElem? (i := 100) rfl)))) rfl
theorem k_581 : (Jvm.Cond.methodLink "CharacterSetsLaw" (60 : Nat) ({ cls := "CharacterSetsModel", name := "same", desc := "(II)I" } : Jvm.MethodName) : Cond) ∈ lw_ok := lw_in (List.mem_append_right _ (List.mem_append_right _ (List.mem_append_right _ (List.mem_of_getElem? (i := 101) rfl)))) rfl
theorem k_582 : (Jvm.Cond.instanceMethod ({ cls := "CharacterSetsModel", name := "same", desc := "(II)I" } : Jvm.MethodName) : Cond) ∈ lw_ok := lw_in (List.mem_append_right _ (List.mem_append_right _ (List.mem_append_right _ (List.mem_of_getElem? (i := 102) rfl)))) rfl
theorem k_583 : (Jvm.Cond.selects "CharacterSetsModel" ({ cls := "CharacterSetsModel", name := "same", desc := "(II)I" } : Jvm.MethodName) ({ cls := "CharacterSetsModel", name := "same", desc := "(II)I" } : Jvm.MethodName) : Cond) ∈ lw_ok := lw_in (List.mem_append_right _ (List.mem_append_right _ (List.mem_append_right _ (List.mem_of_getElem? (i := 103) rfl)))) rfl
theorem k_584 : (Jvm.Cond.code ({ cls := "CharacterSetsModel", name := "same", desc := "(II)I" } : Jvm.MethodName) prog_6_method_41_code (6 : Nat) (Option.some Jvm.ClassFile.FieldType.int) : Cond) ∈ lw_ok := lw_in (List.mem_append_right _ (List.mem_append_right _ (List.mem_append_right _ (List.mem_of_getElem? (i := 104) rfl)))) rfl
theorem k_585 : (Jvm.Cond.methodLink "CharacterSetsLaw" (64 : Nat) ({ cls := "CharacterSetsModel", name := "has", desc := "(II)I" } : Jvm.MethodName) : Cond) ∈ lw_ok := lw_in (List.mem_append_right _ (List.mem_append_right _ (List.mem_append_right _ (List.mem_of_getElem? (i := 105) rfl)))) rfl
theorem k_586 : (Jvm.Cond.instanceMethod ({ cls := "CharacterSetsModel", name := "has", desc := "(II)I" } : Jvm.MethodName) : Cond) ∈ lw_ok := lw_in (List.mem_append_right _ (List.mem_append_right _ (List.mem_append_right _ (List.mem_of_getElem? (i := 106) rfl)))) rfl
theorem k_587 : (Jvm.Cond.selects "CharacterSetsModel" ({ cls := "CharacterSetsModel", name := "has", desc := "(II)I" } : Jvm.MethodName) ({ cls := "CharacterSetsModel", name := "has", desc := "(II)I" } : Jvm.MethodName) : Cond) ∈ lw_ok := lw_in (List.mem_append_right _ (List.mem_append_right _ (List.mem_append_right _ (List.mem_of_getElem? (i := 107) rfl)))) rfl
theorem k_588 : (Jvm.Cond.code ({ cls := "CharacterSetsModel", name := "has", desc := "(II)I" } : Jvm.MethodName) prog_6_method_42_code (3 : Nat) (Option.some Jvm.ClassFile.FieldType.int) : Cond) ∈ lw_ok := lw_in (List.mem_append_right _ (List.mem_append_right _ (List.mem_append_right _ (List.mem_of_getElem? (i := 108) rfl)))) rfl
theorem k_589 : (Jvm.Cond.methodLink "CharacterSetsLaw" (68 : Nat) ({ cls := "CharacterSetsModel", name := "size", desc := "(I)I" } : Jvm.MethodName) : Cond) ∈ lw_ok := lw_in (List.mem_append_right _ (List.mem_append_right _ (List.mem_append_right _ (List.mem_of_getElem? (i := 109) rfl)))) rfl
theorem k_590 : (Jvm.Cond.instanceMethod ({ cls := "CharacterSetsModel", name := "size", desc := "(I)I" } : Jvm.MethodName) : Cond) ∈ lw_ok := lw_in (List.mem_append_right _ (List.mem_append_right _ (List.mem_append_right _ (List.mem_of_getElem? (i := 110) rfl)))) rfl
theorem k_591 : (Jvm.Cond.selects "CharacterSetsModel" ({ cls := "CharacterSetsModel", name := "size", desc := "(I)I" } : Jvm.MethodName) ({ cls := "CharacterSetsModel", name := "size", desc := "(I)I" } : Jvm.MethodName) : Cond) ∈ lw_ok := lw_in (List.mem_append_right _ (List.mem_append_right _ (List.mem_append_right _ (List.mem_of_getElem? (i := 111) rfl)))) rfl
theorem k_592 : (Jvm.Cond.code ({ cls := "CharacterSetsModel", name := "size", desc := "(I)I" } : Jvm.MethodName) prog_6_method_43_code (2 : Nat) (Option.some Jvm.ClassFile.FieldType.int) : Cond) ∈ lw_ok := lw_in (List.mem_append_right _ (List.mem_append_right _ (List.mem_append_right _ (List.mem_of_getElem? (i := 112) rfl)))) rfl
theorem k_593 : (Jvm.Cond.methodLink "CharacterSetsLaw" (72 : Nat) ({ cls := "CharacterSetsModel", name := "least", desc := "(II)I" } : Jvm.MethodName) : Cond) ∈ lw_ok := lw_in (List.mem_append_right _ (List.mem_append_right _ (List.mem_append_right _ (List.mem_of_getElem? (i := 113) rfl)))) rfl
theorem k_594 : (Jvm.Cond.instanceMethod ({ cls := "CharacterSetsModel", name := "least", desc := "(II)I" } : Jvm.MethodName) : Cond) ∈ lw_ok := lw_in (List.mem_append_right _ (List.mem_append_right _ (List.mem_append_right _ (List.mem_of_getElem? (i := 114) rfl)))) rfl
theorem k_595 : (Jvm.Cond.selects "CharacterSetsModel" ({ cls := "CharacterSetsModel", name := "least", desc := "(II)I" } : Jvm.MethodName) ({ cls := "CharacterSetsModel", name := "least", desc := "(II)I" } : Jvm.MethodName) : Cond) ∈ lw_ok := lw_in (List.mem_append_right _ (List.mem_append_right _ (List.mem_append_right _ (List.mem_of_getElem? (i := 115) rfl)))) rfl
theorem k_596 : (Jvm.Cond.code ({ cls := "CharacterSetsModel", name := "least", desc := "(II)I" } : Jvm.MethodName) prog_6_method_44_code (4 : Nat) (Option.some Jvm.ClassFile.FieldType.int) : Cond) ∈ lw_ok := lw_in (List.mem_append_right _ (List.mem_append_right _ (List.mem_append_right _ (List.mem_of_getElem? (i := 116) rfl)))) rfl
theorem k_597 : (Jvm.Cond.methodLink "CharacterSetsLaw" (77 : Nat) ({ cls := "CharacterSetsModel", name := "bound", desc := "(IIZ)I" } : Jvm.MethodName) : Cond) ∈ lw_ok := lw_in (List.mem_append_right _ (List.mem_append_right _ (List.mem_append_right _ (List.mem_of_getElem? (i := 117) rfl)))) rfl
theorem k_598 : (Jvm.Cond.instanceMethod ({ cls := "CharacterSetsModel", name := "bound", desc := "(IIZ)I" } : Jvm.MethodName) : Cond) ∈ lw_ok := lw_in (List.mem_append_right _ (List.mem_append_right _ (List.mem_append_right _ (List.mem_of_getElem? (i := 118) rfl)))) rfl
theorem k_599 : (Jvm.Cond.selects "CharacterSetsModel" ({ cls := "CharacterSetsModel", name := "bound", desc := "(IIZ)I" } : Jvm.MethodName) ({ cls := "CharacterSetsModel", name := "bound", desc := "(IIZ)I" } : Jvm.MethodName) : Cond) ∈ lw_ok := lw_in (List.mem_append_right _ (List.mem_append_right _ (List.mem_append_right _ (List.mem_of_getElem? (i := 119) rfl)))) rfl
theorem k_600 : (Jvm.Cond.code ({ cls := "CharacterSetsModel", name := "bound", desc := "(IIZ)I" } : Jvm.MethodName) prog_6_method_45_code (6 : Nat) (Option.some Jvm.ClassFile.FieldType.int) : Cond) ∈ lw_ok := lw_in (List.mem_append_right _ (List.mem_append_right _ (List.mem_append_right _ (List.mem_of_getElem? (i := 120) rfl)))) rfl
theorem k_601 : (Jvm.Cond.methodLink "CharacterSetsModel" (161 : Nat) ({ cls := "CharacterSetsModel", name := "least", desc := "(II)I" } : Jvm.MethodName) : Cond) ∈ lw_ok := lw_in (List.mem_append_right _ (List.mem_append_right _ (List.mem_append_right _ (List.mem_of_getElem? (i := 121) rfl)))) rfl
theorem k_602 : (Jvm.Cond.methodLink "CharacterSetsModel" (165 : Nat) ({ cls := "CharacterSetsModel", name := "after", desc := "(II)I" } : Jvm.MethodName) : Cond) ∈ lw_ok := lw_in (List.mem_append_right _ (List.mem_append_right _ (List.mem_append_right _ (List.mem_of_getElem? (i := 122) rfl)))) rfl
theorem k_603 : (Jvm.Cond.privateMethod ({ cls := "CharacterSetsModel", name := "after", desc := "(II)I" } : Jvm.MethodName) : Cond) ∈ lw_tbl := List.mem_append_right _ (List.mem_append_right _ (List.mem_append_right _ (List.mem_of_getElem? (i := 123) rfl)))
theorem k_604 : (Jvm.Cond.instanceMethod ({ cls := "CharacterSetsModel", name := "after", desc := "(II)I" } : Jvm.MethodName) : Cond) ∈ lw_ok := lw_in (List.mem_append_right _ (List.mem_append_right _ (List.mem_append_right _ (List.mem_of_getElem? (i := 124) rfl)))) rfl
theorem k_605 : (Jvm.Cond.code ({ cls := "CharacterSetsModel", name := "after", desc := "(II)I" } : Jvm.MethodName) prog_6_method_46_code (4 : Nat) (Option.some Jvm.ClassFile.FieldType.int) : Cond) ∈ lw_ok := lw_in (List.mem_append_right _ (List.mem_append_right _ (List.mem_append_right _ (List.mem_of_getElem? (i := 125) rfl)))) rfl
theorem k_606 : (Jvm.Cond.methodLink "CharacterSetsLaw" (81 : Nat) ({ cls := "CharacterSetsModel", name := "about", desc := "(II)I" } : Jvm.MethodName) : Cond) ∈ lw_ok := lw_in (List.mem_append_right _ (List.mem_append_right _ (List.mem_append_right _ (List.mem_of_getElem? (i := 126) rfl)))) rfl
theorem k_607 : (Jvm.Cond.instanceMethod ({ cls := "CharacterSetsModel", name := "about", desc := "(II)I" } : Jvm.MethodName) : Cond) ∈ lw_ok := lw_in (List.mem_append_right _ (List.mem_append_right _ (List.mem_append_right _ (List.mem_of_getElem? (i := 127) rfl)))) rfl
theorem k_608 : (Jvm.Cond.selects "CharacterSetsModel" ({ cls := "CharacterSetsModel", name := "about", desc := "(II)I" } : Jvm.MethodName) ({ cls := "CharacterSetsModel", name := "about", desc := "(II)I" } : Jvm.MethodName) : Cond) ∈ lw_ok := lw_in (List.mem_append_right _ (List.mem_append_right _ (List.mem_append_right _ (List.mem_of_getElem? (i := 128) rfl)))) rfl
theorem k_609 : (Jvm.Cond.code ({ cls := "CharacterSetsModel", name := "about", desc := "(II)I" } : Jvm.MethodName) prog_6_method_47_code (3 : Nat) (Option.some Jvm.ClassFile.FieldType.int) : Cond) ∈ lw_ok := lw_in (List.mem_append_right _ (List.mem_append_right _ (List.mem_append_right _ (List.mem_of_getElem? (i := 129) rfl)))) rfl
theorem k_610 : (Jvm.Cond.methodLink "CharacterSetsModel" (168 : Nat) ({ cls := "CharacterSetsModel", name := "upper", desc := "(I)I" } : Jvm.MethodName) : Cond) ∈ lw_ok := lw_in (List.mem_append_right _ (List.mem_append_right _ (List.mem_append_right _ (List.mem_of_getElem? (i := 130) rfl)))) rfl
theorem k_611 : (Jvm.Cond.privateMethod ({ cls := "CharacterSetsModel", name := "upper", desc := "(I)I" } : Jvm.MethodName) : Cond) ∈ lw_tbl := List.mem_append_right _ (List.mem_append_right _ (List.mem_append_right _ (List.mem_of_getElem? (i := 131) rfl)))
theorem k_612 : (Jvm.Cond.instanceMethod ({ cls := "CharacterSetsModel", name := "upper", desc := "(I)I" } : Jvm.MethodName) : Cond) ∈ lw_ok := lw_in (List.mem_append_right _ (List.mem_append_right _ (List.mem_append_right _ (List.mem_of_getElem? (i := 132) rfl)))) rfl
theorem k_613 : (Jvm.Cond.code ({ cls := "CharacterSetsModel", name := "upper", desc := "(I)I" } : Jvm.MethodName) prog_6_method_15_code (4 : Nat) (Option.some Jvm.ClassFile.FieldType.int) : Cond) ∈ lw_ok := lw_in (List.mem_append_right _ (List.mem_append_right _ (List.mem_append_right _ (List.mem_of_getElem? (i := 133) rfl)))) rfl
theorem k_614 : (Jvm.Cond.methodLink "CharacterSetsModel" (171 : Nat) ({ cls := "CharacterSetsModel", name := "lower", desc := "(I)I" } : Jvm.MethodName) : Cond) ∈ lw_ok := lw_in (List.mem_append_right _ (List.mem_append_right _ (List.mem_append_right _ (List.mem_of_getElem? (i := 134) rfl)))) rfl
theorem k_615 : (Jvm.Cond.privateMethod ({ cls := "CharacterSetsModel", name := "lower", desc := "(I)I" } : Jvm.MethodName) : Cond) ∈ lw_tbl := List.mem_append_right _ (List.mem_append_right _ (List.mem_append_right _ (List.mem_of_getElem? (i := 135) rfl)))
theorem k_616 : (Jvm.Cond.instanceMethod ({ cls := "CharacterSetsModel", name := "lower", desc := "(I)I" } : Jvm.MethodName) : Cond) ∈ lw_ok := lw_in (List.mem_append_right _ (List.mem_append_right _ (List.mem_append_right _ (List.mem_of_getElem? (i := 136) rfl)))) rfl
theorem k_617 : (Jvm.Cond.code ({ cls := "CharacterSetsModel", name := "lower", desc := "(I)I" } : Jvm.MethodName) prog_6_method_16_code (3 : Nat) (Option.some Jvm.ClassFile.FieldType.int) : Cond) ∈ lw_ok := lw_in (List.mem_append_right _ (List.mem_append_right _ (List.mem_append_right _ (List.mem_of_getElem? (i := 137) rfl)))) rfl
theorem k_618 : (Jvm.Cond.methodLink "CharacterSetsModel" (174 : Nat) ({ cls := "CharacterSetsModel", name := "next", desc := "(I)I" } : Jvm.MethodName) : Cond) ∈ lw_ok := lw_in (List.mem_append_right _ (List.mem_append_right _ (List.mem_append_right _ (List.mem_of_getElem? (i := 138) rfl)))) rfl
theorem k_619 : (Jvm.Cond.privateMethod ({ cls := "CharacterSetsModel", name := "next", desc := "(I)I" } : Jvm.MethodName) : Cond) ∈ lw_tbl := List.mem_append_right _ (List.mem_append_right _ (List.mem_append_right _ (List.mem_of_getElem? (i := 139) rfl)))
theorem k_620 : (Jvm.Cond.instanceMethod ({ cls := "CharacterSetsModel", name := "next", desc := "(I)I" } : Jvm.MethodName) : Cond) ∈ lw_ok := lw_in (List.mem_append_right _ (List.mem_append_right _ (List.mem_append_right _ (List.mem_of_getElem? (i := 140) rfl)))) rfl
theorem k_621 : (Jvm.Cond.code ({ cls := "CharacterSetsModel", name := "next", desc := "(I)I" } : Jvm.MethodName) prog_6_method_17_code (5 : Nat) (Option.some Jvm.ClassFile.FieldType.int) : Cond) ∈ lw_ok := lw_in (List.mem_append_right _ (List.mem_append_right _ (List.mem_append_right _ (List.mem_of_getElem? (i := 141) rfl)))) rfl
theorem i_CS : ∀ w ∈ w_CS, w ∈ lw_ok := by
  intro w hw
  obtain ⟨k, hk, rfl⟩ := List.mem_map.mp hw
  have hk := List.mem_range.mp hk
  match k, hk with
  | 0, _ => exact k_107
  | 1, _ => exact k_109
  | 2, _ => exact k_111
  | 3, _ => exact k_113
  | 4, _ => exact k_115
  | 5, _ => exact k_117
  | k + 6, hk => exact absurd hk (by omega)
theorem i_RG : ∀ w ∈ w_RG, w ∈ lw_ok := by
  intro w hw
  obtain ⟨k, hk, rfl⟩ := List.mem_map.mp hw
  have hk := List.mem_range.mp hk
  match k, hk with
  | 0, _ => exact k_95
  | 1, _ => exact k_97
  | k + 2, hk => exact absurd hk (by omega)
theorem i_TB : ∀ w ∈ w_TB, w ∈ lw_ok := by
  intro w hw
  obtain ⟨k, hk, rfl⟩ := List.mem_map.mp hw
  have hk := List.mem_range.mp hk
  match k, hk with
  | 0, _ => exact k_42
  | 1, _ => exact k_44
  | 2, _ => exact k_46
  | 3, _ => exact k_48
  | k + 4, hk => exact absurd hk (by omega)
theorem i_CR : ∀ w ∈ w_CR, w ∈ lw_ok := by
  intro w hw
  obtain ⟨k, hk, rfl⟩ := List.mem_map.mp hw
  have hk := List.mem_range.mp hk
  match k, hk with
  | 0, _ => exact k_82
  | 1, _ => exact k_84
  | k + 2, hk => exact absurd hk (by omega)
theorem i_MO : ∀ w ∈ w_MO, w ∈ lw_ok := by
  intro w hw
  obtain ⟨k, hk, rfl⟩ := List.mem_map.mp hw
  have hk := List.mem_range.mp hk
  match k, hk with
  | 0, _ => exact k_427
  | 1, _ => exact k_429
  | 2, _ => exact k_431
  | 3, _ => exact k_433
  | 4, _ => exact k_435
  | 5, _ => exact k_437
  | 6, _ => exact k_439
  | 7, _ => exact k_441
  | 8, _ => exact k_443
  | k + 9, hk => exact absurd hk (by omega)
end
section
theorem d_CS_init_0 : decode b_CS_init 0 = .ok (.aload_n 0, 1) := by decide +kernel
theorem d_CS_init_1 : decode b_CS_init 1 = .ok (.invokespecial 3, 3) := by decide +kernel
theorem d_CS_init_4 : decode b_CS_init 4 = .ok (.iload_n 1, 1) := by decide +kernel
theorem d_CS_init_5 : decode b_CS_init 5 = .ok (.iconst 1, 1) := by decide +kernel
theorem d_CS_init_6 : decode b_CS_init 6 = .ok (.iand, 1) := by decide +kernel
theorem d_CS_init_7 : decode b_CS_init 7 = .ok (.ifCond .eq 7, 3) := by decide +kernel
theorem d_CS_init_10 : decode b_CS_init 10 = .ok (.iconst 1, 1) := by decide +kernel
theorem d_CS_init_11 : decode b_CS_init 11 = .ok (.goto 4, 3) := by decide +kernel
theorem d_CS_init_14 : decode b_CS_init 14 = .ok (.iconst 0, 1) := by decide +kernel
theorem d_CS_init_15 : decode b_CS_init 15 = .ok (.istore_n 2, 1) := by decide +kernel
theorem d_CS_init_16 : decode b_CS_init 16 = .ok (.aload_n 0, 1) := by decide +kernel
theorem d_CS_init_17 : decode b_CS_init 17 = .ok (.iload_n 1, 1) := by decide +kernel
theorem d_CS_init_18 : decode b_CS_init 18 = .ok (.iconst 2, 1) := by decide +kernel
theorem d_CS_init_19 : decode b_CS_init 19 = .ok (.iand, 1) := by decide +kernel
theorem d_CS_init_20 : decode b_CS_init 20 = .ok (.ifCond .eq 7, 3) := by decide +kernel
theorem d_CS_init_23 : decode b_CS_init 23 = .ok (.iconst 1, 1) := by decide +kernel
theorem d_CS_init_24 : decode b_CS_init 24 = .ok (.goto 4, 3) := by decide +kernel
theorem d_CS_init_27 : decode b_CS_init 27 = .ok (.iconst 0, 1) := by decide +kernel
theorem d_CS_init_28 : decode b_CS_init 28 = .ok (.putfield 9, 3) := by decide +kernel
theorem d_CS_init_31 : decode b_CS_init 31 = .ok (.aload_n 0, 1) := by decide +kernel
theorem d_CS_init_32 : decode b_CS_init 32 = .ok (.iload_n 2, 1) := by decide +kernel
theorem d_CS_init_33 : decode b_CS_init 33 = .ok (.ifCond .eq 8, 3) := by decide +kernel
theorem d_CS_init_36 : decode b_CS_init 36 = .ok (.ldc 13, 2) := by decide +kernel
theorem d_CS_init_38 : decode b_CS_init 38 = .ok (.goto 6, 3) := by decide +kernel
theorem d_CS_init_41 : decode b_CS_init 41 = .ok (.sipush 255, 3) := by decide +kernel
theorem d_CS_init_44 : decode b_CS_init 44 = .ok (.putfield 14, 3) := by decide +kernel
theorem d_CS_init_47 : decode b_CS_init 47 = .ok (.aload_n 0, 1) := by decide +kernel
theorem d_CS_init_48 : decode b_CS_init 48 = .ok (.new 18, 3) := by decide +kernel
theorem d_CS_init_51 : decode b_CS_init 51 = .ok (.dup, 1) := by decide +kernel
theorem d_CS_init_52 : decode b_CS_init 52 = .ok (.invokespecial 20, 3) := by decide +kernel
theorem d_CS_init_55 : decode b_CS_init 55 = .ok (.putfield 21, 3) := by decide +kernel
theorem d_CS_init_58 : decode b_CS_init 58 = .ok (.aload_n 0, 1) := by decide +kernel
theorem d_CS_init_59 : decode b_CS_init 59 = .ok (.new 25, 3) := by decide +kernel
theorem d_CS_init_62 : decode b_CS_init 62 = .ok (.dup, 1) := by decide +kernel
theorem d_CS_init_63 : decode b_CS_init 63 = .ok (.iload_n 2, 1) := by decide +kernel
theorem d_CS_init_64 : decode b_CS_init 64 = .ok (.ifCond .ne 10, 3) := by decide +kernel
theorem d_CS_init_67 : decode b_CS_init 67 = .ok (.aload_n 0, 1) := by decide +kernel
theorem d_CS_init_68 : decode b_CS_init 68 = .ok (.getfield 9, 3) := by decide +kernel
theorem d_CS_init_71 : decode b_CS_init 71 = .ok (.ifCond .eq 7, 3) := by decide +kernel
theorem d_CS_init_74 : decode b_CS_init 74 = .ok (.iconst 1, 1) := by decide +kernel
theorem d_CS_init_75 : decode b_CS_init 75 = .ok (.goto 4, 3) := by decide +kernel
theorem d_CS_init_78 : decode b_CS_init 78 = .ok (.iconst 0, 1) := by decide +kernel
theorem d_CS_init_79 : decode b_CS_init 79 = .ok (.aload_n 0, 1) := by decide +kernel
theorem d_CS_init_80 : decode b_CS_init 80 = .ok (.getfield 14, 3) := by decide +kernel
theorem d_CS_init_83 : decode b_CS_init 83 = .ok (.invokespecial 27, 3) := by decide +kernel
theorem d_CS_init_86 : decode b_CS_init 86 = .ok (.putfield 30, 3) := by decide +kernel
theorem d_CS_init_89 : decode b_CS_init 89 = .ok (.aload_n 0, 1) := by decide +kernel
theorem d_CS_init_90 : decode b_CS_init 90 = .ok (.new 34, 3) := by decide +kernel
theorem d_CS_init_93 : decode b_CS_init 93 = .ok (.dup, 1) := by decide +kernel
theorem d_CS_init_94 : decode b_CS_init 94 = .ok (.invokespecial 36, 3) := by decide +kernel
theorem d_CS_init_97 : decode b_CS_init 97 = .ok (.putfield 37, 3) := by decide +kernel
theorem d_CS_init_100 : decode b_CS_init 100 = .ok (.aload_n 0, 1) := by decide +kernel
theorem d_CS_init_101 : decode b_CS_init 101 = .ok (.bipush 8, 2) := by decide +kernel
theorem d_CS_init_103 : decode b_CS_init 103 = .ok (.anewarray 34, 3) := by decide +kernel
theorem d_CS_init_106 : decode b_CS_init 106 = .ok (.putfield 41, 3) := by decide +kernel
theorem d_CS_init_109 : decode b_CS_init 109 = .ok (.iconst 0, 1) := by decide +kernel
theorem d_CS_init_110 : decode b_CS_init 110 = .ok (.istore_n 3, 1) := by decide +kernel
theorem d_CS_init_111 : decode b_CS_init 111 = .ok (.iload_n 3, 1) := by decide +kernel
theorem d_CS_init_112 : decode b_CS_init 112 = .ok (.bipush 8, 2) := by decide +kernel
theorem d_CS_init_114 : decode b_CS_init 114 = .ok (.if_icmp .ge 22, 3) := by decide +kernel
theorem d_CS_init_117 : decode b_CS_init 117 = .ok (.aload_n 0, 1) := by decide +kernel
theorem d_CS_init_118 : decode b_CS_init 118 = .ok (.getfield 41, 3) := by decide +kernel
theorem d_CS_init_121 : decode b_CS_init 121 = .ok (.iload_n 3, 1) := by decide +kernel
theorem d_CS_init_122 : decode b_CS_init 122 = .ok (.new 34, 3) := by decide +kernel
theorem d_CS_init_125 : decode b_CS_init 125 = .ok (.dup, 1) := by decide +kernel
theorem d_CS_init_126 : decode b_CS_init 126 = .ok (.invokespecial 36, 3) := by decide +kernel
theorem d_CS_init_129 : decode b_CS_init 129 = .ok (.aastore, 1) := by decide +kernel
theorem d_CS_init_130 : decode b_CS_init 130 = .ok (.iinc 3 1, 3) := by decide +kernel
theorem d_CS_init_133 : decode b_CS_init 133 = .ok (.goto (-22), 3) := by decide +kernel
theorem d_CS_init_136 : decode b_CS_init 136 = .ok (.return_, 1) := by decide +kernel
theorem d_CS_clear_0 : decode b_CS_clear 0 = .ok (.iload_n 1, 1) := by decide +kernel
theorem d_CS_clear_1 : decode b_CS_clear 1 = .ok (.invokestatic 45, 3) := by decide +kernel
theorem d_CS_clear_4 : decode b_CS_clear 4 = .ok (.ifCond .ne 6, 3) := by decide +kernel
theorem d_CS_clear_7 : decode b_CS_clear 7 = .ok (.bipush (-2), 2) := by decide +kernel
theorem d_CS_clear_9 : decode b_CS_clear 9 = .ok (.ireturn, 1) := by decide +kernel
theorem d_CS_clear_10 : decode b_CS_clear 10 = .ok (.aload_n 0, 1) := by decide +kernel
theorem d_CS_clear_11 : decode b_CS_clear 11 = .ok (.getfield 41, 3) := by decide +kernel
theorem d_CS_clear_14 : decode b_CS_clear 14 = .ok (.iload_n 1, 1) := by decide +kernel
theorem d_CS_clear_15 : decode b_CS_clear 15 = .ok (.aaload, 1) := by decide +kernel
theorem d_CS_clear_16 : decode b_CS_clear 16 = .ok (.invokevirtual 49, 3) := by decide +kernel
theorem d_CS_clear_19 : decode b_CS_clear 19 = .ok (.iconst 0, 1) := by decide +kernel
theorem d_CS_clear_20 : decode b_CS_clear 20 = .ok (.ireturn, 1) := by decide +kernel
theorem d_CS_range_0 : decode b_CS_range 0 = .ok (.iload_n 1, 1) := by decide +kernel
theorem d_CS_range_1 : decode b_CS_range 1 = .ok (.invokestatic 45, 3) := by decide +kernel
theorem d_CS_range_4 : decode b_CS_range 4 = .ok (.ifCond .eq 24, 3) := by decide +kernel
theorem d_CS_range_7 : decode b_CS_range 7 = .ok (.aload_n 0, 1) := by decide +kernel
theorem d_CS_range_8 : decode b_CS_range 8 = .ok (.iload_n 2, 1) := by decide +kernel
theorem d_CS_range_9 : decode b_CS_range 9 = .ok (.invokevirtual 52, 3) := by decide +kernel
theorem d_CS_range_12 : decode b_CS_range 12 = .ok (.ifCond .eq 16, 3) := by decide +kernel
theorem d_CS_range_15 : decode b_CS_range 15 = .ok (.aload_n 0, 1) := by decide +kernel
theorem d_CS_range_16 : decode b_CS_range 16 = .ok (.iload_n 3, 1) := by decide +kernel
theorem d_CS_range_17 : decode b_CS_range 17 = .ok (.invokevirtual 52, 3) := by decide +kernel
theorem d_CS_range_20 : decode b_CS_range 20 = .ok (.ifCond .eq 8, 3) := by decide +kernel
theorem d_CS_range_23 : decode b_CS_range 23 = .ok (.iload_n 2, 1) := by decide +kernel
theorem d_CS_range_24 : decode b_CS_range 24 = .ok (.iload_n 3, 1) := by decide +kernel
theorem d_CS_range_25 : decode b_CS_range 25 = .ok (.if_icmp .le 6, 3) := by decide +kernel
theorem d_CS_range_28 : decode b_CS_range 28 = .ok (.bipush (-2), 2) := by decide +kernel
theorem d_CS_range_30 : decode b_CS_range 30 = .ok (.ireturn, 1) := by decide +kernel
theorem d_CS_range_31 : decode b_CS_range 31 = .ok (.aload_n 0, 1) := by decide +kernel
theorem d_CS_range_32 : decode b_CS_range 32 = .ok (.getfield 41, 3) := by decide +kernel
theorem d_CS_range_35 : decode b_CS_range 35 = .ok (.iload_n 1, 1) := by decide +kernel
theorem d_CS_range_36 : decode b_CS_range 36 = .ok (.aaload, 1) := by decide +kernel
theorem d_CS_range_37 : decode b_CS_range 37 = .ok (.iload_n 2, 1) := by decide +kernel
theorem d_CS_range_38 : decode b_CS_range 38 = .ok (.iload_n 3, 1) := by decide +kernel
theorem d_CS_range_39 : decode b_CS_range 39 = .ok (.invokevirtual 55, 3) := by decide +kernel
theorem d_CS_range_42 : decode b_CS_range 42 = .ok (.aload_n 0, 1) := by decide +kernel
theorem d_CS_range_43 : decode b_CS_range 43 = .ok (.getfield 41, 3) := by decide +kernel
theorem d_CS_range_46 : decode b_CS_range 46 = .ok (.iload_n 1, 1) := by decide +kernel
theorem d_CS_range_47 : decode b_CS_range 47 = .ok (.aaload, 1) := by decide +kernel
theorem d_CS_range_48 : decode b_CS_range 48 = .ok (.invokevirtual 59, 3) := by decide +kernel
theorem d_CS_range_51 : decode b_CS_range 51 = .ok (.ireturn, 1) := by decide +kernel
theorem d_CS_property_0 : decode b_CS_property 0 = .ok (.iload_n 1, 1) := by decide +kernel
theorem d_CS_property_1 : decode b_CS_property 1 = .ok (.invokestatic 45, 3) := by decide +kernel
theorem d_CS_property_4 : decode b_CS_property 4 = .ok (.ifCond .eq 13, 3) := by decide +kernel
theorem d_CS_property_7 : decode b_CS_property 7 = .ok (.iload_n 2, 1) := by decide +kernel
theorem d_CS_property_8 : decode b_CS_property 8 = .ok (.ifCond .lt 9, 3) := by decide +kernel
theorem d_CS_property_11 : decode b_CS_property 11 = .ok (.iload_n 2, 1) := by decide +kernel
theorem d_CS_property_12 : decode b_CS_property 12 = .ok (.bipush 48, 2) := by decide +kernel
theorem d_CS_property_14 : decode b_CS_property 14 = .ok (.if_icmp .le 6, 3) := by decide +kernel
theorem d_CS_property_17 : decode b_CS_property 17 = .ok (.bipush (-2), 2) := by decide +kernel
theorem d_CS_property_19 : decode b_CS_property 19 = .ok (.ireturn, 1) := by decide +kernel
theorem d_CS_property_20 : decode b_CS_property 20 = .ok (.iload 4, 2) := by decide +kernel
theorem d_CS_property_22 : decode b_CS_property 22 = .ok (.ifCond .eq 18, 3) := by decide +kernel
theorem d_CS_property_25 : decode b_CS_property 25 = .ok (.iload_n 2, 1) := by decide +kernel
theorem d_CS_property_26 : decode b_CS_property 26 = .ok (.iconst 4, 1) := by decide +kernel
theorem d_CS_property_27 : decode b_CS_property 27 = .ok (.if_icmp .eq 9, 3) := by decide +kernel
theorem d_CS_property_30 : decode b_CS_property 30 = .ok (.iload_n 2, 1) := by decide +kernel
theorem d_CS_property_31 : decode b_CS_property 31 = .ok (.bipush 6, 2) := by decide +kernel
theorem d_CS_property_33 : decode b_CS_property 33 = .ok (.if_icmp .ne 7, 3) := by decide +kernel
theorem d_CS_property_36 : decode b_CS_property 36 = .ok (.iconst 1, 1) := by decide +kernel
theorem d_CS_property_37 : decode b_CS_property 37 = .ok (.goto 4, 3) := by decide +kernel
theorem d_CS_property_40 : decode b_CS_property 40 = .ok (.iconst 0, 1) := by decide +kernel
theorem d_CS_property_41 : decode b_CS_property 41 = .ok (.istore 5, 2) := by decide +kernel
theorem d_CS_property_43 : decode b_CS_property 43 = .ok (.aload_n 0, 1) := by decide +kernel
theorem d_CS_property_44 : decode b_CS_property 44 = .ok (.getfield 37, 3) := by decide +kernel
theorem d_CS_property_47 : decode b_CS_property 47 = .ok (.invokevirtual 49, 3) := by decide +kernel
theorem d_CS_property_50 : decode b_CS_property 50 = .ok (.aload_n 0, 1) := by decide +kernel
theorem d_CS_property_51 : decode b_CS_property 51 = .ok (.iload 5, 2) := by decide +kernel
theorem d_CS_property_53 : decode b_CS_property 53 = .ok (.ifCond .eq 8, 3) := by decide +kernel
theorem d_CS_property_56 : decode b_CS_property 56 = .ok (.bipush 45, 2) := by decide +kernel
theorem d_CS_property_58 : decode b_CS_property 58 = .ok (.goto 4, 3) := by decide +kernel
theorem d_CS_property_61 : decode b_CS_property 61 = .ok (.iload_n 2, 1) := by decide +kernel
theorem d_CS_property_62 : decode b_CS_property 62 = .ok (.invokevirtual 63, 3) := by decide +kernel
theorem d_CS_property_65 : decode b_CS_property 65 = .ok (.aload_n 0, 1) := by decide +kernel
theorem d_CS_property_66 : decode b_CS_property 66 = .ok (.aload_n 0, 1) := by decide +kernel
theorem d_CS_property_67 : decode b_CS_property 67 = .ok (.getfield 41, 3) := by decide +kernel
theorem d_CS_property_70 : decode b_CS_property 70 = .ok (.iload_n 1, 1) := by decide +kernel
theorem d_CS_property_71 : decode b_CS_property 71 = .ok (.aaload, 1) := by decide +kernel
theorem d_CS_property_72 : decode b_CS_property 72 = .ok (.iload_n 3, 1) := by decide +kernel
theorem d_CS_property_73 : decode b_CS_property 73 = .ok (.invokevirtual 67, 3) := by decide +kernel
theorem d_CS_property_76 : decode b_CS_property 76 = .ok (.ireturn, 1) := by decide +kernel
theorem d_CS_named_0 : decode b_CS_named 0 = .ok (.iload_n 1, 1) := by decide +kernel
theorem d_CS_named_1 : decode b_CS_named 1 = .ok (.invokestatic 45, 3) := by decide +kernel
theorem d_CS_named_4 : decode b_CS_named 4 = .ok (.ifCond .eq 13, 3) := by decide +kernel
theorem d_CS_named_7 : decode b_CS_named 7 = .ok (.iload_n 2, 1) := by decide +kernel
theorem d_CS_named_8 : decode b_CS_named 8 = .ok (.ifCond .lt 9, 3) := by decide +kernel
theorem d_CS_named_11 : decode b_CS_named 11 = .ok (.iload_n 2, 1) := by decide +kernel
theorem d_CS_named_12 : decode b_CS_named 12 = .ok (.bipush 18, 2) := by decide +kernel
theorem d_CS_named_14 : decode b_CS_named 14 = .ok (.if_icmp .le 6, 3) := by decide +kernel
theorem d_CS_named_17 : decode b_CS_named 17 = .ok (.bipush (-2), 2) := by decide +kernel
theorem d_CS_named_19 : decode b_CS_named 19 = .ok (.ireturn, 1) := by decide +kernel
theorem d_CS_named_20 : decode b_CS_named 20 = .ok (.iload 4, 2) := by decide +kernel
theorem d_CS_named_22 : decode b_CS_named 22 = .ok (.ifCond .eq 19, 3) := by decide +kernel
theorem d_CS_named_25 : decode b_CS_named 25 = .ok (.iload_n 2, 1) := by decide +kernel
theorem d_CS_named_26 : decode b_CS_named 26 = .ok (.bipush 6, 2) := by decide +kernel
theorem d_CS_named_28 : decode b_CS_named 28 = .ok (.if_icmp .eq 9, 3) := by decide +kernel
theorem d_CS_named_31 : decode b_CS_named 31 = .ok (.iload_n 2, 1) := by decide +kernel
theorem d_CS_named_32 : decode b_CS_named 32 = .ok (.bipush 7, 2) := by decide +kernel
theorem d_CS_named_34 : decode b_CS_named 34 = .ok (.if_icmp .ne 7, 3) := by decide +kernel
theorem d_CS_named_37 : decode b_CS_named 37 = .ok (.iconst 1, 1) := by decide +kernel
theorem d_CS_named_38 : decode b_CS_named 38 = .ok (.goto 4, 3) := by decide +kernel
theorem d_CS_named_41 : decode b_CS_named 41 = .ok (.iconst 0, 1) := by decide +kernel
theorem d_CS_named_42 : decode b_CS_named 42 = .ok (.istore 5, 2) := by decide +kernel
theorem d_CS_named_44 : decode b_CS_named 44 = .ok (.aload_n 0, 1) := by decide +kernel
theorem d_CS_named_45 : decode b_CS_named 45 = .ok (.getfield 37, 3) := by decide +kernel
theorem d_CS_named_48 : decode b_CS_named 48 = .ok (.invokevirtual 49, 3) := by decide +kernel
theorem d_CS_named_51 : decode b_CS_named 51 = .ok (.aload_n 0, 1) := by decide +kernel
theorem d_CS_named_52 : decode b_CS_named 52 = .ok (.iload 5, 2) := by decide +kernel
theorem d_CS_named_54 : decode b_CS_named 54 = .ok (.ifCond .eq 7, 3) := by decide +kernel
theorem d_CS_named_57 : decode b_CS_named 57 = .ok (.iconst 5, 1) := by decide +kernel
theorem d_CS_named_58 : decode b_CS_named 58 = .ok (.goto 4, 3) := by decide +kernel
theorem d_CS_named_61 : decode b_CS_named 61 = .ok (.iload_n 2, 1) := by decide +kernel
theorem d_CS_named_62 : decode b_CS_named 62 = .ok (.invokevirtual 71, 3) := by decide +kernel
theorem d_CS_named_65 : decode b_CS_named 65 = .ok (.aload_n 0, 1) := by decide +kernel
theorem d_CS_named_66 : decode b_CS_named 66 = .ok (.aload_n 0, 1) := by decide +kernel
theorem d_CS_named_67 : decode b_CS_named 67 = .ok (.getfield 41, 3) := by decide +kernel
theorem d_CS_named_70 : decode b_CS_named 70 = .ok (.iload_n 1, 1) := by decide +kernel
theorem d_CS_named_71 : decode b_CS_named 71 = .ok (.aaload, 1) := by decide +kernel
theorem d_CS_named_72 : decode b_CS_named 72 = .ok (.iload_n 3, 1) := by decide +kernel
theorem d_CS_named_73 : decode b_CS_named 73 = .ok (.invokevirtual 67, 3) := by decide +kernel
theorem d_CS_named_76 : decode b_CS_named 76 = .ok (.ireturn, 1) := by decide +kernel
theorem d_CS_close_0 : decode b_CS_close 0 = .ok (.iload_n 1, 1) := by decide +kernel
theorem d_CS_close_1 : decode b_CS_close 1 = .ok (.invokestatic 45, 3) := by decide +kernel
theorem d_CS_close_4 : decode b_CS_close 4 = .ok (.ifCond .ne 6, 3) := by decide +kernel
theorem d_CS_close_7 : decode b_CS_close 7 = .ok (.bipush (-2), 2) := by decide +kernel
theorem d_CS_close_9 : decode b_CS_close 9 = .ok (.ireturn, 1) := by decide +kernel
theorem d_CS_close_10 : decode b_CS_close 10 = .ok (.iconst 0, 1) := by decide +kernel
theorem d_CS_close_11 : decode b_CS_close 11 = .ok (.istore_n 2, 1) := by decide +kernel
theorem d_CS_close_12 : decode b_CS_close 12 = .ok (.iconst 0, 1) := by decide +kernel
theorem d_CS_close_13 : decode b_CS_close 13 = .ok (.istore_n 3, 1) := by decide +kernel
theorem d_CS_close_14 : decode b_CS_close 14 = .ok (.iload_n 3, 1) := by decide +kernel
theorem d_CS_close_15 : decode b_CS_close 15 = .ok (.sipush 1122, 3) := by decide +kernel
theorem d_CS_close_18 : decode b_CS_close 18 = .ok (.if_icmp .ge 46, 3) := by decide +kernel
theorem d_CS_close_21 : decode b_CS_close 21 = .ok (.iload_n 3, 1) := by decide +kernel
theorem d_CS_close_22 : decode b_CS_close 22 = .ok (.invokestatic 74, 3) := by decide +kernel
theorem d_CS_close_25 : decode b_CS_close 25 = .ok (.istore 4, 2) := by decide +kernel
theorem d_CS_close_27 : decode b_CS_close 27 = .ok (.aload_n 0, 1) := by decide +kernel
theorem d_CS_close_28 : decode b_CS_close 28 = .ok (.aload_n 0, 1) := by decide +kernel
theorem d_CS_close_29 : decode b_CS_close 29 = .ok (.getfield 41, 3) := by decide +kernel
theorem d_CS_close_32 : decode b_CS_close 32 = .ok (.iload_n 1, 1) := by decide +kernel
theorem d_CS_close_33 : decode b_CS_close 33 = .ok (.aaload, 1) := by decide +kernel
theorem d_CS_close_34 : decode b_CS_close 34 = .ok (.iload 4, 2) := by decide +kernel
theorem d_CS_close_36 : decode b_CS_close 36 = .ok (.invokevirtual 78, 3) := by decide +kernel
theorem d_CS_close_39 : decode b_CS_close 39 = .ok (.ifCond .eq 19, 3) := by decide +kernel
theorem d_CS_close_42 : decode b_CS_close 42 = .ok (.aload_n 0, 1) := by decide +kernel
theorem d_CS_close_43 : decode b_CS_close 43 = .ok (.getfield 41, 3) := by decide +kernel
theorem d_CS_close_46 : decode b_CS_close 46 = .ok (.iload_n 1, 1) := by decide +kernel
theorem d_CS_close_47 : decode b_CS_close 47 = .ok (.aaload, 1) := by decide +kernel
theorem d_CS_close_48 : decode b_CS_close 48 = .ok (.iload 4, 2) := by decide +kernel
theorem d_CS_close_50 : decode b_CS_close 50 = .ok (.iload 4, 2) := by decide +kernel
theorem d_CS_close_52 : decode b_CS_close 52 = .ok (.invokevirtual 55, 3) := by decide +kernel
theorem d_CS_close_55 : decode b_CS_close 55 = .ok (.iinc 2 1, 3) := by decide +kernel
theorem d_CS_close_58 : decode b_CS_close 58 = .ok (.iinc 3 1, 3) := by decide +kernel
theorem d_CS_close_61 : decode b_CS_close 61 = .ok (.goto (-47), 3) := by decide +kernel
theorem d_CS_close_64 : decode b_CS_close 64 = .ok (.iload_n 2, 1) := by decide +kernel
theorem d_CS_close_65 : decode b_CS_close 65 = .ok (.ireturn, 1) := by decide +kernel
theorem d_CS_invert_0 : decode b_CS_invert 0 = .ok (.iload_n 1, 1) := by decide +kernel
theorem d_CS_invert_1 : decode b_CS_invert 1 = .ok (.invokestatic 45, 3) := by decide +kernel
theorem d_CS_invert_4 : decode b_CS_invert 4 = .ok (.ifCond .ne 6, 3) := by decide +kernel
theorem d_CS_invert_7 : decode b_CS_invert 7 = .ok (.bipush (-2), 2) := by decide +kernel
theorem d_CS_invert_9 : decode b_CS_invert 9 = .ok (.ireturn, 1) := by decide +kernel
theorem d_CS_invert_10 : decode b_CS_invert 10 = .ok (.aload_n 0, 1) := by decide +kernel
theorem d_CS_invert_11 : decode b_CS_invert 11 = .ok (.getfield 41, 3) := by decide +kernel
theorem d_CS_invert_14 : decode b_CS_invert 14 = .ok (.iload_n 1, 1) := by decide +kernel
theorem d_CS_invert_15 : decode b_CS_invert 15 = .ok (.aaload, 1) := by decide +kernel
theorem d_CS_invert_16 : decode b_CS_invert 16 = .ok (.aload_n 0, 1) := by decide +kernel
theorem d_CS_invert_17 : decode b_CS_invert 17 = .ok (.getfield 14, 3) := by decide +kernel
theorem d_CS_invert_20 : decode b_CS_invert 20 = .ok (.invokevirtual 82, 3) := by decide +kernel
theorem d_CS_invert_23 : decode b_CS_invert 23 = .ok (.aload_n 0, 1) := by decide +kernel
theorem d_CS_invert_24 : decode b_CS_invert 24 = .ok (.getfield 41, 3) := by decide +kernel
theorem d_CS_invert_27 : decode b_CS_invert 27 = .ok (.iload_n 1, 1) := by decide +kernel
theorem d_CS_invert_28 : decode b_CS_invert 28 = .ok (.aaload, 1) := by decide +kernel
theorem d_CS_invert_29 : decode b_CS_invert 29 = .ok (.invokevirtual 59, 3) := by decide +kernel
theorem d_CS_invert_32 : decode b_CS_invert 32 = .ok (.ireturn, 1) := by decide +kernel
theorem d_CS_join_0 : decode b_CS_join 0 = .ok (.iload_n 1, 1) := by decide +kernel
theorem d_CS_join_1 : decode b_CS_join 1 = .ok (.invokestatic 45, 3) := by decide +kernel
theorem d_CS_join_4 : decode b_CS_join 4 = .ok (.ifCond .eq 10, 3) := by decide +kernel
theorem d_CS_join_7 : decode b_CS_join 7 = .ok (.iload_n 2, 1) := by decide +kernel
theorem d_CS_join_8 : decode b_CS_join 8 = .ok (.invokestatic 45, 3) := by decide +kernel
theorem d_CS_join_11 : decode b_CS_join 11 = .ok (.ifCond .ne 6, 3) := by decide +kernel
theorem d_CS_join_14 : decode b_CS_join 14 = .ok (.bipush (-2), 2) := by decide +kernel
theorem d_CS_join_16 : decode b_CS_join 16 = .ok (.ireturn, 1) := by decide +kernel
theorem d_CS_join_17 : decode b_CS_join 17 = .ok (.aload_n 0, 1) := by decide +kernel
theorem d_CS_join_18 : decode b_CS_join 18 = .ok (.getfield 41, 3) := by decide +kernel
theorem d_CS_join_21 : decode b_CS_join 21 = .ok (.iload_n 1, 1) := by decide +kernel
theorem d_CS_join_22 : decode b_CS_join 22 = .ok (.aaload, 1) := by decide +kernel
theorem d_CS_join_23 : decode b_CS_join 23 = .ok (.aload_n 0, 1) := by decide +kernel
theorem d_CS_join_24 : decode b_CS_join 24 = .ok (.getfield 41, 3) := by decide +kernel
theorem d_CS_join_27 : decode b_CS_join 27 = .ok (.iload_n 2, 1) := by decide +kernel
theorem d_CS_join_28 : decode b_CS_join 28 = .ok (.aaload, 1) := by decide +kernel
theorem d_CS_join_29 : decode b_CS_join 29 = .ok (.invokevirtual 85, 3) := by decide +kernel
theorem d_CS_join_32 : decode b_CS_join 32 = .ok (.aload_n 0, 1) := by decide +kernel
theorem d_CS_join_33 : decode b_CS_join 33 = .ok (.getfield 41, 3) := by decide +kernel
theorem d_CS_join_36 : decode b_CS_join 36 = .ok (.iload_n 1, 1) := by decide +kernel
theorem d_CS_join_37 : decode b_CS_join 37 = .ok (.aaload, 1) := by decide +kernel
theorem d_CS_join_38 : decode b_CS_join 38 = .ok (.invokevirtual 59, 3) := by decide +kernel
theorem d_CS_join_41 : decode b_CS_join 41 = .ok (.ireturn, 1) := by decide +kernel
theorem d_CS_meets_0 : decode b_CS_meets 0 = .ok (.iload_n 1, 1) := by decide +kernel
theorem d_CS_meets_1 : decode b_CS_meets 1 = .ok (.invokestatic 45, 3) := by decide +kernel
theorem d_CS_meets_4 : decode b_CS_meets 4 = .ok (.ifCond .eq 10, 3) := by decide +kernel
theorem d_CS_meets_7 : decode b_CS_meets 7 = .ok (.iload_n 2, 1) := by decide +kernel
theorem d_CS_meets_8 : decode b_CS_meets 8 = .ok (.invokestatic 45, 3) := by decide +kernel
theorem d_CS_meets_11 : decode b_CS_meets 11 = .ok (.ifCond .ne 6, 3) := by decide +kernel
theorem d_CS_meets_14 : decode b_CS_meets 14 = .ok (.bipush (-2), 2) := by decide +kernel
theorem d_CS_meets_16 : decode b_CS_meets 16 = .ok (.ireturn, 1) := by decide +kernel
theorem d_CS_meets_17 : decode b_CS_meets 17 = .ok (.aload_n 0, 1) := by decide +kernel
theorem d_CS_meets_18 : decode b_CS_meets 18 = .ok (.getfield 41, 3) := by decide +kernel
theorem d_CS_meets_21 : decode b_CS_meets 21 = .ok (.iload_n 1, 1) := by decide +kernel
theorem d_CS_meets_22 : decode b_CS_meets 22 = .ok (.aaload, 1) := by decide +kernel
theorem d_CS_meets_23 : decode b_CS_meets 23 = .ok (.aload_n 0, 1) := by decide +kernel
theorem d_CS_meets_24 : decode b_CS_meets 24 = .ok (.getfield 41, 3) := by decide +kernel
theorem d_CS_meets_27 : decode b_CS_meets 27 = .ok (.iload_n 2, 1) := by decide +kernel
theorem d_CS_meets_28 : decode b_CS_meets 28 = .ok (.aaload, 1) := by decide +kernel
theorem d_CS_meets_29 : decode b_CS_meets 29 = .ok (.invokevirtual 89, 3) := by decide +kernel
theorem d_CS_meets_32 : decode b_CS_meets 32 = .ok (.ifCond .eq 7, 3) := by decide +kernel
theorem d_CS_meets_35 : decode b_CS_meets 35 = .ok (.iconst 1, 1) := by decide +kernel
theorem d_CS_meets_36 : decode b_CS_meets 36 = .ok (.goto 4, 3) := by decide +kernel
theorem d_CS_meets_39 : decode b_CS_meets 39 = .ok (.iconst 0, 1) := by decide +kernel
theorem d_CS_meets_40 : decode b_CS_meets 40 = .ok (.ireturn, 1) := by decide +kernel
theorem d_CS_same_0 : decode b_CS_same 0 = .ok (.iload_n 1, 1) := by decide +kernel
theorem d_CS_same_1 : decode b_CS_same 1 = .ok (.invokestatic 45, 3) := by decide +kernel
theorem d_CS_same_4 : decode b_CS_same 4 = .ok (.ifCond .eq 10, 3) := by decide +kernel
theorem d_CS_same_7 : decode b_CS_same 7 = .ok (.iload_n 2, 1) := by decide +kernel
theorem d_CS_same_8 : decode b_CS_same 8 = .ok (.invokestatic 45, 3) := by decide +kernel
theorem d_CS_same_11 : decode b_CS_same 11 = .ok (.ifCond .ne 6, 3) := by decide +kernel
theorem d_CS_same_14 : decode b_CS_same 14 = .ok (.bipush (-2), 2) := by decide +kernel
theorem d_CS_same_16 : decode b_CS_same 16 = .ok (.ireturn, 1) := by decide +kernel
theorem d_CS_same_17 : decode b_CS_same 17 = .ok (.aload_n 0, 1) := by decide +kernel
theorem d_CS_same_18 : decode b_CS_same 18 = .ok (.getfield 41, 3) := by decide +kernel
theorem d_CS_same_21 : decode b_CS_same 21 = .ok (.iload_n 1, 1) := by decide +kernel
theorem d_CS_same_22 : decode b_CS_same 22 = .ok (.aaload, 1) := by decide +kernel
theorem d_CS_same_23 : decode b_CS_same 23 = .ok (.aload_n 0, 1) := by decide +kernel
theorem d_CS_same_24 : decode b_CS_same 24 = .ok (.getfield 41, 3) := by decide +kernel
theorem d_CS_same_27 : decode b_CS_same 27 = .ok (.iload_n 2, 1) := by decide +kernel
theorem d_CS_same_28 : decode b_CS_same 28 = .ok (.aaload, 1) := by decide +kernel
theorem d_CS_same_29 : decode b_CS_same 29 = .ok (.invokevirtual 93, 3) := by decide +kernel
theorem d_CS_same_32 : decode b_CS_same 32 = .ok (.ifCond .eq 7, 3) := by decide +kernel
theorem d_CS_same_35 : decode b_CS_same 35 = .ok (.iconst 1, 1) := by decide +kernel
theorem d_CS_same_36 : decode b_CS_same 36 = .ok (.goto 4, 3) := by decide +kernel
theorem d_CS_same_39 : decode b_CS_same 39 = .ok (.iconst 0, 1) := by decide +kernel
theorem d_CS_same_40 : decode b_CS_same 40 = .ok (.ireturn, 1) := by decide +kernel
theorem d_CS_has_0 : decode b_CS_has 0 = .ok (.iload_n 1, 1) := by decide +kernel
theorem d_CS_has_1 : decode b_CS_has 1 = .ok (.invokestatic 45, 3) := by decide +kernel
theorem d_CS_has_4 : decode b_CS_has 4 = .ok (.ifCond .ne 6, 3) := by decide +kernel
theorem d_CS_has_7 : decode b_CS_has 7 = .ok (.bipush (-2), 2) := by decide +kernel
theorem d_CS_has_9 : decode b_CS_has 9 = .ok (.ireturn, 1) := by decide +kernel
theorem d_CS_has_10 : decode b_CS_has 10 = .ok (.aload_n 0, 1) := by decide +kernel
theorem d_CS_has_11 : decode b_CS_has 11 = .ok (.getfield 41, 3) := by decide +kernel
theorem d_CS_has_14 : decode b_CS_has 14 = .ok (.iload_n 1, 1) := by decide +kernel
theorem d_CS_has_15 : decode b_CS_has 15 = .ok (.aaload, 1) := by decide +kernel
theorem d_CS_has_16 : decode b_CS_has 16 = .ok (.iload_n 2, 1) := by decide +kernel
theorem d_CS_has_17 : decode b_CS_has 17 = .ok (.invokevirtual 96, 3) := by decide +kernel
theorem d_CS_has_20 : decode b_CS_has 20 = .ok (.ifCond .eq 7, 3) := by decide +kernel
theorem d_CS_has_23 : decode b_CS_has 23 = .ok (.iconst 1, 1) := by decide +kernel
theorem d_CS_has_24 : decode b_CS_has 24 = .ok (.goto 4, 3) := by decide +kernel
theorem d_CS_has_27 : decode b_CS_has 27 = .ok (.iconst 0, 1) := by decide +kernel
theorem d_CS_has_28 : decode b_CS_has 28 = .ok (.ireturn, 1) := by decide +kernel
theorem d_CS_size_0 : decode b_CS_size 0 = .ok (.iload_n 1, 1) := by decide +kernel
theorem d_CS_size_1 : decode b_CS_size 1 = .ok (.invokestatic 45, 3) := by decide +kernel
theorem d_CS_size_4 : decode b_CS_size 4 = .ok (.ifCond .ne 6, 3) := by decide +kernel
theorem d_CS_size_7 : decode b_CS_size 7 = .ok (.bipush (-2), 2) := by decide +kernel
theorem d_CS_size_9 : decode b_CS_size 9 = .ok (.ireturn, 1) := by decide +kernel
theorem d_CS_size_10 : decode b_CS_size 10 = .ok (.aload_n 0, 1) := by decide +kernel
theorem d_CS_size_11 : decode b_CS_size 11 = .ok (.getfield 41, 3) := by decide +kernel
theorem d_CS_size_14 : decode b_CS_size 14 = .ok (.iload_n 1, 1) := by decide +kernel
theorem d_CS_size_15 : decode b_CS_size 15 = .ok (.aaload, 1) := by decide +kernel
theorem d_CS_size_16 : decode b_CS_size 16 = .ok (.invokevirtual 99, 3) := by decide +kernel
theorem d_CS_size_19 : decode b_CS_size 19 = .ok (.ireturn, 1) := by decide +kernel
theorem d_CS_least_0 : decode b_CS_least 0 = .ok (.iload_n 1, 1) := by decide +kernel
theorem d_CS_least_1 : decode b_CS_least 1 = .ok (.invokestatic 45, 3) := by decide +kernel
theorem d_CS_least_4 : decode b_CS_least 4 = .ok (.ifCond .ne 6, 3) := by decide +kernel
theorem d_CS_least_7 : decode b_CS_least 7 = .ok (.bipush (-2), 2) := by decide +kernel
theorem d_CS_least_9 : decode b_CS_least 9 = .ok (.ireturn, 1) := by decide +kernel
theorem d_CS_least_10 : decode b_CS_least 10 = .ok (.aload_n 0, 1) := by decide +kernel
theorem d_CS_least_11 : decode b_CS_least 11 = .ok (.getfield 41, 3) := by decide +kernel
theorem d_CS_least_14 : decode b_CS_least 14 = .ok (.iload_n 1, 1) := by decide +kernel
theorem d_CS_least_15 : decode b_CS_least 15 = .ok (.aaload, 1) := by decide +kernel
theorem d_CS_least_16 : decode b_CS_least 16 = .ok (.iload_n 2, 1) := by decide +kernel
theorem d_CS_least_17 : decode b_CS_least 17 = .ok (.invokevirtual 102, 3) := by decide +kernel
theorem d_CS_least_20 : decode b_CS_least 20 = .ok (.ireturn, 1) := by decide +kernel
theorem d_CS_bound_0 : decode b_CS_bound 0 = .ok (.iload_n 1, 1) := by decide +kernel
theorem d_CS_bound_1 : decode b_CS_bound 1 = .ok (.invokestatic 45, 3) := by decide +kernel
theorem d_CS_bound_4 : decode b_CS_bound 4 = .ok (.ifCond .eq 20, 3) := by decide +kernel
theorem d_CS_bound_7 : decode b_CS_bound 7 = .ok (.iload_n 2, 1) := by decide +kernel
theorem d_CS_bound_8 : decode b_CS_bound 8 = .ok (.ifCond .lt 16, 3) := by decide +kernel
theorem d_CS_bound_11 : decode b_CS_bound 11 = .ok (.iload_n 2, 1) := by decide +kernel
theorem d_CS_bound_12 : decode b_CS_bound 12 = .ok (.aload_n 0, 1) := by decide +kernel
theorem d_CS_bound_13 : decode b_CS_bound 13 = .ok (.getfield 41, 3) := by decide +kernel
theorem d_CS_bound_16 : decode b_CS_bound 16 = .ok (.iload_n 1, 1) := by decide +kernel
theorem d_CS_bound_17 : decode b_CS_bound 17 = .ok (.aaload, 1) := by decide +kernel
theorem d_CS_bound_18 : decode b_CS_bound 18 = .ok (.invokevirtual 59, 3) := by decide +kernel
theorem d_CS_bound_21 : decode b_CS_bound 21 = .ok (.if_icmp .lt 6, 3) := by decide +kernel
theorem d_CS_bound_24 : decode b_CS_bound 24 = .ok (.bipush (-2), 2) := by decide +kernel
theorem d_CS_bound_26 : decode b_CS_bound 26 = .ok (.ireturn, 1) := by decide +kernel
theorem d_CS_bound_27 : decode b_CS_bound 27 = .ok (.iload_n 3, 1) := by decide +kernel
theorem d_CS_bound_28 : decode b_CS_bound 28 = .ok (.ifCond .eq 16, 3) := by decide +kernel
theorem d_CS_bound_31 : decode b_CS_bound 31 = .ok (.aload_n 0, 1) := by decide +kernel
theorem d_CS_bound_32 : decode b_CS_bound 32 = .ok (.getfield 41, 3) := by decide +kernel
theorem d_CS_bound_35 : decode b_CS_bound 35 = .ok (.iload_n 1, 1) := by decide +kernel
theorem d_CS_bound_36 : decode b_CS_bound 36 = .ok (.aaload, 1) := by decide +kernel
theorem d_CS_bound_37 : decode b_CS_bound 37 = .ok (.iload_n 2, 1) := by decide +kernel
theorem d_CS_bound_38 : decode b_CS_bound 38 = .ok (.invokevirtual 105, 3) := by decide +kernel
theorem d_CS_bound_41 : decode b_CS_bound 41 = .ok (.goto 13, 3) := by decide +kernel
theorem d_CS_bound_44 : decode b_CS_bound 44 = .ok (.aload_n 0, 1) := by decide +kernel
theorem d_CS_bound_45 : decode b_CS_bound 45 = .ok (.getfield 41, 3) := by decide +kernel
theorem d_CS_bound_48 : decode b_CS_bound 48 = .ok (.iload_n 1, 1) := by decide +kernel
theorem d_CS_bound_49 : decode b_CS_bound 49 = .ok (.aaload, 1) := by decide +kernel
theorem d_CS_bound_50 : decode b_CS_bound 50 = .ok (.iload_n 2, 1) := by decide +kernel
theorem d_CS_bound_51 : decode b_CS_bound 51 = .ok (.invokevirtual 108, 3) := by decide +kernel
theorem d_CS_bound_54 : decode b_CS_bound 54 = .ok (.ireturn, 1) := by decide +kernel
theorem d_CS_about_0 : decode b_CS_about 0 = .ok (.iload_n 1, 1) := by decide +kernel
theorem d_CS_about_1 : decode b_CS_about 1 = .ok (.ifCond .lt 18, 3) := by decide +kernel
theorem d_CS_about_4 : decode b_CS_about 4 = .ok (.iload_n 1, 1) := by decide +kernel
theorem d_CS_about_5 : decode b_CS_about 5 = .ok (.ldc 13, 2) := by decide +kernel
theorem d_CS_about_7 : decode b_CS_about 7 = .ok (.if_icmp .gt 12, 3) := by decide +kernel
theorem d_CS_about_10 : decode b_CS_about 10 = .ok (.iload_n 2, 1) := by decide +kernel
theorem d_CS_about_11 : decode b_CS_about 11 = .ok (.ifCond .lt 8, 3) := by decide +kernel
theorem d_CS_about_14 : decode b_CS_about 14 = .ok (.iload_n 2, 1) := by decide +kernel
theorem d_CS_about_15 : decode b_CS_about 15 = .ok (.iconst 4, 1) := by decide +kernel
theorem d_CS_about_16 : decode b_CS_about 16 = .ok (.if_icmp .le 6, 3) := by decide +kernel
theorem d_CS_about_19 : decode b_CS_about 19 = .ok (.bipush (-2), 2) := by decide +kernel
theorem d_CS_about_21 : decode b_CS_about 21 = .ok (.ireturn, 1) := by decide +kernel
theorem d_CS_about_22 : decode b_CS_about 22 = .ok (.iload_n 2, 1) := by decide +kernel
theorem d_CS_about_23 : decode b_CS_about 23 = .ok (.ifCond .ne 12, 3) := by decide +kernel
theorem d_CS_about_26 : decode b_CS_about 26 = .ok (.aload_n 0, 1) := by decide +kernel
theorem d_CS_about_27 : decode b_CS_about 27 = .ok (.getfield 21, 3) := by decide +kernel
theorem d_CS_about_30 : decode b_CS_about 30 = .ok (.iload_n 1, 1) := by decide +kernel
theorem d_CS_about_31 : decode b_CS_about 31 = .ok (.invokevirtual 111, 3) := by decide +kernel
theorem d_CS_about_34 : decode b_CS_about 34 = .ok (.ireturn, 1) := by decide +kernel
theorem d_CS_about_35 : decode b_CS_about 35 = .ok (.iload_n 2, 1) := by decide +kernel
theorem d_CS_about_36 : decode b_CS_about 36 = .ok (.iconst 1, 1) := by decide +kernel
theorem d_CS_about_37 : decode b_CS_about 37 = .ok (.if_icmp .ne 12, 3) := by decide +kernel
theorem d_CS_about_40 : decode b_CS_about 40 = .ok (.aload_n 0, 1) := by decide +kernel
theorem d_CS_about_41 : decode b_CS_about 41 = .ok (.getfield 21, 3) := by decide +kernel
theorem d_CS_about_44 : decode b_CS_about 44 = .ok (.iload_n 1, 1) := by decide +kernel
theorem d_CS_about_45 : decode b_CS_about 45 = .ok (.invokevirtual 114, 3) := by decide +kernel
theorem d_CS_about_48 : decode b_CS_about 48 = .ok (.ireturn, 1) := by decide +kernel
theorem d_CS_about_49 : decode b_CS_about 49 = .ok (.aload_n 0, 1) := by decide +kernel
theorem d_CS_about_50 : decode b_CS_about 50 = .ok (.iload_n 1, 1) := by decide +kernel
theorem d_CS_about_51 : decode b_CS_about 51 = .ok (.invokevirtual 52, 3) := by decide +kernel
theorem d_CS_about_54 : decode b_CS_about 54 = .ok (.ifCond .ne 6, 3) := by decide +kernel
theorem d_CS_about_57 : decode b_CS_about 57 = .ok (.bipush (-2), 2) := by decide +kernel
theorem d_CS_about_59 : decode b_CS_about 59 = .ok (.ireturn, 1) := by decide +kernel
theorem d_CS_about_60 : decode b_CS_about 60 = .ok (.iload_n 2, 1) := by decide +kernel
theorem d_CS_about_61 : decode b_CS_about 61 = .ok (.iconst 2, 1) := by decide +kernel
theorem d_CS_about_62 : decode b_CS_about 62 = .ok (.if_icmp .ne 9, 3) := by decide +kernel
theorem d_CS_about_65 : decode b_CS_about 65 = .ok (.aload_n 0, 1) := by decide +kernel
theorem d_CS_about_66 : decode b_CS_about 66 = .ok (.iload_n 1, 1) := by decide +kernel
theorem d_CS_about_67 : decode b_CS_about 67 = .ok (.invokevirtual 117, 3) := by decide +kernel
theorem d_CS_about_70 : decode b_CS_about 70 = .ok (.ireturn, 1) := by decide +kernel
theorem d_CS_about_71 : decode b_CS_about 71 = .ok (.iload_n 2, 1) := by decide +kernel
theorem d_CS_about_72 : decode b_CS_about 72 = .ok (.iconst 3, 1) := by decide +kernel
theorem d_CS_about_73 : decode b_CS_about 73 = .ok (.if_icmp .ne 11, 3) := by decide +kernel
theorem d_CS_about_76 : decode b_CS_about 76 = .ok (.aload_n 0, 1) := by decide +kernel
theorem d_CS_about_77 : decode b_CS_about 77 = .ok (.iload_n 1, 1) := by decide +kernel
theorem d_CS_about_78 : decode b_CS_about 78 = .ok (.invokevirtual 120, 3) := by decide +kernel
theorem d_CS_about_81 : decode b_CS_about 81 = .ok (.goto 11, 3) := by decide +kernel
theorem d_CS_about_84 : decode b_CS_about 84 = .ok (.aload_n 0, 1) := by decide +kernel
theorem d_CS_about_85 : decode b_CS_about 85 = .ok (.getfield 30, 3) := by decide +kernel
theorem d_CS_about_88 : decode b_CS_about 88 = .ok (.iload_n 1, 1) := by decide +kernel
theorem d_CS_about_89 : decode b_CS_about 89 = .ok (.invokevirtual 123, 3) := by decide +kernel
theorem d_CS_about_92 : decode b_CS_about 92 = .ok (.ireturn, 1) := by decide +kernel
theorem d_CS_isSet_0 : decode b_CS_isSet 0 = .ok (.iload_n 0, 1) := by decide +kernel
theorem d_CS_isSet_1 : decode b_CS_isSet 1 = .ok (.ifCond .lt 13, 3) := by decide +kernel
theorem d_CS_isSet_4 : decode b_CS_isSet 4 = .ok (.iload_n 0, 1) := by decide +kernel
theorem d_CS_isSet_5 : decode b_CS_isSet 5 = .ok (.bipush 8, 2) := by decide +kernel
theorem d_CS_isSet_7 : decode b_CS_isSet 7 = .ok (.if_icmp .ge 7, 3) := by decide +kernel
theorem d_CS_isSet_10 : decode b_CS_isSet 10 = .ok (.iconst 1, 1) := by decide +kernel
theorem d_CS_isSet_11 : decode b_CS_isSet 11 = .ok (.goto 4, 3) := by decide +kernel
theorem d_CS_isSet_14 : decode b_CS_isSet 14 = .ok (.iconst 0, 1) := by decide +kernel
theorem d_CS_isSet_15 : decode b_CS_isSet 15 = .ok (.ireturn, 1) := by decide +kernel
theorem d_CS_isThere_0 : decode b_CS_isThere 0 = .ok (.iload_n 1, 1) := by decide +kernel
theorem d_CS_isThere_1 : decode b_CS_isThere 1 = .ok (.ifCond .lt 15, 3) := by decide +kernel
theorem d_CS_isThere_4 : decode b_CS_isThere 4 = .ok (.iload_n 1, 1) := by decide +kernel
theorem d_CS_isThere_5 : decode b_CS_isThere 5 = .ok (.aload_n 0, 1) := by decide +kernel
theorem d_CS_isThere_6 : decode b_CS_isThere 6 = .ok (.getfield 14, 3) := by decide +kernel
theorem d_CS_isThere_9 : decode b_CS_isThere 9 = .ok (.if_icmp .gt 7, 3) := by decide +kernel
theorem d_CS_isThere_12 : decode b_CS_isThere 12 = .ok (.iconst 1, 1) := by decide +kernel
theorem d_CS_isThere_13 : decode b_CS_isThere 13 = .ok (.goto 4, 3) := by decide +kernel
theorem d_CS_isThere_16 : decode b_CS_isThere 16 = .ok (.iconst 0, 1) := by decide +kernel
theorem d_CS_isThere_17 : decode b_CS_isThere 17 = .ok (.ireturn, 1) := by decide +kernel
theorem d_CS_isMissing_0 : decode b_CS_isMissing 0 = .ok (.aload_n 0, 1) := by decide +kernel
theorem d_CS_isMissing_1 : decode b_CS_isMissing 1 = .ok (.getfield 30, 3) := by decide +kernel
theorem d_CS_isMissing_4 : decode b_CS_isMissing 4 = .ok (.iload_n 2, 1) := by decide +kernel
theorem d_CS_isMissing_5 : decode b_CS_isMissing 5 = .ok (.invokevirtual 123, 3) := by decide +kernel
theorem d_CS_isMissing_8 : decode b_CS_isMissing 8 = .ok (.istore_n 3, 1) := by decide +kernel
theorem d_CS_isMissing_9 : decode b_CS_isMissing 9 = .ok (.iload_n 3, 1) := by decide +kernel
theorem d_CS_isMissing_10 : decode b_CS_isMissing 10 = .ok (.iload_n 2, 1) := by decide +kernel
theorem d_CS_isMissing_11 : decode b_CS_isMissing 11 = .ok (.if_icmp .eq 11, 3) := by decide +kernel
theorem d_CS_isMissing_14 : decode b_CS_isMissing 14 = .ok (.aload_n 1, 1) := by decide +kernel
theorem d_CS_isMissing_15 : decode b_CS_isMissing 15 = .ok (.iload_n 2, 1) := by decide +kernel
theorem d_CS_isMissing_16 : decode b_CS_isMissing 16 = .ok (.invokevirtual 96, 3) := by decide +kernel
theorem d_CS_isMissing_19 : decode b_CS_isMissing 19 = .ok (.ifCond .eq 5, 3) := by decide +kernel
theorem d_CS_isMissing_22 : decode b_CS_isMissing 22 = .ok (.iconst 0, 1) := by decide +kernel
theorem d_CS_isMissing_23 : decode b_CS_isMissing 23 = .ok (.ireturn, 1) := by decide +kernel
theorem d_CS_isMissing_24 : decode b_CS_isMissing 24 = .ok (.aload_n 1, 1) := by decide +kernel
theorem d_CS_isMissing_25 : decode b_CS_isMissing 25 = .ok (.iload_n 3, 1) := by decide +kernel
theorem d_CS_isMissing_26 : decode b_CS_isMissing 26 = .ok (.invokevirtual 96, 3) := by decide +kernel
theorem d_CS_isMissing_29 : decode b_CS_isMissing 29 = .ok (.ifCond .ne 18, 3) := by decide +kernel
theorem d_CS_isMissing_32 : decode b_CS_isMissing 32 = .ok (.aload_n 1, 1) := by decide +kernel
theorem d_CS_isMissing_33 : decode b_CS_isMissing 33 = .ok (.aload_n 0, 1) := by decide +kernel
theorem d_CS_isMissing_34 : decode b_CS_isMissing 34 = .ok (.getfield 30, 3) := by decide +kernel
theorem d_CS_isMissing_37 : decode b_CS_isMissing 37 = .ok (.iload_n 3, 1) := by decide +kernel
theorem d_CS_isMissing_38 : decode b_CS_isMissing 38 = .ok (.invokevirtual 123, 3) := by decide +kernel
theorem d_CS_isMissing_41 : decode b_CS_isMissing 41 = .ok (.invokevirtual 96, 3) := by decide +kernel
theorem d_CS_isMissing_44 : decode b_CS_isMissing 44 = .ok (.ifCond .eq 7, 3) := by decide +kernel
theorem d_CS_isMissing_47 : decode b_CS_isMissing 47 = .ok (.iconst 1, 1) := by decide +kernel
theorem d_CS_isMissing_48 : decode b_CS_isMissing 48 = .ok (.goto 4, 3) := by decide +kernel
theorem d_CS_isMissing_51 : decode b_CS_isMissing 51 = .ok (.iconst 0, 1) := by decide +kernel
theorem d_CS_isMissing_52 : decode b_CS_isMissing 52 = .ok (.ireturn, 1) := by decide +kernel
theorem d_CS_upperOf_0 : decode b_CS_upperOf 0 = .ok (.aload_n 0, 1) := by decide +kernel
theorem d_CS_upperOf_1 : decode b_CS_upperOf 1 = .ok (.getfield 21, 3) := by decide +kernel
theorem d_CS_upperOf_4 : decode b_CS_upperOf 4 = .ok (.iload_n 1, 1) := by decide +kernel
theorem d_CS_upperOf_5 : decode b_CS_upperOf 5 = .ok (.invokevirtual 111, 3) := by decide +kernel
theorem d_CS_upperOf_8 : decode b_CS_upperOf 8 = .ok (.iconst 4, 1) := by decide +kernel
theorem d_CS_upperOf_9 : decode b_CS_upperOf 9 = .ok (.if_icmp .eq 5, 3) := by decide +kernel
theorem d_CS_upperOf_12 : decode b_CS_upperOf 12 = .ok (.iload_n 1, 1) := by decide +kernel
theorem d_CS_upperOf_13 : decode b_CS_upperOf 13 = .ok (.ireturn, 1) := by decide +kernel
theorem d_CS_upperOf_14 : decode b_CS_upperOf 14 = .ok (.iload_n 1, 1) := by decide +kernel
theorem d_CS_upperOf_15 : decode b_CS_upperOf 15 = .ok (.istore_n 2, 1) := by decide +kernel
theorem d_CS_upperOf_16 : decode b_CS_upperOf 16 = .ok (.iload_n 1, 1) := by decide +kernel
theorem d_CS_upperOf_17 : decode b_CS_upperOf 17 = .ok (.istore_n 3, 1) := by decide +kernel
theorem d_CS_upperOf_18 : decode b_CS_upperOf 18 = .ok (.iconst 1, 1) := by decide +kernel
theorem d_CS_upperOf_19 : decode b_CS_upperOf 19 = .ok (.istore 4, 2) := by decide +kernel
theorem d_CS_upperOf_21 : decode b_CS_upperOf 21 = .ok (.iload 4, 2) := by decide +kernel
theorem d_CS_upperOf_23 : decode b_CS_upperOf 23 = .ok (.iconst 3, 1) := by decide +kernel
theorem d_CS_upperOf_24 : decode b_CS_upperOf 24 = .ok (.if_icmp .ge 55, 3) := by decide +kernel
theorem d_CS_upperOf_27 : decode b_CS_upperOf 27 = .ok (.aload_n 0, 1) := by decide +kernel
theorem d_CS_upperOf_28 : decode b_CS_upperOf 28 = .ok (.getfield 30, 3) := by decide +kernel
theorem d_CS_upperOf_31 : decode b_CS_upperOf 31 = .ok (.iload_n 3, 1) := by decide +kernel
theorem d_CS_upperOf_32 : decode b_CS_upperOf 32 = .ok (.invokevirtual 123, 3) := by decide +kernel
theorem d_CS_upperOf_35 : decode b_CS_upperOf 35 = .ok (.istore_n 3, 1) := by decide +kernel
theorem d_CS_upperOf_36 : decode b_CS_upperOf 36 = .ok (.iload_n 2, 1) := by decide +kernel
theorem d_CS_upperOf_37 : decode b_CS_upperOf 37 = .ok (.iload_n 1, 1) := by decide +kernel
theorem d_CS_upperOf_38 : decode b_CS_upperOf 38 = .ok (.if_icmp .eq 8, 3) := by decide +kernel
theorem d_CS_upperOf_41 : decode b_CS_upperOf 41 = .ok (.iload_n 3, 1) := by decide +kernel
theorem d_CS_upperOf_42 : decode b_CS_upperOf 42 = .ok (.iload_n 2, 1) := by decide +kernel
theorem d_CS_upperOf_43 : decode b_CS_upperOf 43 = .ok (.if_icmp .ge 7, 3) := by decide +kernel
theorem d_CS_upperOf_46 : decode b_CS_upperOf 46 = .ok (.iconst 1, 1) := by decide +kernel
theorem d_CS_upperOf_47 : decode b_CS_upperOf 47 = .ok (.goto 4, 3) := by decide +kernel
theorem d_CS_upperOf_50 : decode b_CS_upperOf 50 = .ok (.iconst 0, 1) := by decide +kernel
theorem d_CS_upperOf_51 : decode b_CS_upperOf 51 = .ok (.istore 5, 2) := by decide +kernel
theorem d_CS_upperOf_53 : decode b_CS_upperOf 53 = .ok (.iload 5, 2) := by decide +kernel
theorem d_CS_upperOf_55 : decode b_CS_upperOf 55 = .ok (.ifCond .eq 18, 3) := by decide +kernel
theorem d_CS_upperOf_58 : decode b_CS_upperOf 58 = .ok (.aload_n 0, 1) := by decide +kernel
theorem d_CS_upperOf_59 : decode b_CS_upperOf 59 = .ok (.getfield 21, 3) := by decide +kernel
theorem d_CS_upperOf_62 : decode b_CS_upperOf 62 = .ok (.iload_n 3, 1) := by decide +kernel
theorem d_CS_upperOf_63 : decode b_CS_upperOf 63 = .ok (.invokevirtual 111, 3) := by decide +kernel
theorem d_CS_upperOf_66 : decode b_CS_upperOf 66 = .ok (.bipush 6, 2) := by decide +kernel
theorem d_CS_upperOf_68 : decode b_CS_upperOf 68 = .ok (.if_icmp .ne 5, 3) := by decide +kernel
theorem d_CS_upperOf_71 : decode b_CS_upperOf 71 = .ok (.iload_n 3, 1) := by decide +kernel
theorem d_CS_upperOf_72 : decode b_CS_upperOf 72 = .ok (.istore_n 2, 1) := by decide +kernel
theorem d_CS_upperOf_73 : decode b_CS_upperOf 73 = .ok (.iinc 4 1, 3) := by decide +kernel
theorem d_CS_upperOf_76 : decode b_CS_upperOf 76 = .ok (.goto (-55), 3) := by decide +kernel
theorem d_CS_upperOf_79 : decode b_CS_upperOf 79 = .ok (.iload_n 2, 1) := by decide +kernel
theorem d_CS_upperOf_80 : decode b_CS_upperOf 80 = .ok (.ireturn, 1) := by decide +kernel
end
