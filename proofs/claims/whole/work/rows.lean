section
-- ===== PART A: goes FIRST, ahead of the names: the tables' words, and 'selects' of the private methods out of them =====
/-- a private method of a class that the tables say can be made, by its rows of tables_1 -/
def lw_okq (q : MethodName × Nat) : Prop := (q.1.cls ≠ "java/lang/invoke/MethodHandle" ∧ q.1.cls ≠ "java/lang/invoke/VarHandle") ∧ Cond.instantiable q.1.cls q.2 ∈ tables_1 ∧ Cond.privateMethod q.1 ∈ tables_1 ∧ Cond.instanceMethod q.1 ∈ tables_1
theorem lw_p0 : lw_okq (⟨"CharacterSets$Table", "addPiece", "(II)V"⟩, 4) := ⟨⟨by decide +kernel, by decide +kernel⟩, List.mem_of_getElem? (i := 18) (by decide +kernel), List.mem_of_getElem? (i := 26) (by decide +kernel), List.mem_of_getElem? (i := 27) (by decide +kernel)⟩
theorem lw_p1 : lw_okq (⟨"CharacterSets$Table", "addRow", "(III)V"⟩, 4) := ⟨⟨by decide +kernel, by decide +kernel⟩, List.mem_of_getElem? (i := 18) (by decide +kernel), List.mem_of_getElem? (i := 35) (by decide +kernel), List.mem_of_getElem? (i := 36) (by decide +kernel)⟩
theorem lw_p2 : lw_okq (⟨"CharacterSets$CaseRings", "linkPairs", "(I)V"⟩, 2) := ⟨⟨by decide +kernel, by decide +kernel⟩, List.mem_of_getElem? (i := 53) (by decide +kernel), List.mem_of_getElem? (i := 64) (by decide +kernel), List.mem_of_getElem? (i := 65) (by decide +kernel)⟩
theorem lw_p3 : lw_okq (⟨"CharacterSets$CaseRings", "point", "(II)V"⟩, 2) := ⟨⟨by decide +kernel, by decide +kernel⟩, List.mem_of_getElem? (i := 53) (by decide +kernel), List.mem_of_getElem? (i := 68) (by decide +kernel), List.mem_of_getElem? (i := 69) (by decide +kernel)⟩
theorem lw_p4 : lw_okq (⟨"CharacterSets$CaseRings", "linkThree", "(III)V"⟩, 2) := ⟨⟨by decide +kernel, by decide +kernel⟩, List.mem_of_getElem? (i := 53) (by decide +kernel), List.mem_of_getElem? (i := 77) (by decide +kernel), List.mem_of_getElem? (i := 78) (by decide +kernel)⟩
theorem lw_p5 : lw_okq (⟨"CharacterSets", "isThere", "(I)Z"⟩, 6) := ⟨⟨by decide +kernel, by decide +kernel⟩, List.mem_of_getElem? (i := 9) (by decide +kernel), List.mem_of_getElem? (i := 136) (by decide +kernel), List.mem_of_getElem? (i := 137) (by decide +kernel)⟩
theorem lw_p6 : lw_okq (⟨"CharacterSets$Ranges", "edgesUpTo", "(I)I"⟩, 2) := ⟨⟨by decide +kernel, by decide +kernel⟩, List.mem_of_getElem? (i := 88) (by decide +kernel), List.mem_of_getElem? (i := 144) (by decide +kernel), List.mem_of_getElem? (i := 145) (by decide +kernel)⟩
theorem lw_p7 : lw_okq (⟨"CharacterSets", "gatherProperty", "(I)V"⟩, 6) := ⟨⟨by decide +kernel, by decide +kernel⟩, List.mem_of_getElem? (i := 9) (by decide +kernel), List.mem_of_getElem? (i := 159) (by decide +kernel), List.mem_of_getElem? (i := 160) (by decide +kernel)⟩
theorem lw_p8 : lw_okq (⟨"CharacterSets", "gatherScript", "(I)V"⟩, 6) := ⟨⟨by decide +kernel, by decide +kernel⟩, List.mem_of_getElem? (i := 9) (by decide +kernel), List.mem_of_getElem? (i := 163) (by decide +kernel), List.mem_of_getElem? (i := 164) (by decide +kernel)⟩
theorem lw_p9 : lw_okq (⟨"CharacterSets", "gather", "(II)V"⟩, 6) := ⟨⟨by decide +kernel, by decide +kernel⟩, List.mem_of_getElem? (i := 9) (by decide +kernel), List.mem_of_getElem? (i := 184) (by decide +kernel), List.mem_of_getElem? (i := 185) (by decide +kernel)⟩
theorem lw_p10 : lw_okq (⟨"CharacterSets", "gatherCategories", "(II)V"⟩, 6) := ⟨⟨by decide +kernel, by decide +kernel⟩, List.mem_of_getElem? (i := 9) (by decide +kernel), List.mem_of_getElem? (i := 198) (by decide +kernel), List.mem_of_getElem? (i := 199) (by decide +kernel)⟩
theorem lw_p11 : lw_okq (⟨"CharacterSets", "addGathered", "(LCharacterSets$Ranges;Z)I"⟩, 6) := ⟨⟨by decide +kernel, by decide +kernel⟩, List.mem_of_getElem? (i := 9) (by decide +kernel), List.mem_of_getElem? (i := 206) (by decide +kernel), List.mem_of_getElem? (i := 207) (by decide +kernel)⟩
theorem lw_p12 : lw_okq (⟨"CharacterSets", "gatherNamed", "(I)V"⟩, 6) := ⟨⟨by decide +kernel, by decide +kernel⟩, List.mem_of_getElem? (i := 9) (by decide +kernel), List.mem_of_getElem? (i := 232) (by decide +kernel), List.mem_of_getElem? (i := 233) (by decide +kernel)⟩
theorem lw_p13 : lw_okq (⟨"CharacterSets", "gatherList", "([I)V"⟩, 6) := ⟨⟨by decide +kernel, by decide +kernel⟩, List.mem_of_getElem? (i := 9) (by decide +kernel), List.mem_of_getElem? (i := 273) (by decide +kernel), List.mem_of_getElem? (i := 274) (by decide +kernel)⟩
theorem lw_p14 : lw_okq (⟨"CharacterSets", "isMissing", "(LCharacterSets$Ranges;I)Z"⟩, 6) := ⟨⟨by decide +kernel, by decide +kernel⟩, List.mem_of_getElem? (i := 9) (by decide +kernel), List.mem_of_getElem? (i := 289) (by decide +kernel), List.mem_of_getElem? (i := 290) (by decide +kernel)⟩
theorem lw_p15 : lw_okq (⟨"CharacterSets$Table", "pieceOf", "(I)I"⟩, 4) := ⟨⟨by decide +kernel, by decide +kernel⟩, List.mem_of_getElem? (i := 18) (by decide +kernel), List.mem_of_getElem? (i := 360) (by decide +kernel), List.mem_of_getElem? (i := 361) (by decide +kernel)⟩
def lw_privs_1 : List (MethodName × Nat) := [(⟨"CharacterSets$Table", "addPiece", "(II)V"⟩, 4), (⟨"CharacterSets$Table", "addRow", "(III)V"⟩, 4), (⟨"CharacterSets$CaseRings", "linkPairs", "(I)V"⟩, 2), (⟨"CharacterSets$CaseRings", "point", "(II)V"⟩, 2), (⟨"CharacterSets$CaseRings", "linkThree", "(III)V"⟩, 2), (⟨"CharacterSets", "isThere", "(I)Z"⟩, 6), (⟨"CharacterSets$Ranges", "edgesUpTo", "(I)I"⟩, 2), (⟨"CharacterSets", "gatherProperty", "(I)V"⟩, 6), (⟨"CharacterSets", "gatherScript", "(I)V"⟩, 6), (⟨"CharacterSets", "gather", "(II)V"⟩, 6), (⟨"CharacterSets", "gatherCategories", "(II)V"⟩, 6), (⟨"CharacterSets", "addGathered", "(LCharacterSets$Ranges;Z)I"⟩, 6), (⟨"CharacterSets", "gatherNamed", "(I)V"⟩, 6), (⟨"CharacterSets", "gatherList", "([I)V"⟩, 6), (⟨"CharacterSets", "isMissing", "(LCharacterSets$Ranges;I)Z"⟩, 6), (⟨"CharacterSets$Table", "pieceOf", "(I)I"⟩, 4)]
theorem lw_r1 : ∀ q ∈ lw_privs_1, lw_okq q := List.forall_mem_cons.mpr ⟨lw_p0, List.forall_mem_cons.mpr ⟨lw_p1, List.forall_mem_cons.mpr ⟨lw_p2, List.forall_mem_cons.mpr ⟨lw_p3, List.forall_mem_cons.mpr ⟨lw_p4, List.forall_mem_cons.mpr ⟨lw_p5, List.forall_mem_cons.mpr ⟨lw_p6, List.forall_mem_cons.mpr ⟨lw_p7, List.forall_mem_cons.mpr ⟨lw_p8, List.forall_mem_cons.mpr ⟨lw_p9, List.forall_mem_cons.mpr ⟨lw_p10, List.forall_mem_cons.mpr ⟨lw_p11, List.forall_mem_cons.mpr ⟨lw_p12, List.forall_mem_cons.mpr ⟨lw_p13, List.forall_mem_cons.mpr ⟨lw_p14, List.forall_mem_cons.mpr ⟨lw_p15, fun _ h => absurd h List.not_mem_nil⟩⟩⟩⟩⟩⟩⟩⟩⟩⟩⟩⟩⟩⟩⟩⟩
theorem lw_p16 : lw_okq (⟨"CharacterSets", "upperOf", "(I)I"⟩, 6) := ⟨⟨by decide +kernel, by decide +kernel⟩, List.mem_of_getElem? (i := 9) (by decide +kernel), List.mem_of_getElem? (i := 368) (by decide +kernel), List.mem_of_getElem? (i := 369) (by decide +kernel)⟩
theorem lw_p17 : lw_okq (⟨"CharacterSets", "lowerOf", "(I)I"⟩, 6) := ⟨⟨by decide +kernel, by decide +kernel⟩, List.mem_of_getElem? (i := 9) (by decide +kernel), List.mem_of_getElem? (i := 372) (by decide +kernel), List.mem_of_getElem? (i := 373) (by decide +kernel)⟩
theorem lw_p18 : lw_okq (⟨"CharacterSetsModel", "table0", "()V"⟩, 9) := ⟨⟨by decide +kernel, by decide +kernel⟩, List.mem_of_getElem? (i := 379) (by decide +kernel), List.mem_of_getElem? (i := 399) (by decide +kernel), List.mem_of_getElem? (i := 400) (by decide +kernel)⟩
theorem lw_p19 : lw_okq (⟨"CharacterSetsModel", "kinds", "(III)V"⟩, 9) := ⟨⟨by decide +kernel, by decide +kernel⟩, List.mem_of_getElem? (i := 379) (by decide +kernel), List.mem_of_getElem? (i := 403) (by decide +kernel), List.mem_of_getElem? (i := 404) (by decide +kernel)⟩
theorem lw_p20 : lw_okq (⟨"CharacterSetsModel", "table1", "()V"⟩, 9) := ⟨⟨by decide +kernel, by decide +kernel⟩, List.mem_of_getElem? (i := 379) (by decide +kernel), List.mem_of_getElem? (i := 407) (by decide +kernel), List.mem_of_getElem? (i := 408) (by decide +kernel)⟩
theorem lw_p21 : lw_okq (⟨"CharacterSetsModel", "table2", "()V"⟩, 9) := ⟨⟨by decide +kernel, by decide +kernel⟩, List.mem_of_getElem? (i := 379) (by decide +kernel), List.mem_of_getElem? (i := 411) (by decide +kernel), List.mem_of_getElem? (i := 412) (by decide +kernel)⟩
theorem lw_p22 : lw_okq (⟨"CharacterSetsModel", "table3", "()V"⟩, 9) := ⟨⟨by decide +kernel, by decide +kernel⟩, List.mem_of_getElem? (i := 379) (by decide +kernel), List.mem_of_getElem? (i := 415) (by decide +kernel), List.mem_of_getElem? (i := 416) (by decide +kernel)⟩
theorem lw_p23 : lw_okq (⟨"CharacterSetsModel", "none", "(I)Z"⟩, 9) := ⟨⟨by decide +kernel, by decide +kernel⟩, List.mem_of_getElem? (i := 379) (by decide +kernel), List.mem_of_getElem? (i := 453) (by decide +kernel), List.mem_of_getElem? (i := 454) (by decide +kernel)⟩
theorem lw_p24 : lw_okq (⟨"CharacterSetsModel", "fill", "(III)V"⟩, 9) := ⟨⟨by decide +kernel, by decide +kernel⟩, List.mem_of_getElem? (i := 379) (by decide +kernel), List.mem_of_getElem? (i := 461) (by decide +kernel), List.mem_of_getElem? (i := 462) (by decide +kernel)⟩
theorem lw_p25 : lw_okq (⟨"CharacterSetsModel", "put", "(II)V"⟩, 9) := ⟨⟨by decide +kernel, by decide +kernel⟩, List.mem_of_getElem? (i := 379) (by decide +kernel), List.mem_of_getElem? (i := 466) (by decide +kernel), List.mem_of_getElem? (i := 467) (by decide +kernel)⟩
theorem lw_p26 : lw_okq (⟨"CharacterSetsModel", "ranges", "(I)I"⟩, 9) := ⟨⟨by decide +kernel, by decide +kernel⟩, List.mem_of_getElem? (i := 379) (by decide +kernel), List.mem_of_getElem? (i := 470) (by decide +kernel), List.mem_of_getElem? (i := 471) (by decide +kernel)⟩
theorem lw_p27 : lw_okq (⟨"CharacterSetsModel", "ones", "(J)I"⟩, 9) := ⟨⟨by decide +kernel, by decide +kernel⟩, List.mem_of_getElem? (i := 379) (by decide +kernel), List.mem_of_getElem? (i := 474) (by decide +kernel), List.mem_of_getElem? (i := 475) (by decide +kernel)⟩
theorem lw_p28 : lw_okq (⟨"CharacterSetsModel", "holds", "(II)Z"⟩, 9) := ⟨⟨by decide +kernel, by decide +kernel⟩, List.mem_of_getElem? (i := 379) (by decide +kernel), List.mem_of_getElem? (i := 486) (by decide +kernel), List.mem_of_getElem? (i := 487) (by decide +kernel)⟩
theorem lw_p29 : lw_okq (⟨"CharacterSetsModel", "category", "(I)I"⟩, 9) := ⟨⟨by decide +kernel, by decide +kernel⟩, List.mem_of_getElem? (i := 379) (by decide +kernel), List.mem_of_getElem? (i := 490) (by decide +kernel), List.mem_of_getElem? (i := 491) (by decide +kernel)⟩
theorem lw_p30 : lw_okq (⟨"CharacterSetsModel", "general", "(II)Z"⟩, 9) := ⟨⟨by decide +kernel, by decide +kernel⟩, List.mem_of_getElem? (i := 379) (by decide +kernel), List.mem_of_getElem? (i := 498) (by decide +kernel), List.mem_of_getElem? (i := 499) (by decide +kernel)⟩
theorem lw_p31 : lw_okq (⟨"CharacterSetsModel", "script", "(I)I"⟩, 9) := ⟨⟨by decide +kernel, by decide +kernel⟩, List.mem_of_getElem? (i := 379) (by decide +kernel), List.mem_of_getElem? (i := 502) (by decide +kernel), List.mem_of_getElem? (i := 503) (by decide +kernel)⟩
def lw_privs_2 : List (MethodName × Nat) := [(⟨"CharacterSets", "upperOf", "(I)I"⟩, 6), (⟨"CharacterSets", "lowerOf", "(I)I"⟩, 6), (⟨"CharacterSetsModel", "table0", "()V"⟩, 9), (⟨"CharacterSetsModel", "kinds", "(III)V"⟩, 9), (⟨"CharacterSetsModel", "table1", "()V"⟩, 9), (⟨"CharacterSetsModel", "table2", "()V"⟩, 9), (⟨"CharacterSetsModel", "table3", "()V"⟩, 9), (⟨"CharacterSetsModel", "none", "(I)Z"⟩, 9), (⟨"CharacterSetsModel", "fill", "(III)V"⟩, 9), (⟨"CharacterSetsModel", "put", "(II)V"⟩, 9), (⟨"CharacterSetsModel", "ranges", "(I)I"⟩, 9), (⟨"CharacterSetsModel", "ones", "(J)I"⟩, 9), (⟨"CharacterSetsModel", "holds", "(II)Z"⟩, 9), (⟨"CharacterSetsModel", "category", "(I)I"⟩, 9), (⟨"CharacterSetsModel", "general", "(II)Z"⟩, 9), (⟨"CharacterSetsModel", "script", "(I)I"⟩, 9)]
theorem lw_r2 : ∀ q ∈ lw_privs_2, lw_okq q := List.forall_mem_cons.mpr ⟨lw_p16, List.forall_mem_cons.mpr ⟨lw_p17, List.forall_mem_cons.mpr ⟨lw_p18, List.forall_mem_cons.mpr ⟨lw_p19, List.forall_mem_cons.mpr ⟨lw_p20, List.forall_mem_cons.mpr ⟨lw_p21, List.forall_mem_cons.mpr ⟨lw_p22, List.forall_mem_cons.mpr ⟨lw_p23, List.forall_mem_cons.mpr ⟨lw_p24, List.forall_mem_cons.mpr ⟨lw_p25, List.forall_mem_cons.mpr ⟨lw_p26, List.forall_mem_cons.mpr ⟨lw_p27, List.forall_mem_cons.mpr ⟨lw_p28, List.forall_mem_cons.mpr ⟨lw_p29, List.forall_mem_cons.mpr ⟨lw_p30, List.forall_mem_cons.mpr ⟨lw_p31, fun _ h => absurd h List.not_mem_nil⟩⟩⟩⟩⟩⟩⟩⟩⟩⟩⟩⟩⟩⟩⟩⟩
theorem lw_p32 : lw_okq (⟨"CharacterSetsModel", "names", "(II)Z"⟩, 9) := ⟨⟨by decide +kernel, by decide +kernel⟩, List.mem_of_getElem? (i := 379) (by decide +kernel), List.mem_of_getElem? (i := 510) (by decide +kernel), List.mem_of_getElem? (i := 511) (by decide +kernel)⟩
theorem lw_p33 : lw_okq (⟨"CharacterSetsModel", "widely", "(II)Z"⟩, 9) := ⟨⟨by decide +kernel, by decide +kernel⟩, List.mem_of_getElem? (i := 379) (by decide +kernel), List.mem_of_getElem? (i := 514) (by decide +kernel), List.mem_of_getElem? (i := 515) (by decide +kernel)⟩
theorem lw_p34 : lw_okq (⟨"CharacterSetsModel", "blank", "(I)Z"⟩, 9) := ⟨⟨by decide +kernel, by decide +kernel⟩, List.mem_of_getElem? (i := 379) (by decide +kernel), List.mem_of_getElem? (i := 518) (by decide +kernel), List.mem_of_getElem? (i := 519) (by decide +kernel)⟩
theorem lw_p35 : lw_okq (⟨"CharacterSetsModel", "plainly", "(II)Z"⟩, 9) := ⟨⟨by decide +kernel, by decide +kernel⟩, List.mem_of_getElem? (i := 379) (by decide +kernel), List.mem_of_getElem? (i := 522) (by decide +kernel), List.mem_of_getElem? (i := 523) (by decide +kernel)⟩
theorem lw_p36 : lw_okq (⟨"CharacterSetsModel", "digit", "(I)Z"⟩, 9) := ⟨⟨by decide +kernel, by decide +kernel⟩, List.mem_of_getElem? (i := 379) (by decide +kernel), List.mem_of_getElem? (i := 526) (by decide +kernel), List.mem_of_getElem? (i := 527) (by decide +kernel)⟩
theorem lw_p37 : lw_okq (⟨"CharacterSetsModel", "alpha", "(I)Z"⟩, 9) := ⟨⟨by decide +kernel, by decide +kernel⟩, List.mem_of_getElem? (i := 379) (by decide +kernel), List.mem_of_getElem? (i := 530) (by decide +kernel), List.mem_of_getElem? (i := 531) (by decide +kernel)⟩
theorem lw_p38 : lw_okq (⟨"CharacterSetsModel", "count", "(I)I"⟩, 9) := ⟨⟨by decide +kernel, by decide +kernel⟩, List.mem_of_getElem? (i := 379) (by decide +kernel), List.mem_of_getElem? (i := 538) (by decide +kernel), List.mem_of_getElem? (i := 539) (by decide +kernel)⟩
theorem lw_p39 : lw_okq (⟨"CharacterSetsModel", "in", "(II)Z"⟩, 9) := ⟨⟨by decide +kernel, by decide +kernel⟩, List.mem_of_getElem? (i := 379) (by decide +kernel), List.mem_of_getElem? (i := 542) (by decide +kernel), List.mem_of_getElem? (i := 543) (by decide +kernel)⟩
theorem lw_p40 : lw_okq (⟨"CharacterSetsModel", "caseOf", "(I)V"⟩, 9) := ⟨⟨by decide +kernel, by decide +kernel⟩, List.mem_of_getElem? (i := 379) (by decide +kernel), List.mem_of_getElem? (i := 546) (by decide +kernel), List.mem_of_getElem? (i := 547) (by decide +kernel)⟩
theorem lw_p41 : lw_okq (⟨"CharacterSetsModel", "first", "(I)I"⟩, 9) := ⟨⟨by decide +kernel, by decide +kernel⟩, List.mem_of_getElem? (i := 379) (by decide +kernel), List.mem_of_getElem? (i := 550) (by decide +kernel), List.mem_of_getElem? (i := 551) (by decide +kernel)⟩
theorem lw_p42 : lw_okq (⟨"CharacterSetsModel", "third", "(I)I"⟩, 9) := ⟨⟨by decide +kernel, by decide +kernel⟩, List.mem_of_getElem? (i := 379) (by decide +kernel), List.mem_of_getElem? (i := 554) (by decide +kernel), List.mem_of_getElem? (i := 555) (by decide +kernel)⟩
theorem lw_p43 : lw_okq (⟨"CharacterSetsModel", "pair", "(I)I"⟩, 9) := ⟨⟨by decide +kernel, by decide +kernel⟩, List.mem_of_getElem? (i := 379) (by decide +kernel), List.mem_of_getElem? (i := 558) (by decide +kernel), List.mem_of_getElem? (i := 559) (by decide +kernel)⟩
theorem lw_p44 : lw_okq (⟨"CharacterSetsModel", "inAny", "(III)Z"⟩, 9) := ⟨⟨by decide +kernel, by decide +kernel⟩, List.mem_of_getElem? (i := 379) (by decide +kernel), List.mem_of_getElem? (i := 562) (by decide +kernel), List.mem_of_getElem? (i := 563) (by decide +kernel)⟩
theorem lw_p45 : lw_okq (⟨"CharacterSetsModel", "withMate", "(I)V"⟩, 9) := ⟨⟨by decide +kernel, by decide +kernel⟩, List.mem_of_getElem? (i := 379) (by decide +kernel), List.mem_of_getElem? (i := 566) (by decide +kernel), List.mem_of_getElem? (i := 567) (by decide +kernel)⟩
theorem lw_p46 : lw_okq (⟨"CharacterSetsModel", "after", "(II)I"⟩, 9) := ⟨⟨by decide +kernel, by decide +kernel⟩, List.mem_of_getElem? (i := 379) (by decide +kernel), List.mem_of_getElem? (i := 603) (by decide +kernel), List.mem_of_getElem? (i := 604) (by decide +kernel)⟩
theorem lw_p47 : lw_okq (⟨"CharacterSetsModel", "upper", "(I)I"⟩, 9) := ⟨⟨by decide +kernel, by decide +kernel⟩, List.mem_of_getElem? (i := 379) (by decide +kernel), List.mem_of_getElem? (i := 611) (by decide +kernel), List.mem_of_getElem? (i := 612) (by decide +kernel)⟩
def lw_privs_3 : List (MethodName × Nat) := [(⟨"CharacterSetsModel", "names", "(II)Z"⟩, 9), (⟨"CharacterSetsModel", "widely", "(II)Z"⟩, 9), (⟨"CharacterSetsModel", "blank", "(I)Z"⟩, 9), (⟨"CharacterSetsModel", "plainly", "(II)Z"⟩, 9), (⟨"CharacterSetsModel", "digit", "(I)Z"⟩, 9), (⟨"CharacterSetsModel", "alpha", "(I)Z"⟩, 9), (⟨"CharacterSetsModel", "count", "(I)I"⟩, 9), (⟨"CharacterSetsModel", "in", "(II)Z"⟩, 9), (⟨"CharacterSetsModel", "caseOf", "(I)V"⟩, 9), (⟨"CharacterSetsModel", "first", "(I)I"⟩, 9), (⟨"CharacterSetsModel", "third", "(I)I"⟩, 9), (⟨"CharacterSetsModel", "pair", "(I)I"⟩, 9), (⟨"CharacterSetsModel", "inAny", "(III)Z"⟩, 9), (⟨"CharacterSetsModel", "withMate", "(I)V"⟩, 9), (⟨"CharacterSetsModel", "after", "(II)I"⟩, 9), (⟨"CharacterSetsModel", "upper", "(I)I"⟩, 9)]
theorem lw_r3 : ∀ q ∈ lw_privs_3, lw_okq q := List.forall_mem_cons.mpr ⟨lw_p32, List.forall_mem_cons.mpr ⟨lw_p33, List.forall_mem_cons.mpr ⟨lw_p34, List.forall_mem_cons.mpr ⟨lw_p35, List.forall_mem_cons.mpr ⟨lw_p36, List.forall_mem_cons.mpr ⟨lw_p37, List.forall_mem_cons.mpr ⟨lw_p38, List.forall_mem_cons.mpr ⟨lw_p39, List.forall_mem_cons.mpr ⟨lw_p40, List.forall_mem_cons.mpr ⟨lw_p41, List.forall_mem_cons.mpr ⟨lw_p42, List.forall_mem_cons.mpr ⟨lw_p43, List.forall_mem_cons.mpr ⟨lw_p44, List.forall_mem_cons.mpr ⟨lw_p45, List.forall_mem_cons.mpr ⟨lw_p46, List.forall_mem_cons.mpr ⟨lw_p47, fun _ h => absurd h List.not_mem_nil⟩⟩⟩⟩⟩⟩⟩⟩⟩⟩⟩⟩⟩⟩⟩⟩
theorem lw_p48 : lw_okq (⟨"CharacterSetsModel", "lower", "(I)I"⟩, 9) := ⟨⟨by decide +kernel, by decide +kernel⟩, List.mem_of_getElem? (i := 379) (by decide +kernel), List.mem_of_getElem? (i := 615) (by decide +kernel), List.mem_of_getElem? (i := 616) (by decide +kernel)⟩
theorem lw_p49 : lw_okq (⟨"CharacterSetsModel", "next", "(I)I"⟩, 9) := ⟨⟨by decide +kernel, by decide +kernel⟩, List.mem_of_getElem? (i := 379) (by decide +kernel), List.mem_of_getElem? (i := 619) (by decide +kernel), List.mem_of_getElem? (i := 620) (by decide +kernel)⟩
def lw_privs_4 : List (MethodName × Nat) := [(⟨"CharacterSetsModel", "lower", "(I)I"⟩, 9), (⟨"CharacterSetsModel", "next", "(I)I"⟩, 9)]
theorem lw_r4 : ∀ q ∈ lw_privs_4, lw_okq q := List.forall_mem_cons.mpr ⟨lw_p48, List.forall_mem_cons.mpr ⟨lw_p49, fun _ h => absurd h List.not_mem_nil⟩⟩
def lw_privs : List (MethodName × Nat) := lw_privs_1 ++ (lw_privs_2 ++ (lw_privs_3 ++ (lw_privs_4)))
def lw_tbl : List Cond := k2_sels lw_privs ++ tables_1
theorem lw_privs_ok : ∀ q ∈ lw_privs, lw_okq q := by
  show ∀ q ∈ lw_privs_1 ++ (lw_privs_2 ++ (lw_privs_3 ++ (lw_privs_4))), lw_okq q
  exact List.forall_mem_append.mpr ⟨lw_r1, List.forall_mem_append.mpr ⟨lw_r2, List.forall_mem_append.mpr ⟨lw_r3, lw_r4⟩⟩⟩
-- ===== end of PART A; then your names; then what follows =====
end
section
def lw_ok : List Cond := lw_tbl.filter goodWord
theorem lw_in {w : Cond} (h : w ∈ lw_tbl) (hg : goodWord w = true) : w ∈ lw_ok := List.mem_filter.mpr ⟨h, hg⟩
def R_CS : String := "CharacterSets"
def F_CS : u_T := fun k => match k with
  | 0 => ("CharacterSets", "ucp", "Z", true)
  | 1 => ("CharacterSets", "last", "I", true)
  | 2 => ("CharacterSets", "table", "LCharacterSets$Table;", true)
  | 3 => ("CharacterSets", "rings", "LCharacterSets$CaseRings;", true)
  | 4 => ("CharacterSets", "sets", "[LCharacterSets$Ranges;", true)
  | _ => ("CharacterSets", "gathered", "LCharacterSets$Ranges;", true)
def t_CS : Nat → FieldType := fun k => match k with
  | 0 => .boolean
  | 1 => .int
  | 2 => .object "CharacterSets$Table"
  | 3 => .object "CharacterSets$CaseRings"
  | 4 => .array (.object "CharacterSets$Ranges")
  | _ => .object "CharacterSets$Ranges"
abbrev w_CS : List Cond := u_ws R_CS F_CS 6
theorem n_CS : ∀ a, a < 6 → ∀ b, b < 6 → a ≠ b → (F_CS a).2.1 ≠ (F_CS b).2.1 := by decide +kernel
theorem t_CS_ok : ∀ k, k < 6 → parseFieldDescriptor (F_CS k).2.2.1 = some (t_CS k) := by decide +kernel
def R_RG : String := "CharacterSets$Ranges"
def F_RG : u_T := fun k => match k with
  | 0 => ("CharacterSets$Ranges", "edges", "[I", true)
  | _ => ("CharacterSets$Ranges", "count", "I", false)
def t_RG : Nat → FieldType := fun k => match k with
  | 0 => .array .int
  | _ => .int
abbrev w_RG : List Cond := u_ws R_RG F_RG 2
theorem n_RG : ∀ a, a < 2 → ∀ b, b < 2 → a ≠ b → (F_RG a).2.1 ≠ (F_RG b).2.1 := by decide +kernel
theorem t_RG_ok : ∀ k, k < 2 → parseFieldDescriptor (F_RG k).2.2.1 = some (t_RG k) := by decide +kernel
def R_TB : String := "CharacterSets$Table"
def F_TB : u_T := fun k => match k with
  | 0 => ("CharacterSets$Table", "lows", "[I", true)
  | 1 => ("CharacterSets$Table", "categories", "[I", true)
  | 2 => ("CharacterSets$Table", "scripts", "[I", true)
  | _ => ("CharacterSets$Table", "count", "I", false)
def t_TB : Nat → FieldType := fun k => match k with
  | 0 => .array .int
  | 1 => .array .int
  | 2 => .array .int
  | _ => .int
abbrev w_TB : List Cond := u_ws R_TB F_TB 4
theorem n_TB : ∀ a, a < 4 → ∀ b, b < 4 → a ≠ b → (F_TB a).2.1 ≠ (F_TB b).2.1 := by decide +kernel
theorem t_TB_ok : ∀ k, k < 4 → parseFieldDescriptor (F_TB k).2.2.1 = some (t_TB k) := by decide +kernel
def R_CR : String := "CharacterSets$CaseRings"
def F_CR : u_T := fun k => match k with
  | 0 => ("CharacterSets$CaseRings", "last", "I", true)
  | _ => ("CharacterSets$CaseRings", "next", "[I", true)
def t_CR : Nat → FieldType := fun k => match k with
  | 0 => .int
  | _ => .array .int
abbrev w_CR : List Cond := u_ws R_CR F_CR 2
theorem n_CR : ∀ a, a < 2 → ∀ b, b < 2 → a ≠ b → (F_CR a).2.1 ≠ (F_CR b).2.1 := by decide +kernel
theorem t_CR_ok : ∀ k, k < 2 → parseFieldDescriptor (F_CR k).2.2.1 = some (t_CR k) := by decide +kernel
def R_MO : String := "CharacterSetsModel"
def F_MO : u_T := fun k => match k with
  | 0 => ("CharacterSetsModel", "utf", "Z", true)
  | 1 => ("CharacterSetsModel", "ucp", "Z", true)
  | 2 => ("CharacterSetsModel", "last", "I", true)
  | 3 => ("CharacterSetsModel", "words", "I", true)
  | 4 => ("CharacterSetsModel", "bits", "[J", true)
  | 5 => ("CharacterSetsModel", "kind", "[B", true)
  | 6 => ("CharacterSetsModel", "mate", "[I", true)
  | 7 => ("CharacterSetsModel", "mates", "I", false)
  | _ => ("CharacterSetsModel", "parts", "[I", true)
def t_MO : Nat → FieldType := fun k => match k with
  | 0 => .boolean
  | 1 => .boolean
  | 2 => .int
  | 3 => .int
  | 4 => .array .long
  | 5 => .array .byte
  | 6 => .array .int
  | 7 => .int
  | _ => .array .int
abbrev w_MO : List Cond := u_ws R_MO F_MO 9
theorem n_MO : ∀ a, a < 9 → ∀ b, b < 9 → a ≠ b → (F_MO a).2.1 ≠ (F_MO b).2.1 := by decide +kernel
theorem t_MO_ok : ∀ k, k < 9 → parseFieldDescriptor (F_MO k).2.2.1 = some (t_MO k) := by decide +kernel
def R_LA : String := "CharacterSetsLaw"
abbrev b_CS_init : ByteArray := prog_1_method_1_code
def y_CS_init : MethodName := ⟨"CharacterSets", "<init>", "(I)V"⟩
def w_CS_init : List Cond := .code y_CS_init b_CS_init 4 none :: lw_ok
abbrev b_CS_clear : ByteArray := prog_1_method_2_code
def y_CS_clear : MethodName := ⟨"CharacterSets", "clear", "(I)I"⟩
def w_CS_clear : List Cond := .code y_CS_clear b_CS_clear 2 (some .int) :: lw_ok
abbrev b_CS_range : ByteArray := prog_1_method_3_code
def y_CS_range : MethodName := ⟨"CharacterSets", "range", "(III)I"⟩
def w_CS_range : List Cond := .code y_CS_range b_CS_range 4 (some .int) :: lw_ok
abbrev b_CS_property : ByteArray := prog_1_method_4_code
def y_CS_property : MethodName := ⟨"CharacterSets", "property", "(IIZZ)I"⟩
def w_CS_property : List Cond := .code y_CS_property b_CS_property 6 (some .int) :: lw_ok
abbrev b_CS_named : ByteArray := prog_1_method_5_code
def y_CS_named : MethodName := ⟨"CharacterSets", "named", "(IIZZ)I"⟩
def w_CS_named : List Cond := .code y_CS_named b_CS_named 6 (some .int) :: lw_ok
abbrev b_CS_close : ByteArray := prog_1_method_6_code
def y_CS_close : MethodName := ⟨"CharacterSets", "close", "(I)I"⟩
def w_CS_close : List Cond := .code y_CS_close b_CS_close 5 (some .int) :: lw_ok
abbrev b_CS_invert : ByteArray := prog_1_method_7_code
def y_CS_invert : MethodName := ⟨"CharacterSets", "invert", "(I)I"⟩
def w_CS_invert : List Cond := .code y_CS_invert b_CS_invert 2 (some .int) :: lw_ok
abbrev b_CS_join : ByteArray := prog_1_method_8_code
def y_CS_join : MethodName := ⟨"CharacterSets", "join", "(II)I"⟩
def w_CS_join : List Cond := .code y_CS_join b_CS_join 3 (some .int) :: lw_ok
abbrev b_CS_meets : ByteArray := prog_1_method_9_code
def y_CS_meets : MethodName := ⟨"CharacterSets", "meets", "(II)I"⟩
def w_CS_meets : List Cond := .code y_CS_meets b_CS_meets 3 (some .int) :: lw_ok
abbrev b_CS_same : ByteArray := prog_1_method_10_code
def y_CS_same : MethodName := ⟨"CharacterSets", "same", "(II)I"⟩
def w_CS_same : List Cond := .code y_CS_same b_CS_same 3 (some .int) :: lw_ok
abbrev b_CS_has : ByteArray := prog_1_method_11_code
def y_CS_has : MethodName := ⟨"CharacterSets", "has", "(II)I"⟩
def w_CS_has : List Cond := .code y_CS_has b_CS_has 3 (some .int) :: lw_ok
abbrev b_CS_size : ByteArray := prog_1_method_12_code
def y_CS_size : MethodName := ⟨"CharacterSets", "size", "(I)I"⟩
def w_CS_size : List Cond := .code y_CS_size b_CS_size 2 (some .int) :: lw_ok
abbrev b_CS_least : ByteArray := prog_1_method_13_code
def y_CS_least : MethodName := ⟨"CharacterSets", "least", "(II)I"⟩
def w_CS_least : List Cond := .code y_CS_least b_CS_least 3 (some .int) :: lw_ok
abbrev b_CS_bound : ByteArray := prog_1_method_14_code
def y_CS_bound : MethodName := ⟨"CharacterSets", "bound", "(IIZ)I"⟩
def w_CS_bound : List Cond := .code y_CS_bound b_CS_bound 4 (some .int) :: lw_ok
abbrev b_CS_about : ByteArray := prog_1_method_15_code
def y_CS_about : MethodName := ⟨"CharacterSets", "about", "(II)I"⟩
def w_CS_about : List Cond := .code y_CS_about b_CS_about 3 (some .int) :: lw_ok
abbrev b_CS_isSet : ByteArray := prog_1_method_16_code
def y_CS_isSet : MethodName := ⟨"CharacterSets", "isSet", "(I)Z"⟩
def w_CS_isSet : List Cond := .code y_CS_isSet b_CS_isSet 1 (some .boolean) :: lw_ok
abbrev b_CS_isThere : ByteArray := prog_1_method_17_code
def y_CS_isThere : MethodName := ⟨"CharacterSets", "isThere", "(I)Z"⟩
def w_CS_isThere : List Cond := .code y_CS_isThere b_CS_isThere 2 (some .boolean) :: lw_ok
abbrev b_CS_isMissing : ByteArray := prog_1_method_18_code
def y_CS_isMissing : MethodName := ⟨"CharacterSets", "isMissing", "(LCharacterSets$Ranges;I)Z"⟩
def w_CS_isMissing : List Cond := .code y_CS_isMissing b_CS_isMissing 4 (some .boolean) :: lw_ok
abbrev b_CS_upperOf : ByteArray := prog_1_method_19_code
def y_CS_upperOf : MethodName := ⟨"CharacterSets", "upperOf", "(I)I"⟩
def w_CS_upperOf : List Cond := .code y_CS_upperOf b_CS_upperOf 6 (some .int) :: lw_ok
abbrev b_CS_lowerOf : ByteArray := prog_1_method_20_code
def y_CS_lowerOf : MethodName := ⟨"CharacterSets", "lowerOf", "(I)I"⟩
def w_CS_lowerOf : List Cond := .code y_CS_lowerOf b_CS_lowerOf 5 (some .int) :: lw_ok
abbrev b_CS_addGathered : ByteArray := prog_1_method_21_code
def y_CS_addGathered : MethodName := ⟨"CharacterSets", "addGathered", "(LCharacterSets$Ranges;Z)I"⟩
def w_CS_addGathered : List Cond := .code y_CS_addGathered b_CS_addGathered 3 (some .int) :: lw_ok
abbrev b_CS_gatherProperty : ByteArray := prog_1_method_22_code
def y_CS_gatherProperty : MethodName := ⟨"CharacterSets", "gatherProperty", "(I)V"⟩
def w_CS_gatherProperty : List Cond := .code y_CS_gatherProperty b_CS_gatherProperty 2 none :: lw_ok
abbrev b_CS_categoriesOf : ByteArray := prog_1_method_23_code
def y_CS_categoriesOf : MethodName := ⟨"CharacterSets", "categoriesOf", "(I)I"⟩
def w_CS_categoriesOf : List Cond := .code y_CS_categoriesOf b_CS_categoriesOf 1 (some .int) :: lw_ok
abbrev b_CS_gatherNamed : ByteArray := prog_1_method_24_code
def y_CS_gatherNamed : MethodName := ⟨"CharacterSets", "gatherNamed", "(I)V"⟩
def w_CS_gatherNamed : List Cond := .code y_CS_gatherNamed b_CS_gatherNamed 3 none :: lw_ok
abbrev b_CS_propertyOf : ByteArray := prog_1_method_25_code
def y_CS_propertyOf : MethodName := ⟨"CharacterSets", "propertyOf", "(I)I"⟩
def w_CS_propertyOf : List Cond := .code y_CS_propertyOf b_CS_propertyOf 1 (some .int) :: lw_ok
abbrev b_CS_listOf : ByteArray := prog_1_method_26_code
def y_CS_listOf : MethodName := ⟨"CharacterSets", "listOf", "(I)[I"⟩
def w_CS_listOf : List Cond := .code y_CS_listOf b_CS_listOf 1 (some (.array .int)) :: lw_ok
abbrev b_CS_gatherList : ByteArray := prog_1_method_27_code
def y_CS_gatherList : MethodName := ⟨"CharacterSets", "gatherList", "([I)V"⟩
def w_CS_gatherList : List Cond := .code y_CS_gatherList b_CS_gatherList 3 none :: lw_ok
abbrev b_CS_gatherCategories : ByteArray := prog_1_method_28_code
def y_CS_gatherCategories : MethodName := ⟨"CharacterSets", "gatherCategories", "(II)V"⟩
def w_CS_gatherCategories : List Cond := .code y_CS_gatherCategories b_CS_gatherCategories 4 none :: lw_ok
abbrev b_CS_gatherScript : ByteArray := prog_1_method_29_code
def y_CS_gatherScript : MethodName := ⟨"CharacterSets", "gatherScript", "(I)V"⟩
def w_CS_gatherScript : List Cond := .code y_CS_gatherScript b_CS_gatherScript 3 none :: lw_ok
abbrev b_CS_gather : ByteArray := prog_1_method_30_code
def y_CS_gather : MethodName := ⟨"CharacterSets", "gather", "(II)V"⟩
def w_CS_gather : List Cond := .code y_CS_gather b_CS_gather 4 none :: lw_ok
abbrev b_MO_init : ByteArray := prog_6_method_1_code
def y_MO_init : MethodName := ⟨"CharacterSetsModel", "<init>", "(I)V"⟩
def w_MO_init : List Cond := .code y_MO_init b_MO_init 3 none :: lw_ok
abbrev b_MO_kinds : ByteArray := prog_6_method_2_code
def y_MO_kinds : MethodName := ⟨"CharacterSetsModel", "kinds", "(III)V"⟩
def w_MO_kinds : List Cond := .code y_MO_kinds b_MO_kinds 5 none :: lw_ok
abbrev b_MO_table0 : ByteArray := prog_6_method_3_code
def y_MO_table0 : MethodName := ⟨"CharacterSetsModel", "table0", "()V"⟩
def w_MO_table0 : List Cond := .code y_MO_table0 b_MO_table0 1 none :: lw_ok
abbrev b_MO_table1 : ByteArray := prog_6_method_4_code
def y_MO_table1 : MethodName := ⟨"CharacterSetsModel", "table1", "()V"⟩
def w_MO_table1 : List Cond := .code y_MO_table1 b_MO_table1 1 none :: lw_ok
abbrev b_MO_table2 : ByteArray := prog_6_method_5_code
def y_MO_table2 : MethodName := ⟨"CharacterSetsModel", "table2", "()V"⟩
def w_MO_table2 : List Cond := .code y_MO_table2 b_MO_table2 1 none :: lw_ok
abbrev b_MO_table3 : ByteArray := prog_6_method_6_code
def y_MO_table3 : MethodName := ⟨"CharacterSetsModel", "table3", "()V"⟩
def w_MO_table3 : List Cond := .code y_MO_table3 b_MO_table3 1 none :: lw_ok
abbrev b_MO_category : ByteArray := prog_6_method_7_code
def y_MO_category : MethodName := ⟨"CharacterSetsModel", "category", "(I)I"⟩
def w_MO_category : List Cond := .code y_MO_category b_MO_category 2 (some .int) :: lw_ok
abbrev b_MO_script : ByteArray := prog_6_method_8_code
def y_MO_script : MethodName := ⟨"CharacterSetsModel", "script", "(I)I"⟩
def w_MO_script : List Cond := .code y_MO_script b_MO_script 3 (some .int) :: lw_ok
abbrev b_MO_withMate : ByteArray := prog_6_method_9_code
def y_MO_withMate : MethodName := ⟨"CharacterSetsModel", "withMate", "(I)V"⟩
def w_MO_withMate : List Cond := .code y_MO_withMate b_MO_withMate 2 none :: lw_ok
abbrev b_MO_inAny : ByteArray := prog_6_method_10_code
def y_MO_inAny : MethodName := ⟨"CharacterSetsModel", "inAny", "(III)Z"⟩
def w_MO_inAny : List Cond := .code y_MO_inAny b_MO_inAny 4 (some .boolean) :: lw_ok
abbrev b_MO_pair : ByteArray := prog_6_method_11_code
def y_MO_pair : MethodName := ⟨"CharacterSetsModel", "pair", "(I)I"⟩
def w_MO_pair : List Cond := .code y_MO_pair b_MO_pair 3 (some .int) :: lw_ok
abbrev b_MO_third : ByteArray := prog_6_method_12_code
def y_MO_third : MethodName := ⟨"CharacterSetsModel", "third", "(I)I"⟩
def w_MO_third : List Cond := .code y_MO_third b_MO_third 2 (some .int) :: lw_ok
abbrev b_MO_first : ByteArray := prog_6_method_13_code
def y_MO_first : MethodName := ⟨"CharacterSetsModel", "first", "(I)I"⟩
def w_MO_first : List Cond := .code y_MO_first b_MO_first 2 (some .int) :: lw_ok
abbrev b_MO_caseOf : ByteArray := prog_6_method_14_code
def y_MO_caseOf : MethodName := ⟨"CharacterSetsModel", "caseOf", "(I)V"⟩
def w_MO_caseOf : List Cond := .code y_MO_caseOf b_MO_caseOf 4 none :: lw_ok
abbrev b_MO_upper : ByteArray := prog_6_method_15_code
def y_MO_upper : MethodName := ⟨"CharacterSetsModel", "upper", "(I)I"⟩
def w_MO_upper : List Cond := .code y_MO_upper b_MO_upper 4 (some .int) :: lw_ok
abbrev b_MO_lower : ByteArray := prog_6_method_16_code
def y_MO_lower : MethodName := ⟨"CharacterSetsModel", "lower", "(I)I"⟩
def w_MO_lower : List Cond := .code y_MO_lower b_MO_lower 3 (some .int) :: lw_ok
abbrev b_MO_next : ByteArray := prog_6_method_17_code
def y_MO_next : MethodName := ⟨"CharacterSetsModel", "next", "(I)I"⟩
def w_MO_next : List Cond := .code y_MO_next b_MO_next 5 (some .int) :: lw_ok
abbrev b_MO_none : ByteArray := prog_6_method_18_code
def y_MO_none : MethodName := ⟨"CharacterSetsModel", "none", "(I)Z"⟩
def w_MO_none : List Cond := .code y_MO_none b_MO_none 2 (some .boolean) :: lw_ok
abbrev b_MO_in : ByteArray := prog_6_method_19_code
def y_MO_in : MethodName := ⟨"CharacterSetsModel", "in", "(II)Z"⟩
def w_MO_in : List Cond := .code y_MO_in b_MO_in 3 (some .boolean) :: lw_ok
abbrev b_MO_put : ByteArray := prog_6_method_20_code
def y_MO_put : MethodName := ⟨"CharacterSetsModel", "put", "(II)V"⟩
def w_MO_put : List Cond := .code y_MO_put b_MO_put 3 none :: lw_ok
abbrev b_MO_fill : ByteArray := prog_6_method_21_code
def y_MO_fill : MethodName := ⟨"CharacterSetsModel", "fill", "(III)V"⟩
def w_MO_fill : List Cond := .code y_MO_fill b_MO_fill 5 none :: lw_ok
abbrev b_MO_ones : ByteArray := prog_6_method_22_code
def y_MO_ones : MethodName := ⟨"CharacterSetsModel", "ones", "(J)I"⟩
def w_MO_ones : List Cond := .code y_MO_ones b_MO_ones 5 (some .int) :: lw_ok
abbrev b_MO_ranges : ByteArray := prog_6_method_23_code
def y_MO_ranges : MethodName := ⟨"CharacterSetsModel", "ranges", "(I)I"⟩
def w_MO_ranges : List Cond := .code y_MO_ranges b_MO_ranges 8 (some .int) :: lw_ok
abbrev b_MO_clear : ByteArray := prog_6_method_24_code
def y_MO_clear : MethodName := ⟨"CharacterSetsModel", "clear", "(I)I"⟩
def w_MO_clear : List Cond := .code y_MO_clear b_MO_clear 3 (some .int) :: lw_ok
abbrev b_MO_range : ByteArray := prog_6_method_25_code
def y_MO_range : MethodName := ⟨"CharacterSetsModel", "range", "(III)I"⟩
def w_MO_range : List Cond := .code y_MO_range b_MO_range 4 (some .int) :: lw_ok
abbrev b_MO_holds : ByteArray := prog_6_method_26_code
def y_MO_holds : MethodName := ⟨"CharacterSetsModel", "holds", "(II)Z"⟩
def w_MO_holds : List Cond := .code y_MO_holds b_MO_holds 4 (some .boolean) :: lw_ok
abbrev b_MO_general : ByteArray := prog_6_method_27_code
def y_MO_general : MethodName := ⟨"CharacterSetsModel", "general", "(II)Z"⟩
def w_MO_general : List Cond := .code y_MO_general b_MO_general 3 (some .boolean) :: lw_ok
abbrev b_MO_property : ByteArray := prog_6_method_28_code
def y_MO_property : MethodName := ⟨"CharacterSetsModel", "property", "(IIZZ)I"⟩
def w_MO_property : List Cond := .code y_MO_property b_MO_property 8 (some .int) :: lw_ok
abbrev b_MO_alpha : ByteArray := prog_6_method_29_code
def y_MO_alpha : MethodName := ⟨"CharacterSetsModel", "alpha", "(I)Z"⟩
def w_MO_alpha : List Cond := .code y_MO_alpha b_MO_alpha 2 (some .boolean) :: lw_ok
abbrev b_MO_digit : ByteArray := prog_6_method_30_code
def y_MO_digit : MethodName := ⟨"CharacterSetsModel", "digit", "(I)Z"⟩
def w_MO_digit : List Cond := .code y_MO_digit b_MO_digit 2 (some .boolean) :: lw_ok
abbrev b_MO_blank : ByteArray := prog_6_method_31_code
def y_MO_blank : MethodName := ⟨"CharacterSetsModel", "blank", "(I)Z"⟩
def w_MO_blank : List Cond := .code y_MO_blank b_MO_blank 2 (some .boolean) :: lw_ok
abbrev b_MO_plainly : ByteArray := prog_6_method_32_code
def y_MO_plainly : MethodName := ⟨"CharacterSetsModel", "plainly", "(II)Z"⟩
def w_MO_plainly : List Cond := .code y_MO_plainly b_MO_plainly 4 (some .boolean) :: lw_ok
abbrev b_MO_widely : ByteArray := prog_6_method_33_code
def y_MO_widely : MethodName := ⟨"CharacterSetsModel", "widely", "(II)Z"⟩
def w_MO_widely : List Cond := .code y_MO_widely b_MO_widely 5 (some .boolean) :: lw_ok
abbrev b_MO_names : ByteArray := prog_6_method_34_code
def y_MO_names : MethodName := ⟨"CharacterSetsModel", "names", "(II)Z"⟩
def w_MO_names : List Cond := .code y_MO_names b_MO_names 3 (some .boolean) :: lw_ok
abbrev b_MO_named : ByteArray := prog_6_method_35_code
def y_MO_named : MethodName := ⟨"CharacterSetsModel", "named", "(IIZZ)I"⟩
def w_MO_named : List Cond := .code y_MO_named b_MO_named 8 (some .int) :: lw_ok
abbrev b_MO_count : ByteArray := prog_6_method_36_code
def y_MO_count : MethodName := ⟨"CharacterSetsModel", "count", "(I)I"⟩
def w_MO_count : List Cond := .code y_MO_count b_MO_count 4 (some .int) :: lw_ok
abbrev b_MO_close : ByteArray := prog_6_method_37_code
def y_MO_close : MethodName := ⟨"CharacterSetsModel", "close", "(I)I"⟩
def w_MO_close : List Cond := .code y_MO_close b_MO_close 6 (some .int) :: lw_ok
abbrev b_MO_invert : ByteArray := prog_6_method_38_code
def y_MO_invert : MethodName := ⟨"CharacterSetsModel", "invert", "(I)I"⟩
def w_MO_invert : List Cond := .code y_MO_invert b_MO_invert 3 (some .int) :: lw_ok
abbrev b_MO_join : ByteArray := prog_6_method_39_code
def y_MO_join : MethodName := ⟨"CharacterSetsModel", "join", "(II)I"⟩
def w_MO_join : List Cond := .code y_MO_join b_MO_join 4 (some .int) :: lw_ok
abbrev b_MO_meets : ByteArray := prog_6_method_40_code
def y_MO_meets : MethodName := ⟨"CharacterSetsModel", "meets", "(II)I"⟩
def w_MO_meets : List Cond := .code y_MO_meets b_MO_meets 6 (some .int) :: lw_ok
abbrev b_MO_same : ByteArray := prog_6_method_41_code
def y_MO_same : MethodName := ⟨"CharacterSetsModel", "same", "(II)I"⟩
def w_MO_same : List Cond := .code y_MO_same b_MO_same 6 (some .int) :: lw_ok
abbrev b_MO_has : ByteArray := prog_6_method_42_code
def y_MO_has : MethodName := ⟨"CharacterSetsModel", "has", "(II)I"⟩
def w_MO_has : List Cond := .code y_MO_has b_MO_has 3 (some .int) :: lw_ok
abbrev b_MO_size : ByteArray := prog_6_method_43_code
def y_MO_size : MethodName := ⟨"CharacterSetsModel", "size", "(I)I"⟩
def w_MO_size : List Cond := .code y_MO_size b_MO_size 2 (some .int) :: lw_ok
abbrev b_MO_least : ByteArray := prog_6_method_44_code
def y_MO_least : MethodName := ⟨"CharacterSetsModel", "least", "(II)I"⟩
def w_MO_least : List Cond := .code y_MO_least b_MO_least 4 (some .int) :: lw_ok
abbrev b_MO_bound : ByteArray := prog_6_method_45_code
def y_MO_bound : MethodName := ⟨"CharacterSetsModel", "bound", "(IIZ)I"⟩
def w_MO_bound : List Cond := .code y_MO_bound b_MO_bound 6 (some .int) :: lw_ok
abbrev b_MO_after : ByteArray := prog_6_method_46_code
def y_MO_after : MethodName := ⟨"CharacterSetsModel", "after", "(II)I"⟩
def w_MO_after : List Cond := .code y_MO_after b_MO_after 4 (some .int) :: lw_ok
abbrev b_MO_about : ByteArray := prog_6_method_47_code
def y_MO_about : MethodName := ⟨"CharacterSetsModel", "about", "(II)I"⟩
def w_MO_about : List Cond := .code y_MO_about b_MO_about 3 (some .int) :: lw_ok
abbrev b_CR_init : ByteArray := prog_2_method_1_code
def y_CR_init : MethodName := ⟨"CharacterSets$CaseRings", "<init>", "(ZI)V"⟩
def w_CR_init : List Cond := .code y_CR_init b_CR_init 5 none :: lw_ok
abbrev b_CR_characterAt : ByteArray := prog_2_method_2_code
def y_CR_characterAt : MethodName := ⟨"CharacterSets$CaseRings", "characterAt", "(I)I"⟩
def w_CR_characterAt : List Cond := .code y_CR_characterAt b_CR_characterAt 1 (some .int) :: lw_ok
abbrev b_CR_nextOf : ByteArray := prog_2_method_3_code
def y_CR_nextOf : MethodName := ⟨"CharacterSets$CaseRings", "nextOf", "(I)I"⟩
def w_CR_nextOf : List Cond := .code y_CR_nextOf b_CR_nextOf 3 (some .int) :: lw_ok
abbrev b_CR_slotOf : ByteArray := prog_2_method_4_code
def y_CR_slotOf : MethodName := ⟨"CharacterSets$CaseRings", "slotOf", "(I)I"⟩
def w_CR_slotOf : List Cond := .code y_CR_slotOf b_CR_slotOf 1 (some .int) :: lw_ok
abbrev b_CR_linkPairs : ByteArray := prog_2_method_5_code
def y_CR_linkPairs : MethodName := ⟨"CharacterSets$CaseRings", "linkPairs", "(I)V"⟩
def w_CR_linkPairs : List Cond := .code y_CR_linkPairs b_CR_linkPairs 5 none :: lw_ok
abbrev b_CR_linkThree : ByteArray := prog_2_method_6_code
def y_CR_linkThree : MethodName := ⟨"CharacterSets$CaseRings", "linkThree", "(III)V"⟩
def w_CR_linkThree : List Cond := .code y_CR_linkThree b_CR_linkThree 4 none :: lw_ok
abbrev b_CR_point : ByteArray := prog_2_method_7_code
def y_CR_point : MethodName := ⟨"CharacterSets$CaseRings", "point", "(II)V"⟩
def w_CR_point : List Cond := .code y_CR_point b_CR_point 4 none :: lw_ok
abbrev b_RG_init : ByteArray := prog_3_method_1_code
def y_RG_init : MethodName := ⟨"CharacterSets$Ranges", "<init>", "()V"⟩
def w_RG_init : List Cond := .code y_RG_init b_RG_init 1 none :: lw_ok
abbrev b_RG_empty : ByteArray := prog_3_method_2_code
def y_RG_empty : MethodName := ⟨"CharacterSets$Ranges", "empty", "()V"⟩
def w_RG_empty : List Cond := .code y_RG_empty b_RG_empty 1 none :: lw_ok
abbrev b_RG_rangeCount : ByteArray := prog_3_method_3_code
def y_RG_rangeCount : MethodName := ⟨"CharacterSets$Ranges", "rangeCount", "()I"⟩
def w_RG_rangeCount : List Cond := .code y_RG_rangeCount b_RG_rangeCount 1 (some .int) :: lw_ok
abbrev b_RG_lowOf : ByteArray := prog_3_method_4_code
def y_RG_lowOf : MethodName := ⟨"CharacterSets$Ranges", "lowOf", "(I)I"⟩
def w_RG_lowOf : List Cond := .code y_RG_lowOf b_RG_lowOf 2 (some .int) :: lw_ok
abbrev b_RG_highOf : ByteArray := prog_3_method_5_code
def y_RG_highOf : MethodName := ⟨"CharacterSets$Ranges", "highOf", "(I)I"⟩
def w_RG_highOf : List Cond := .code y_RG_highOf b_RG_highOf 2 (some .int) :: lw_ok
abbrev b_RG_memberCount : ByteArray := prog_3_method_6_code
def y_RG_memberCount : MethodName := ⟨"CharacterSets$Ranges", "memberCount", "()I"⟩
def w_RG_memberCount : List Cond := .code y_RG_memberCount b_RG_memberCount 3 (some .int) :: lw_ok
abbrev b_RG_contains : ByteArray := prog_3_method_7_code
def y_RG_contains : MethodName := ⟨"CharacterSets$Ranges", "contains", "(I)Z"⟩
def w_RG_contains : List Cond := .code y_RG_contains b_RG_contains 2 (some .boolean) :: lw_ok
abbrev b_RG_firstFrom : ByteArray := prog_3_method_8_code
def y_RG_firstFrom : MethodName := ⟨"CharacterSets$Ranges", "firstFrom", "(I)I"⟩
def w_RG_firstFrom : List Cond := .code y_RG_firstFrom b_RG_firstFrom 3 (some .int) :: lw_ok
abbrev b_RG_matches : ByteArray := prog_3_method_9_code
def y_RG_matches : MethodName := ⟨"CharacterSets$Ranges", "matches", "(LCharacterSets$Ranges;)Z"⟩
def w_RG_matches : List Cond := .code y_RG_matches b_RG_matches 3 (some .boolean) :: lw_ok
abbrev b_RG_overlaps : ByteArray := prog_3_method_10_code
def y_RG_overlaps : MethodName := ⟨"CharacterSets$Ranges", "overlaps", "(LCharacterSets$Ranges;)Z"⟩
def w_RG_overlaps : List Cond := .code y_RG_overlaps b_RG_overlaps 4 (some .boolean) :: lw_ok
abbrev b_RG_insert : ByteArray := prog_3_method_11_code
def y_RG_insert : MethodName := ⟨"CharacterSets$Ranges", "insert", "(II)V"⟩
def w_RG_insert : List Cond := .code y_RG_insert b_RG_insert 9 none :: lw_ok
abbrev b_RG_insertAll : ByteArray := prog_3_method_12_code
def y_RG_insertAll : MethodName := ⟨"CharacterSets$Ranges", "insertAll", "(LCharacterSets$Ranges;)V"⟩
def w_RG_insertAll : List Cond := .code y_RG_insertAll b_RG_insertAll 3 none :: lw_ok
abbrev b_RG_complement : ByteArray := prog_3_method_13_code
def y_RG_complement : MethodName := ⟨"CharacterSets$Ranges", "complement", "(I)V"⟩
def w_RG_complement : List Cond := .code y_RG_complement b_RG_complement 2 none :: lw_ok
abbrev b_RG_edgesUpTo : ByteArray := prog_3_method_14_code
def y_RG_edgesUpTo : MethodName := ⟨"CharacterSets$Ranges", "edgesUpTo", "(I)I"⟩
def w_RG_edgesUpTo : List Cond := .code y_RG_edgesUpTo b_RG_edgesUpTo 5 (some .int) :: lw_ok
abbrev b_TB_init : ByteArray := prog_4_method_1_code
def y_TB_init : MethodName := ⟨"CharacterSets$Table", "<init>", "()V"⟩
def w_TB_init : List Cond := .code y_TB_init b_TB_init 4 none :: lw_ok
abbrev b_TB_pieceCount : ByteArray := prog_4_method_2_code
def y_TB_pieceCount : MethodName := ⟨"CharacterSets$Table", "pieceCount", "()I"⟩
def w_TB_pieceCount : List Cond := .code y_TB_pieceCount b_TB_pieceCount 1 (some .int) :: lw_ok
abbrev b_TB_pieceLow : ByteArray := prog_4_method_3_code
def y_TB_pieceLow : MethodName := ⟨"CharacterSets$Table", "pieceLow", "(I)I"⟩
def w_TB_pieceLow : List Cond := .code y_TB_pieceLow b_TB_pieceLow 2 (some .int) :: lw_ok
abbrev b_TB_pieceHigh : ByteArray := prog_4_method_4_code
def y_TB_pieceHigh : MethodName := ⟨"CharacterSets$Table", "pieceHigh", "(I)I"⟩
def w_TB_pieceHigh : List Cond := .code y_TB_pieceHigh b_TB_pieceHigh 2 (some .int) :: lw_ok
abbrev b_TB_pieceCategory : ByteArray := prog_4_method_5_code
def y_TB_pieceCategory : MethodName := ⟨"CharacterSets$Table", "pieceCategory", "(I)I"⟩
def w_TB_pieceCategory : List Cond := .code y_TB_pieceCategory b_TB_pieceCategory 2 (some .int) :: lw_ok
abbrev b_TB_pieceScript : ByteArray := prog_4_method_6_code
def y_TB_pieceScript : MethodName := ⟨"CharacterSets$Table", "pieceScript", "(I)I"⟩
def w_TB_pieceScript : List Cond := .code y_TB_pieceScript b_TB_pieceScript 2 (some .int) :: lw_ok
abbrev b_TB_categoryOf : ByteArray := prog_4_method_7_code
def y_TB_categoryOf : MethodName := ⟨"CharacterSets$Table", "categoryOf", "(I)I"⟩
def w_TB_categoryOf : List Cond := .code y_TB_categoryOf b_TB_categoryOf 2 (some .int) :: lw_ok
abbrev b_TB_scriptOf : ByteArray := prog_4_method_8_code
def y_TB_scriptOf : MethodName := ⟨"CharacterSets$Table", "scriptOf", "(I)I"⟩
def w_TB_scriptOf : List Cond := .code y_TB_scriptOf b_TB_scriptOf 2 (some .int) :: lw_ok
abbrev b_TB_pieceOf : ByteArray := prog_4_method_9_code
def y_TB_pieceOf : MethodName := ⟨"CharacterSets$Table", "pieceOf", "(I)I"⟩
def w_TB_pieceOf : List Cond := .code y_TB_pieceOf b_TB_pieceOf 4 (some .int) :: lw_ok
abbrev b_TB_addRow : ByteArray := prog_4_method_10_code
def y_TB_addRow : MethodName := ⟨"CharacterSets$Table", "addRow", "(III)V"⟩
def w_TB_addRow : List Cond := .code y_TB_addRow b_TB_addRow 5 none :: lw_ok
abbrev b_TB_addPiece : ByteArray := prog_4_method_11_code
def y_TB_addPiece : MethodName := ⟨"CharacterSets$Table", "addPiece", "(II)V"⟩
def w_TB_addPiece : List Cond := .code y_TB_addPiece b_TB_addPiece 3 none :: lw_ok
abbrev b_TB_findScript : ByteArray := prog_4_method_12_code
def y_TB_findScript : MethodName := ⟨"CharacterSets$Table", "findScript", "(II)I"⟩
def w_TB_findScript : List Cond := .code y_TB_findScript b_TB_findScript 3 (some .int) :: lw_ok
abbrev b_LA_cell : ByteArray := method_2_code
def y_LA_cell : MethodName := ⟨"CharacterSetsLaw", "cell", "([II)I"⟩
def w_LA_cell : List Cond := .code y_LA_cell b_LA_cell 2 (some .int) :: lw_ok
theorem s_0 : (.selects "CharacterSets$Table" ⟨"CharacterSets$Table", "addPiece", "(II)V"⟩ ⟨"CharacterSets$Table", "addPiece", "(II)V"⟩ : Cond) ∈ lw_ok := lw_in (List.mem_append_left _ (List.mem_of_getElem? (i := 0) rfl)) rfl
theorem s_1 : (.selects "CharacterSets$Table" ⟨"CharacterSets$Table", "addRow", "(III)V"⟩ ⟨"CharacterSets$Table", "addRow", "(III)V"⟩ : Cond) ∈ lw_ok := lw_in (List.mem_append_left _ (List.mem_of_getElem? (i := 1) rfl)) rfl
theorem s_2 : (.selects "CharacterSets$CaseRings" ⟨"CharacterSets$CaseRings", "linkPairs", "(I)V"⟩ ⟨"CharacterSets$CaseRings", "linkPairs", "(I)V"⟩ : Cond) ∈ lw_ok := lw_in (List.mem_append_left _ (List.mem_of_getElem? (i := 2) rfl)) rfl
theorem s_3 : (.selects "CharacterSets$CaseRings" ⟨"CharacterSets$CaseRings", "point", "(II)V"⟩ ⟨"CharacterSets$CaseRings", "point", "(II)V"⟩ : Cond) ∈ lw_ok := lw_in (List.mem_append_left _ (List.mem_of_getElem? (i := 3) rfl)) rfl
theorem s_4 : (.selects "CharacterSets$CaseRings" ⟨"CharacterSets$CaseRings", "linkThree", "(III)V"⟩ ⟨"CharacterSets$CaseRings", "linkThree", "(III)V"⟩ : Cond) ∈ lw_ok := lw_in (List.mem_append_left _ (List.mem_of_getElem? (i := 4) rfl)) rfl
theorem s_5 : (.selects "CharacterSets" ⟨"CharacterSets", "isThere", "(I)Z"⟩ ⟨"CharacterSets", "isThere", "(I)Z"⟩ : Cond) ∈ lw_ok := lw_in (List.mem_append_left _ (List.mem_of_getElem? (i := 5) rfl)) rfl
theorem s_6 : (.selects "CharacterSets$Ranges" ⟨"CharacterSets$Ranges", "edgesUpTo", "(I)I"⟩ ⟨"CharacterSets$Ranges", "edgesUpTo", "(I)I"⟩ : Cond) ∈ lw_ok := lw_in (List.mem_append_left _ (List.mem_of_getElem? (i := 6) rfl)) rfl
theorem s_7 : (.selects "CharacterSets" ⟨"CharacterSets", "gatherProperty", "(I)V"⟩ ⟨"CharacterSets", "gatherProperty", "(I)V"⟩ : Cond) ∈ lw_ok := lw_in (List.mem_append_left _ (List.mem_of_getElem? (i := 7) rfl)) rfl
theorem s_8 : (.selects "CharacterSets" ⟨"CharacterSets", "gatherScript", "(I)V"⟩ ⟨"CharacterSets", "gatherScript", "(I)V"⟩ : Cond) ∈ lw_ok := lw_in (List.mem_append_left _ (List.mem_of_getElem? (i := 8) rfl)) rfl
theorem s_9 : (.selects "CharacterSets" ⟨"CharacterSets", "gather", "(II)V"⟩ ⟨"CharacterSets", "gather", "(II)V"⟩ : Cond) ∈ lw_ok := lw_in (List.mem_append_left _ (List.mem_of_getElem? (i := 9) rfl)) rfl
theorem s_10 : (.selects "CharacterSets" ⟨"CharacterSets", "gatherCategories", "(II)V"⟩ ⟨"CharacterSets", "gatherCategories", "(II)V"⟩ : Cond) ∈ lw_ok := lw_in (List.mem_append_left _ (List.mem_of_getElem? (i := 10) rfl)) rfl
theorem s_11 : (.selects "CharacterSets" ⟨"CharacterSets", "addGathered", "(LCharacterSets$Ranges;Z)I"⟩ ⟨"CharacterSets", "addGathered", "(LCharacterSets$Ranges;Z)I"⟩ : Cond) ∈ lw_ok := lw_in (List.mem_append_left _ (List.mem_of_getElem? (i := 11) rfl)) rfl
theorem s_12 : (.selects "CharacterSets" ⟨"CharacterSets", "gatherNamed", "(I)V"⟩ ⟨"CharacterSets", "gatherNamed", "(I)V"⟩ : Cond) ∈ lw_ok := lw_in (List.mem_append_left _ (List.mem_of_getElem? (i := 12) rfl)) rfl
theorem s_13 : (.selects "CharacterSets" ⟨"CharacterSets", "gatherList", "([I)V"⟩ ⟨"CharacterSets", "gatherList", "([I)V"⟩ : Cond) ∈ lw_ok := lw_in (List.mem_append_left _ (List.mem_of_getElem? (i := 13) rfl)) rfl
theorem s_14 : (.selects "CharacterSets" ⟨"CharacterSets", "isMissing", "(LCharacterSets$Ranges;I)Z"⟩ ⟨"CharacterSets", "isMissing", "(LCharacterSets$Ranges;I)Z"⟩ : Cond) ∈ lw_ok := lw_in (List.mem_append_left _ (List.mem_of_getElem? (i := 14) rfl)) rfl
theorem s_15 : (.selects "CharacterSets$Table" ⟨"CharacterSets$Table", "pieceOf", "(I)I"⟩ ⟨"CharacterSets$Table", "pieceOf", "(I)I"⟩ : Cond) ∈ lw_ok := lw_in (List.mem_append_left _ (List.mem_of_getElem? (i := 15) rfl)) rfl
theorem s_16 : (.selects "CharacterSets" ⟨"CharacterSets", "upperOf", "(I)I"⟩ ⟨"CharacterSets", "upperOf", "(I)I"⟩ : Cond) ∈ lw_ok := lw_in (List.mem_append_left _ (List.mem_of_getElem? (i := 16) rfl)) rfl
theorem s_17 : (.selects "CharacterSets" ⟨"CharacterSets", "lowerOf", "(I)I"⟩ ⟨"CharacterSets", "lowerOf", "(I)I"⟩ : Cond) ∈ lw_ok := lw_in (List.mem_append_left _ (List.mem_of_getElem? (i := 17) rfl)) rfl
theorem s_18 : (.selects "CharacterSetsModel" ⟨"CharacterSetsModel", "table0", "()V"⟩ ⟨"CharacterSetsModel", "table0", "()V"⟩ : Cond) ∈ lw_ok := lw_in (List.mem_append_left _ (List.mem_of_getElem? (i := 18) rfl)) rfl
theorem s_19 : (.selects "CharacterSetsModel" ⟨"CharacterSetsModel", "kinds", "(III)V"⟩ ⟨"CharacterSetsModel", "kinds", "(III)V"⟩ : Cond) ∈ lw_ok := lw_in (List.mem_append_left _ (List.mem_of_getElem? (i := 19) rfl)) rfl
theorem s_20 : (.selects "CharacterSetsModel" ⟨"CharacterSetsModel", "table1", "()V"⟩ ⟨"CharacterSetsModel", "table1", "()V"⟩ : Cond) ∈ lw_ok := lw_in (List.mem_append_left _ (List.mem_of_getElem? (i := 20) rfl)) rfl
theorem s_21 : (.selects "CharacterSetsModel" ⟨"CharacterSetsModel", "table2", "()V"⟩ ⟨"CharacterSetsModel", "table2", "()V"⟩ : Cond) ∈ lw_ok := lw_in (List.mem_append_left _ (List.mem_of_getElem? (i := 21) rfl)) rfl
theorem s_22 : (.selects "CharacterSetsModel" ⟨"CharacterSetsModel", "table3", "()V"⟩ ⟨"CharacterSetsModel", "table3", "()V"⟩ : Cond) ∈ lw_ok := lw_in (List.mem_append_left _ (List.mem_of_getElem? (i := 22) rfl)) rfl
theorem s_23 : (.selects "CharacterSetsModel" ⟨"CharacterSetsModel", "none", "(I)Z"⟩ ⟨"CharacterSetsModel", "none", "(I)Z"⟩ : Cond) ∈ lw_ok := lw_in (List.mem_append_left _ (List.mem_of_getElem? (i := 23) rfl)) rfl
theorem s_24 : (.selects "CharacterSetsModel" ⟨"CharacterSetsModel", "fill", "(III)V"⟩ ⟨"CharacterSetsModel", "fill", "(III)V"⟩ : Cond) ∈ lw_ok := lw_in (List.mem_append_left _ (List.mem_of_getElem? (i := 24) rfl)) rfl
theorem s_25 : (.selects "CharacterSetsModel" ⟨"CharacterSetsModel", "put", "(II)V"⟩ ⟨"CharacterSetsModel", "put", "(II)V"⟩ : Cond) ∈ lw_ok := lw_in (List.mem_append_left _ (List.mem_of_getElem? (i := 25) rfl)) rfl
theorem s_26 : (.selects "CharacterSetsModel" ⟨"CharacterSetsModel", "ranges", "(I)I"⟩ ⟨"CharacterSetsModel", "ranges", "(I)I"⟩ : Cond) ∈ lw_ok := lw_in (List.mem_append_left _ (List.mem_of_getElem? (i := 26) rfl)) rfl
theorem s_27 : (.selects "CharacterSetsModel" ⟨"CharacterSetsModel", "ones", "(J)I"⟩ ⟨"CharacterSetsModel", "ones", "(J)I"⟩ : Cond) ∈ lw_ok := lw_in (List.mem_append_left _ (List.mem_of_getElem? (i := 27) rfl)) rfl
theorem s_28 : (.selects "CharacterSetsModel" ⟨"CharacterSetsModel", "holds", "(II)Z"⟩ ⟨"CharacterSetsModel", "holds", "(II)Z"⟩ : Cond) ∈ lw_ok := lw_in (List.mem_append_left _ (List.mem_of_getElem? (i := 28) rfl)) rfl
theorem s_29 : (.selects "CharacterSetsModel" ⟨"CharacterSetsModel", "category", "(I)I"⟩ ⟨"CharacterSetsModel", "category", "(I)I"⟩ : Cond) ∈ lw_ok := lw_in (List.mem_append_left _ (List.mem_of_getElem? (i := 29) rfl)) rfl
theorem s_30 : (.selects "CharacterSetsModel" ⟨"CharacterSetsModel", "general", "(II)Z"⟩ ⟨"CharacterSetsModel", "general", "(II)Z"⟩ : Cond) ∈ lw_ok := lw_in (List.mem_append_left _ (List.mem_of_getElem? (i := 30) rfl)) rfl
theorem s_31 : (.selects "CharacterSetsModel" ⟨"CharacterSetsModel", "script", "(I)I"⟩ ⟨"CharacterSetsModel", "script", "(I)I"⟩ : Cond) ∈ lw_ok := lw_in (List.mem_append_left _ (List.mem_of_getElem? (i := 31) rfl)) rfl
theorem s_32 : (.selects "CharacterSetsModel" ⟨"CharacterSetsModel", "names", "(II)Z"⟩ ⟨"CharacterSetsModel", "names", "(II)Z"⟩ : Cond) ∈ lw_ok := lw_in (List.mem_append_left _ (List.mem_of_getElem? (i := 32) rfl)) rfl
theorem s_33 : (.selects "CharacterSetsModel" ⟨"CharacterSetsModel", "widely", "(II)Z"⟩ ⟨"CharacterSetsModel", "widely", "(II)Z"⟩ : Cond) ∈ lw_ok := lw_in (List.mem_append_left _ (List.mem_of_getElem? (i := 33) rfl)) rfl
theorem s_34 : (.selects "CharacterSetsModel" ⟨"CharacterSetsModel", "blank", "(I)Z"⟩ ⟨"CharacterSetsModel", "blank", "(I)Z"⟩ : Cond) ∈ lw_ok := lw_in (List.mem_append_left _ (List.mem_of_getElem? (i := 34) rfl)) rfl
theorem s_35 : (.selects "CharacterSetsModel" ⟨"CharacterSetsModel", "plainly", "(II)Z"⟩ ⟨"CharacterSetsModel", "plainly", "(II)Z"⟩ : Cond) ∈ lw_ok := lw_in (List.mem_append_left _ (List.mem_of_getElem? (i := 35) rfl)) rfl
theorem s_36 : (.selects "CharacterSetsModel" ⟨"CharacterSetsModel", "digit", "(I)Z"⟩ ⟨"CharacterSetsModel", "digit", "(I)Z"⟩ : Cond) ∈ lw_ok := lw_in (List.mem_append_left _ (List.mem_of_getElem? (i := 36) rfl)) rfl
theorem s_37 : (.selects "CharacterSetsModel" ⟨"CharacterSetsModel", "alpha", "(I)Z"⟩ ⟨"CharacterSetsModel", "alpha", "(I)Z"⟩ : Cond) ∈ lw_ok := lw_in (List.mem_append_left _ (List.mem_of_getElem? (i := 37) rfl)) rfl
theorem s_38 : (.selects "CharacterSetsModel" ⟨"CharacterSetsModel", "count", "(I)I"⟩ ⟨"CharacterSetsModel", "count", "(I)I"⟩ : Cond) ∈ lw_ok := lw_in (List.mem_append_left _ (List.mem_of_getElem? (i := 38) rfl)) rfl
theorem s_39 : (.selects "CharacterSetsModel" ⟨"CharacterSetsModel", "in", "(II)Z"⟩ ⟨"CharacterSetsModel", "in", "(II)Z"⟩ : Cond) ∈ lw_ok := lw_in (List.mem_append_left _ (List.mem_of_getElem? (i := 39) rfl)) rfl
theorem s_40 : (.selects "CharacterSetsModel" ⟨"CharacterSetsModel", "caseOf", "(I)V"⟩ ⟨"CharacterSetsModel", "caseOf", "(I)V"⟩ : Cond) ∈ lw_ok := lw_in (List.mem_append_left _ (List.mem_of_getElem? (i := 40) rfl)) rfl
theorem s_41 : (.selects "CharacterSetsModel" ⟨"CharacterSetsModel", "first", "(I)I"⟩ ⟨"CharacterSetsModel", "first", "(I)I"⟩ : Cond) ∈ lw_ok := lw_in (List.mem_append_left _ (List.mem_of_getElem? (i := 41) rfl)) rfl
theorem s_42 : (.selects "CharacterSetsModel" ⟨"CharacterSetsModel", "third", "(I)I"⟩ ⟨"CharacterSetsModel", "third", "(I)I"⟩ : Cond) ∈ lw_ok := lw_in (List.mem_append_left _ (List.mem_of_getElem? (i := 42) rfl)) rfl
theorem s_43 : (.selects "CharacterSetsModel" ⟨"CharacterSetsModel", "pair", "(I)I"⟩ ⟨"CharacterSetsModel", "pair", "(I)I"⟩ : Cond) ∈ lw_ok := lw_in (List.mem_append_left _ (List.mem_of_getElem? (i := 43) rfl)) rfl
theorem s_44 : (.selects "CharacterSetsModel" ⟨"CharacterSetsModel", "inAny", "(III)Z"⟩ ⟨"CharacterSetsModel", "inAny", "(III)Z"⟩ : Cond) ∈ lw_ok := lw_in (List.mem_append_left _ (List.mem_of_getElem? (i := 44) rfl)) rfl
theorem s_45 : (.selects "CharacterSetsModel" ⟨"CharacterSetsModel", "withMate", "(I)V"⟩ ⟨"CharacterSetsModel", "withMate", "(I)V"⟩ : Cond) ∈ lw_ok := lw_in (List.mem_append_left _ (List.mem_of_getElem? (i := 45) rfl)) rfl
theorem s_46 : (.selects "CharacterSetsModel" ⟨"CharacterSetsModel", "after", "(II)I"⟩ ⟨"CharacterSetsModel", "after", "(II)I"⟩ : Cond) ∈ lw_ok := lw_in (List.mem_append_left _ (List.mem_of_getElem? (i := 46) rfl)) rfl
theorem s_47 : (.selects "CharacterSetsModel" ⟨"CharacterSetsModel", "upper", "(I)I"⟩ ⟨"CharacterSetsModel", "upper", "(I)I"⟩ : Cond) ∈ lw_ok := lw_in (List.mem_append_left _ (List.mem_of_getElem? (i := 47) rfl)) rfl
theorem s_48 : (.selects "CharacterSetsModel" ⟨"CharacterSetsModel", "lower", "(I)I"⟩ ⟨"CharacterSetsModel", "lower", "(I)I"⟩ : Cond) ∈ lw_ok := lw_in (List.mem_append_left _ (List.mem_of_getElem? (i := 48) rfl)) rfl
theorem s_49 : (.selects "CharacterSetsModel" ⟨"CharacterSetsModel", "next", "(I)I"⟩ ⟨"CharacterSetsModel", "next", "(I)I"⟩ : Cond) ∈ lw_ok := lw_in (List.mem_append_left _ (List.mem_of_getElem? (i := 49) rfl)) rfl
theorem k_0 : (Jvm.Cond.initialized "CharacterSetsLaw" : Cond) ∈ lw_ok := lw_in (List.mem_append_right _ (List.mem_append_left _ (List.mem_of_getElem? (i := 0) rfl))) rfl
theorem k_1 : (Jvm.Cond.initialized "CharacterSets" : Cond) ∈ lw_ok := lw_in (List.mem_append_right _ (List.mem_append_left _ (List.mem_of_getElem? (i := 1) rfl))) rfl
theorem k_2 : (Jvm.Cond.initialized "CharacterSets$Table" : Cond) ∈ lw_ok := lw_in (List.mem_append_right _ (List.mem_append_left _ (List.mem_of_getElem? (i := 2) rfl))) rfl
theorem k_3 : (Jvm.Cond.initialized "CharacterSets$CaseRings" : Cond) ∈ lw_ok := lw_in (List.mem_append_right _ (List.mem_append_left _ (List.mem_of_getElem? (i := 3) rfl))) rfl
theorem k_4 : (Jvm.Cond.initialized "CharacterSets$Ranges" : Cond) ∈ lw_ok := lw_in (List.mem_append_right _ (List.mem_append_left _ (List.mem_of_getElem? (i := 4) rfl))) rfl
theorem k_5 : (Jvm.Cond.initialized "CharacterSetsModel" : Cond) ∈ lw_ok := lw_in (List.mem_append_right _ (List.mem_append_left _ (List.mem_of_getElem? (i := 5) rfl))) rfl
theorem k_6 : (Jvm.Cond.initialized "java/lang/System" : Cond) ∈ lw_ok := lw_in (List.mem_append_right _ (List.mem_append_left _ (List.mem_of_getElem? (i := 6) rfl))) rfl
theorem k_7 : (Jvm.Cond.initialized "java/lang/Math" : Cond) ∈ lw_ok := lw_in (List.mem_append_right _ (List.mem_append_left _ (List.mem_of_getElem? (i := 7) rfl))) rfl
theorem k_8 : (Jvm.Cond.classLink "CharacterSetsLaw" (7 : Nat) "CharacterSets" : Cond) ∈ lw_ok := lw_in (List.mem_append_right _ (List.mem_append_left _ (List.mem_of_getElem? (i := 8) rfl))) rfl
theorem k_9 : (Jvm.Cond.instantiable "CharacterSets" (6 : Nat) : Cond) ∈ lw_ok := lw_in (List.mem_append_right _ (List.mem_append_left _ (List.mem_of_getElem? (i := 9) rfl))) rfl
theorem k_10 : (Jvm.Cond.methodLink "CharacterSetsLaw" (15 : Nat) ({ cls := "CharacterSets", name := "<init>", desc := "(I)V" } : Jvm.MethodName) : Cond) ∈ lw_ok := lw_in (List.mem_append_right _ (List.mem_append_left _ (List.mem_of_getElem? (i := 10) rfl))) rfl
theorem k_11 : (Jvm.Cond.instanceMethod ({ cls := "CharacterSets", name := "<init>", desc := "(I)V" } : Jvm.MethodName) : Cond) ∈ lw_ok := lw_in (List.mem_append_right _ (List.mem_append_left _ (List.mem_of_getElem? (i := 11) rfl))) rfl
theorem k_12 : (Jvm.Cond.code ({ cls := "CharacterSets", name := "<init>", desc := "(I)V" } : Jvm.MethodName) prog_1_method_1_code (4 : Nat) (Option.none : Option Jvm.ClassFile.FieldType) : Cond) ∈ lw_ok := lw_in (List.mem_append_right _ (List.mem_append_left _ (List.mem_of_getElem? (i := 12) rfl))) rfl
theorem k_13 : (Jvm.Cond.methodLink "CharacterSets" (3 : Nat) ({ cls := "java/lang/Object", name := "<init>", desc := "()V" } : Jvm.MethodName) : Cond) ∈ lw_ok := lw_in (List.mem_append_right _ (List.mem_append_left _ (List.mem_of_getElem? (i := 13) rfl))) rfl
theorem k_14 : (Jvm.Cond.instanceMethod ({ cls := "java/lang/Object", name := "<init>", desc := "()V" } : Jvm.MethodName) : Cond) ∈ lw_ok := lw_in (List.mem_append_right _ (List.mem_append_left _ (List.mem_of_getElem? (i := 14) rfl))) rfl
theorem k_15 : (Jvm.Cond.code ({ cls := "java/lang/Object", name := "<init>", desc := "()V" } : Jvm.MethodName) object_method_1_code (1 : Nat) (Option.none : Option Jvm.ClassFile.FieldType) : Cond) ∈ lw_ok := lw_in (List.mem_append_right _ (List.mem_append_left _ (List.mem_of_getElem? (i := 15) rfl))) rfl
theorem k_16 : (Jvm.Cond.constant "CharacterSets" (13 : Nat) (1114111 : Int32) : Cond) ∈ lw_ok := lw_in (List.mem_append_right _ (List.mem_append_left _ (List.mem_of_getElem? (i := 16) rfl))) rfl
theorem k_17 : (Jvm.Cond.classLink "CharacterSets" (18 : Nat) "CharacterSets$Table" : Cond) ∈ lw_ok := lw_in (List.mem_append_right _ (List.mem_append_left _ (List.mem_of_getElem? (i := 17) rfl))) rfl
theorem k_18 : (Jvm.Cond.instantiable "CharacterSets$Table" (4 : Nat) : Cond) ∈ lw_ok := lw_in (List.mem_append_right _ (List.mem_append_left _ (List.mem_of_getElem? (i := 18) rfl))) rfl
theorem k_19 : (Jvm.Cond.methodLink "CharacterSets" (20 : Nat) ({ cls := "CharacterSets$Table", name := "<init>", desc := "()V" } : Jvm.MethodName) : Cond) ∈ lw_ok := lw_in (List.mem_append_right _ (List.mem_append_left _ (List.mem_of_getElem? (i := 19) rfl))) rfl
theorem k_20 : (Jvm.Cond.instanceMethod ({ cls := "CharacterSets$Table", name := "<init>", desc := "()V" } : Jvm.MethodName) : Cond) ∈ lw_ok := lw_in (List.mem_append_right _ (List.mem_append_left _ (List.mem_of_getElem? (i := 20) rfl))) rfl
theorem k_21 : (Jvm.Cond.code ({ cls := "CharacterSets$Table", name := "<init>", desc := "()V" } : Jvm.MethodName) prog_4_method_1_code (4 : Nat) (Option.none : Option Jvm.ClassFile.FieldType) : Cond) ∈ lw_ok := lw_in (List.mem_append_right _ (List.mem_append_left _ (List.mem_of_getElem? (i := 21) rfl))) rfl
theorem k_22 : (Jvm.Cond.methodLink "CharacterSets$Table" (3 : Nat) ({ cls := "java/lang/Object", name := "<init>", desc := "()V" } : Jvm.MethodName) : Cond) ∈ lw_ok := lw_in (List.mem_append_right _ (List.mem_append_left _ (List.mem_of_getElem? (i := 22) rfl))) rfl
theorem k_23 : (Jvm.Cond.fieldLink "CharacterSets$Table" (25 : Nat) "CharacterSets$Table" "CATEGORY_ROWS" "[I" : Cond) ∈ lw_ok := lw_in (List.mem_append_right _ (List.mem_append_left _ (List.mem_of_getElem? (i := 23) rfl))) rfl
theorem k_24 : (Jvm.Cond.laysStatic "CharacterSets$Table" "CATEGORY_ROWS" "[I" : Cond) ∈ lw_tbl := List.mem_append_right _ (List.mem_append_left _ (List.mem_of_getElem? (i := 24) rfl))
theorem k_25 : (Jvm.Cond.methodLink "CharacterSets$Table" (28 : Nat) ({ cls := "CharacterSets$Table", name := "addPiece", desc := "(II)V" } : Jvm.MethodName) : Cond) ∈ lw_ok := lw_in (List.mem_append_right _ (List.mem_append_left _ (List.mem_of_getElem? (i := 25) rfl))) rfl
theorem k_26 : (Jvm.Cond.privateMethod ({ cls := "CharacterSets$Table", name := "addPiece", desc := "(II)V" } : Jvm.MethodName) : Cond) ∈ lw_tbl := List.mem_append_right _ (List.mem_append_left _ (List.mem_of_getElem? (i := 26) rfl))
theorem k_27 : (Jvm.Cond.instanceMethod ({ cls := "CharacterSets$Table", name := "addPiece", desc := "(II)V" } : Jvm.MethodName) : Cond) ∈ lw_ok := lw_in (List.mem_append_right _ (List.mem_append_left _ (List.mem_of_getElem? (i := 27) rfl))) rfl
theorem k_28 : (Jvm.Cond.code ({ cls := "CharacterSets$Table", name := "addPiece", desc := "(II)V" } : Jvm.MethodName) prog_4_method_11_code (3 : Nat) (Option.none : Option Jvm.ClassFile.FieldType) : Cond) ∈ lw_ok := lw_in (List.mem_append_right _ (List.mem_append_left _ (List.mem_of_getElem? (i := 28) rfl))) rfl
theorem k_29 : (Jvm.Cond.methodLink "CharacterSets$Table" (41 : Nat) ({ cls := "CharacterSets$Table", name := "findScript", desc := "(II)I" } : Jvm.MethodName) : Cond) ∈ lw_ok := lw_in (List.mem_append_right _ (List.mem_append_left _ (List.mem_of_getElem? (i := 29) rfl))) rfl
theorem k_30 : (Jvm.Cond.static ({ cls := "CharacterSets$Table", name := "findScript", desc := "(II)I" } : Jvm.MethodName) : Cond) ∈ lw_ok := lw_in (List.mem_append_right _ (List.mem_append_left _ (List.mem_of_getElem? (i := 30) rfl))) rfl
theorem k_31 : (Jvm.Cond.code ({ cls := "CharacterSets$Table", name := "findScript", desc := "(II)I" } : Jvm.MethodName) prog_4_method_12_code (3 : Nat) (Option.some Jvm.ClassFile.FieldType.int) : Cond) ∈ lw_ok := lw_in (List.mem_append_right _ (List.mem_append_left _ (List.mem_of_getElem? (i := 31) rfl))) rfl
theorem k_32 : (Jvm.Cond.fieldLink "CharacterSets$Table" (45 : Nat) "CharacterSets$Table" "SCRIPT_ROWS" "[I" : Cond) ∈ lw_ok := lw_in (List.mem_append_right _ (List.mem_append_left _ (List.mem_of_getElem? (i := 32) rfl))) rfl
theorem k_33 : (Jvm.Cond.laysStatic "CharacterSets$Table" "SCRIPT_ROWS" "[I" : Cond) ∈ lw_tbl := List.mem_append_right _ (List.mem_append_left _ (List.mem_of_getElem? (i := 33) rfl))
theorem k_34 : (Jvm.Cond.methodLink "CharacterSets$Table" (32 : Nat) ({ cls := "CharacterSets$Table", name := "addRow", desc := "(III)V" } : Jvm.MethodName) : Cond) ∈ lw_ok := lw_in (List.mem_append_right _ (List.mem_append_left _ (List.mem_of_getElem? (i := 34) rfl))) rfl
theorem k_35 : (Jvm.Cond.privateMethod ({ cls := "CharacterSets$Table", name := "addRow", desc := "(III)V" } : Jvm.MethodName) : Cond) ∈ lw_tbl := List.mem_append_right _ (List.mem_append_left _ (List.mem_of_getElem? (i := 35) rfl))
theorem k_36 : (Jvm.Cond.instanceMethod ({ cls := "CharacterSets$Table", name := "addRow", desc := "(III)V" } : Jvm.MethodName) : Cond) ∈ lw_ok := lw_in (List.mem_append_right _ (List.mem_append_left _ (List.mem_of_getElem? (i := 36) rfl))) rfl
theorem k_37 : (Jvm.Cond.code ({ cls := "CharacterSets$Table", name := "addRow", desc := "(III)V" } : Jvm.MethodName) prog_4_method_10_code (5 : Nat) (Option.none : Option Jvm.ClassFile.FieldType) : Cond) ∈ lw_ok := lw_in (List.mem_append_right _ (List.mem_append_left _ (List.mem_of_getElem? (i := 37) rfl))) rfl
theorem k_38 : (Jvm.Cond.fieldLink "CharacterSets$Table" (11 : Nat) "CharacterSets$Table" "lows" "[I" : Cond) ∈ lw_ok := lw_in (List.mem_append_right _ (List.mem_append_left _ (List.mem_of_getElem? (i := 38) rfl))) rfl
theorem k_39 : (Jvm.Cond.fieldLink "CharacterSets$Table" (15 : Nat) "CharacterSets$Table" "categories" "[I" : Cond) ∈ lw_ok := lw_in (List.mem_append_right _ (List.mem_append_left _ (List.mem_of_getElem? (i := 39) rfl))) rfl
theorem k_40 : (Jvm.Cond.fieldLink "CharacterSets$Table" (18 : Nat) "CharacterSets$Table" "scripts" "[I" : Cond) ∈ lw_ok := lw_in (List.mem_append_right _ (List.mem_append_left _ (List.mem_of_getElem? (i := 40) rfl))) rfl
theorem k_41 : (Jvm.Cond.fieldLink "CharacterSets$Table" (21 : Nat) "CharacterSets$Table" "count" "I" : Cond) ∈ lw_ok := lw_in (List.mem_append_right _ (List.mem_append_left _ (List.mem_of_getElem? (i := 41) rfl))) rfl
theorem k_42 : (Jvm.Cond.laysFinal "CharacterSets$Table" "CharacterSets$Table" "lows" "[I" : Cond) ∈ lw_ok := lw_in (List.mem_append_right _ (List.mem_append_left _ (List.mem_of_getElem? (i := 42) rfl))) rfl
theorem k_43 : (Jvm.Cond.soleField "CharacterSets$Table" "lows" : Cond) ∈ lw_ok := lw_in (List.mem_append_right _ (List.mem_append_left _ (List.mem_of_getElem? (i := 43) rfl))) rfl
theorem k_44 : (Jvm.Cond.laysFinal "CharacterSets$Table" "CharacterSets$Table" "categories" "[I" : Cond) ∈ lw_ok := lw_in (List.mem_append_right _ (List.mem_append_left _ (List.mem_of_getElem? (i := 44) rfl))) rfl
theorem k_45 : (Jvm.Cond.soleField "CharacterSets$Table" "categories" : Cond) ∈ lw_ok := lw_in (List.mem_append_right _ (List.mem_append_left _ (List.mem_of_getElem? (i := 45) rfl))) rfl
theorem k_46 : (Jvm.Cond.laysFinal "CharacterSets$Table" "CharacterSets$Table" "scripts" "[I" : Cond) ∈ lw_ok := lw_in (List.mem_append_right _ (List.mem_append_left _ (List.mem_of_getElem? (i := 46) rfl))) rfl
theorem k_47 : (Jvm.Cond.soleField "CharacterSets$Table" "scripts" : Cond) ∈ lw_ok := lw_in (List.mem_append_right _ (List.mem_append_left _ (List.mem_of_getElem? (i := 47) rfl))) rfl
theorem k_48 : (Jvm.Cond.lays "CharacterSets$Table" "CharacterSets$Table" "count" "I" : Cond) ∈ lw_ok := lw_in (List.mem_append_right _ (List.mem_append_left _ (List.mem_of_getElem? (i := 48) rfl))) rfl
theorem k_49 : (Jvm.Cond.soleField "CharacterSets$Table" "count" : Cond) ∈ lw_ok := lw_in (List.mem_append_right _ (List.mem_append_left _ (List.mem_of_getElem? (i := 49) rfl))) rfl
theorem k_50 : (Jvm.Cond.superclass "CharacterSets$Table" "java/lang/Object" : Cond) ∈ lw_ok := lw_in (List.mem_append_right _ (List.mem_append_left _ (List.mem_of_getElem? (i := 50) rfl))) rfl
theorem k_51 : (Jvm.Cond.arrayClass Jvm.ClassFile.FieldType.int : Cond) ∈ lw_ok := lw_in (List.mem_append_right _ (List.mem_append_left _ (List.mem_of_getElem? (i := 51) rfl))) rfl
theorem k_52 : (Jvm.Cond.classLink "CharacterSets" (25 : Nat) "CharacterSets$CaseRings" : Cond) ∈ lw_ok := lw_in (List.mem_append_right _ (List.mem_append_left _ (List.mem_of_getElem? (i := 52) rfl))) rfl
theorem k_53 : (Jvm.Cond.instantiable "CharacterSets$CaseRings" (2 : Nat) : Cond) ∈ lw_ok := lw_in (List.mem_append_right _ (List.mem_append_left _ (List.mem_of_getElem? (i := 53) rfl))) rfl
theorem k_54 : (Jvm.Cond.methodLink "CharacterSets" (27 : Nat) ({ cls := "CharacterSets$CaseRings", name := "<init>", desc := "(ZI)V" } : Jvm.MethodName) : Cond) ∈ lw_ok := lw_in (List.mem_append_right _ (List.mem_append_left _ (List.mem_of_getElem? (i := 54) rfl))) rfl
theorem k_55 : (Jvm.Cond.instanceMethod ({ cls := "CharacterSets$CaseRings", name := "<init>", desc := "(ZI)V" } : Jvm.MethodName) : Cond) ∈ lw_ok := lw_in (List.mem_append_right _ (List.mem_append_left _ (List.mem_of_getElem? (i := 55) rfl))) rfl
theorem k_56 : (Jvm.Cond.code ({ cls := "CharacterSets$CaseRings", name := "<init>", desc := "(ZI)V" } : Jvm.MethodName) prog_2_method_1_code (5 : Nat) (Option.none : Option Jvm.ClassFile.FieldType) : Cond) ∈ lw_ok := lw_in (List.mem_append_right _ (List.mem_append_left _ (List.mem_of_getElem? (i := 56) rfl))) rfl
theorem k_57 : (Jvm.Cond.methodLink "CharacterSets$CaseRings" (3 : Nat) ({ cls := "java/lang/Object", name := "<init>", desc := "()V" } : Jvm.MethodName) : Cond) ∈ lw_ok := lw_in (List.mem_append_right _ (List.mem_append_left _ (List.mem_of_getElem? (i := 57) rfl))) rfl
theorem k_58 : (Jvm.Cond.methodLink "CharacterSets$CaseRings" (17 : Nat) ({ cls := "CharacterSets$CaseRings", name := "characterAt", desc := "(I)I" } : Jvm.MethodName) : Cond) ∈ lw_ok := lw_in (List.mem_append_right _ (List.mem_append_left _ (List.mem_of_getElem? (i := 58) rfl))) rfl
theorem k_59 : (Jvm.Cond.static ({ cls := "CharacterSets$CaseRings", name := "characterAt", desc := "(I)I" } : Jvm.MethodName) : Cond) ∈ lw_ok := lw_in (List.mem_append_right _ (List.mem_append_left _ (List.mem_of_getElem? (i := 59) rfl))) rfl
theorem k_60 : (Jvm.Cond.code ({ cls := "CharacterSets$CaseRings", name := "characterAt", desc := "(I)I" } : Jvm.MethodName) prog_2_method_2_code (1 : Nat) (Option.some Jvm.ClassFile.FieldType.int) : Cond) ∈ lw_ok := lw_in (List.mem_append_right _ (List.mem_append_left _ (List.mem_of_getElem? (i := 60) rfl))) rfl
theorem k_61 : (Jvm.Cond.fieldLink "CharacterSets$CaseRings" (21 : Nat) "CharacterSets$CaseRings" "PAIR_ROWS" "[I" : Cond) ∈ lw_ok := lw_in (List.mem_append_right _ (List.mem_append_left _ (List.mem_of_getElem? (i := 61) rfl))) rfl
theorem k_62 : (Jvm.Cond.laysStatic "CharacterSets$CaseRings" "PAIR_ROWS" "[I" : Cond) ∈ lw_tbl := List.mem_append_right _ (List.mem_append_left _ (List.mem_of_getElem? (i := 62) rfl))
theorem k_63 : (Jvm.Cond.methodLink "CharacterSets$CaseRings" (24 : Nat) ({ cls := "CharacterSets$CaseRings", name := "linkPairs", desc := "(I)V" } : Jvm.MethodName) : Cond) ∈ lw_ok := lw_in (List.mem_append_right _ (List.mem_append_left _ (List.mem_of_getElem? (i := 63) rfl))) rfl
theorem k_64 : (Jvm.Cond.privateMethod ({ cls := "CharacterSets$CaseRings", name := "linkPairs", desc := "(I)V" } : Jvm.MethodName) : Cond) ∈ lw_tbl := List.mem_append_right _ (List.mem_append_left _ (List.mem_of_getElem? (i := 64) rfl))
theorem k_65 : (Jvm.Cond.instanceMethod ({ cls := "CharacterSets$CaseRings", name := "linkPairs", desc := "(I)V" } : Jvm.MethodName) : Cond) ∈ lw_ok := lw_in (List.mem_append_right _ (List.mem_append_left _ (List.mem_of_getElem? (i := 65) rfl))) rfl
theorem k_66 : (Jvm.Cond.code ({ cls := "CharacterSets$CaseRings", name := "linkPairs", desc := "(I)V" } : Jvm.MethodName) prog_2_method_5_code (5 : Nat) (Option.none : Option Jvm.ClassFile.FieldType) : Cond) ∈ lw_ok := lw_in (List.mem_append_right _ (List.mem_append_left _ (List.mem_of_getElem? (i := 66) rfl))) rfl
theorem k_67 : (Jvm.Cond.methodLink "CharacterSets$CaseRings" (38 : Nat) ({ cls := "CharacterSets$CaseRings", name := "point", desc := "(II)V" } : Jvm.MethodName) : Cond) ∈ lw_ok := lw_in (List.mem_append_right _ (List.mem_append_left _ (List.mem_of_getElem? (i := 67) rfl))) rfl
theorem k_68 : (Jvm.Cond.privateMethod ({ cls := "CharacterSets$CaseRings", name := "point", desc := "(II)V" } : Jvm.MethodName) : Cond) ∈ lw_tbl := List.mem_append_right _ (List.mem_append_left _ (List.mem_of_getElem? (i := 68) rfl))
theorem k_69 : (Jvm.Cond.instanceMethod ({ cls := "CharacterSets$CaseRings", name := "point", desc := "(II)V" } : Jvm.MethodName) : Cond) ∈ lw_ok := lw_in (List.mem_append_right _ (List.mem_append_left _ (List.mem_of_getElem? (i := 69) rfl))) rfl
theorem k_70 : (Jvm.Cond.code ({ cls := "CharacterSets$CaseRings", name := "point", desc := "(II)V" } : Jvm.MethodName) prog_2_method_7_code (4 : Nat) (Option.none : Option Jvm.ClassFile.FieldType) : Cond) ∈ lw_ok := lw_in (List.mem_append_right _ (List.mem_append_left _ (List.mem_of_getElem? (i := 70) rfl))) rfl
theorem k_71 : (Jvm.Cond.methodLink "CharacterSets$CaseRings" (35 : Nat) ({ cls := "CharacterSets$CaseRings", name := "slotOf", desc := "(I)I" } : Jvm.MethodName) : Cond) ∈ lw_ok := lw_in (List.mem_append_right _ (List.mem_append_left _ (List.mem_of_getElem? (i := 71) rfl))) rfl
theorem k_72 : (Jvm.Cond.static ({ cls := "CharacterSets$CaseRings", name := "slotOf", desc := "(I)I" } : Jvm.MethodName) : Cond) ∈ lw_ok := lw_in (List.mem_append_right _ (List.mem_append_left _ (List.mem_of_getElem? (i := 72) rfl))) rfl
theorem k_73 : (Jvm.Cond.code ({ cls := "CharacterSets$CaseRings", name := "slotOf", desc := "(I)I" } : Jvm.MethodName) prog_2_method_4_code (1 : Nat) (Option.some Jvm.ClassFile.FieldType.int) : Cond) ∈ lw_ok := lw_in (List.mem_append_right _ (List.mem_append_left _ (List.mem_of_getElem? (i := 73) rfl))) rfl
theorem k_74 : (Jvm.Cond.fieldLink "CharacterSets$CaseRings" (28 : Nat) "CharacterSets$CaseRings" "TRIPLES" "[I" : Cond) ∈ lw_ok := lw_in (List.mem_append_right _ (List.mem_append_left _ (List.mem_of_getElem? (i := 74) rfl))) rfl
theorem k_75 : (Jvm.Cond.laysStatic "CharacterSets$CaseRings" "TRIPLES" "[I" : Cond) ∈ lw_tbl := List.mem_append_right _ (List.mem_append_left _ (List.mem_of_getElem? (i := 75) rfl))
theorem k_76 : (Jvm.Cond.methodLink "CharacterSets$CaseRings" (31 : Nat) ({ cls := "CharacterSets$CaseRings", name := "linkThree", desc := "(III)V" } : Jvm.MethodName) : Cond) ∈ lw_ok := lw_in (List.mem_append_right _ (List.mem_append_left _ (List.mem_of_getElem? (i := 76) rfl))) rfl
theorem k_77 : (Jvm.Cond.privateMethod ({ cls := "CharacterSets$CaseRings", name := "linkThree", desc := "(III)V" } : Jvm.MethodName) : Cond) ∈ lw_tbl := List.mem_append_right _ (List.mem_append_left _ (List.mem_of_getElem? (i := 77) rfl))
theorem k_78 : (Jvm.Cond.instanceMethod ({ cls := "CharacterSets$CaseRings", name := "linkThree", desc := "(III)V" } : Jvm.MethodName) : Cond) ∈ lw_ok := lw_in (List.mem_append_right _ (List.mem_append_left _ (List.mem_of_getElem? (i := 78) rfl))) rfl
theorem k_79 : (Jvm.Cond.code ({ cls := "CharacterSets$CaseRings", name := "linkThree", desc := "(III)V" } : Jvm.MethodName) prog_2_method_6_code (4 : Nat) (Option.none : Option Jvm.ClassFile.FieldType) : Cond) ∈ lw_ok := lw_in (List.mem_append_right _ (List.mem_append_left _ (List.mem_of_getElem? (i := 79) rfl))) rfl
theorem k_80 : (Jvm.Cond.fieldLink "CharacterSets$CaseRings" (9 : Nat) "CharacterSets$CaseRings" "last" "I" : Cond) ∈ lw_ok := lw_in (List.mem_append_right _ (List.mem_append_left _ (List.mem_of_getElem? (i := 80) rfl))) rfl
theorem k_81 : (Jvm.Cond.fieldLink "CharacterSets$CaseRings" (13 : Nat) "CharacterSets$CaseRings" "next" "[I" : Cond) ∈ lw_ok := lw_in (List.mem_append_right _ (List.mem_append_left _ (List.mem_of_getElem? (i := 81) rfl))) rfl
theorem k_82 : (Jvm.Cond.laysFinal "CharacterSets$CaseRings" "CharacterSets$CaseRings" "last" "I" : Cond) ∈ lw_ok := lw_in (List.mem_append_right _ (List.mem_append_left _ (List.mem_of_getElem? (i := 82) rfl))) rfl
theorem k_83 : (Jvm.Cond.soleField "CharacterSets$CaseRings" "last" : Cond) ∈ lw_ok := lw_in (List.mem_append_right _ (List.mem_append_left _ (List.mem_of_getElem? (i := 83) rfl))) rfl
theorem k_84 : (Jvm.Cond.laysFinal "CharacterSets$CaseRings" "CharacterSets$CaseRings" "next" "[I" : Cond) ∈ lw_ok := lw_in (List.mem_append_right _ (List.mem_append_left _ (List.mem_of_getElem? (i := 84) rfl))) rfl
theorem k_85 : (Jvm.Cond.soleField "CharacterSets$CaseRings" "next" : Cond) ∈ lw_ok := lw_in (List.mem_append_right _ (List.mem_append_left _ (List.mem_of_getElem? (i := 85) rfl))) rfl
theorem k_86 : (Jvm.Cond.superclass "CharacterSets$CaseRings" "java/lang/Object" : Cond) ∈ lw_ok := lw_in (List.mem_append_right _ (List.mem_append_left _ (List.mem_of_getElem? (i := 86) rfl))) rfl
theorem k_87 : (Jvm.Cond.classLink "CharacterSets" (34 : Nat) "CharacterSets$Ranges" : Cond) ∈ lw_ok := lw_in (List.mem_append_right _ (List.mem_append_left _ (List.mem_of_getElem? (i := 87) rfl))) rfl
theorem k_88 : (Jvm.Cond.instantiable "CharacterSets$Ranges" (2 : Nat) : Cond) ∈ lw_ok := lw_in (List.mem_append_right _ (List.mem_append_left _ (List.mem_of_getElem? (i := 88) rfl))) rfl
theorem k_89 : (Jvm.Cond.methodLink "CharacterSets" (36 : Nat) ({ cls := "CharacterSets$Ranges", name := "<init>", desc := "()V" } : Jvm.MethodName) : Cond) ∈ lw_ok := lw_in (List.mem_append_right _ (List.mem_append_left _ (List.mem_of_getElem? (i := 89) rfl))) rfl
theorem k_90 : (Jvm.Cond.instanceMethod ({ cls := "CharacterSets$Ranges", name := "<init>", desc := "()V" } : Jvm.MethodName) : Cond) ∈ lw_ok := lw_in (List.mem_append_right _ (List.mem_append_left _ (List.mem_of_getElem? (i := 90) rfl))) rfl
theorem k_91 : (Jvm.Cond.code ({ cls := "CharacterSets$Ranges", name := "<init>", desc := "()V" } : Jvm.MethodName) prog_3_method_1_code (1 : Nat) (Option.none : Option Jvm.ClassFile.FieldType) : Cond) ∈ lw_ok := lw_in (List.mem_append_right _ (List.mem_append_left _ (List.mem_of_getElem? (i := 91) rfl))) rfl
theorem k_92 : (Jvm.Cond.methodLink "CharacterSets$Ranges" (1 : Nat) ({ cls := "java/lang/Object", name := "<init>", desc := "()V" } : Jvm.MethodName) : Cond) ∈ lw_ok := lw_in (List.mem_append_right _ (List.mem_append_left _ (List.mem_of_getElem? (i := 92) rfl))) rfl
theorem k_93 : (Jvm.Cond.fieldLink "CharacterSets$Ranges" (9 : Nat) "CharacterSets$Ranges" "edges" "[I" : Cond) ∈ lw_ok := lw_in (List.mem_append_right _ (List.mem_append_left _ (List.mem_of_getElem? (i := 93) rfl))) rfl
theorem k_94 : (Jvm.Cond.fieldLink "CharacterSets$Ranges" (13 : Nat) "CharacterSets$Ranges" "count" "I" : Cond) ∈ lw_ok := lw_in (List.mem_append_right _ (List.mem_append_left _ (List.mem_of_getElem? (i := 94) rfl))) rfl
theorem k_95 : (Jvm.Cond.laysFinal "CharacterSets$Ranges" "CharacterSets$Ranges" "edges" "[I" : Cond) ∈ lw_ok := lw_in (List.mem_append_right _ (List.mem_append_left _ (List.mem_of_getElem? (i := 95) rfl))) rfl
theorem k_96 : (Jvm.Cond.soleField "CharacterSets$Ranges" "edges" : Cond) ∈ lw_ok := lw_in (List.mem_append_right _ (List.mem_append_left _ (List.mem_of_getElem? (i := 96) rfl))) rfl
theorem k_97 : (Jvm.Cond.lays "CharacterSets$Ranges" "CharacterSets$Ranges" "count" "I" : Cond) ∈ lw_ok := lw_in (List.mem_append_right _ (List.mem_append_left _ (List.mem_of_getElem? (i := 97) rfl))) rfl
theorem k_98 : (Jvm.Cond.soleField "CharacterSets$Ranges" "count" : Cond) ∈ lw_ok := lw_in (List.mem_append_right _ (List.mem_append_left _ (List.mem_of_getElem? (i := 98) rfl))) rfl
theorem k_99 : (Jvm.Cond.superclass "CharacterSets$Ranges" "java/lang/Object" : Cond) ∈ lw_ok := lw_in (List.mem_append_right _ (List.mem_append_left _ (List.mem_of_getElem? (i := 99) rfl))) rfl
theorem k_100 : (Jvm.Cond.arrayOver (Jvm.ClassFile.FieldType.object "CharacterSets$Ranges") : Cond) ∈ lw_tbl := List.mem_append_right _ (List.mem_append_left _ (List.mem_of_getElem? (i := 100) rfl))
theorem k_101 : (Jvm.Cond.fieldLink "CharacterSets" (9 : Nat) "CharacterSets" "ucp" "Z" : Cond) ∈ lw_ok := lw_in (List.mem_append_right _ (List.mem_append_left _ (List.mem_of_getElem? (i := 101) rfl))) rfl
theorem k_102 : (Jvm.Cond.fieldLink "CharacterSets" (14 : Nat) "CharacterSets" "last" "I" : Cond) ∈ lw_ok := lw_in (List.mem_append_right _ (List.mem_append_left _ (List.mem_of_getElem? (i := 102) rfl))) rfl
theorem k_103 : (Jvm.Cond.fieldLink "CharacterSets" (21 : Nat) "CharacterSets" "table" "LCharacterSets$Table;" : Cond) ∈ lw_ok := lw_in (List.mem_append_right _ (List.mem_append_left _ (List.mem_of_getElem? (i := 103) rfl))) rfl
theorem k_104 : (Jvm.Cond.fieldLink "CharacterSets" (30 : Nat) "CharacterSets" "rings" "LCharacterSets$CaseRings;" : Cond) ∈ lw_ok := lw_in (List.mem_append_right _ (List.mem_append_left _ (List.mem_of_getElem? (i := 104) rfl))) rfl
theorem k_105 : (Jvm.Cond.fieldLink "CharacterSets" (41 : Nat) "CharacterSets" "sets" "[LCharacterSets$Ranges;" : Cond) ∈ lw_ok := lw_in (List.mem_append_right _ (List.mem_append_left _ (List.mem_of_getElem? (i := 105) rfl))) rfl
theorem k_106 : (Jvm.Cond.fieldLink "CharacterSets" (37 : Nat) "CharacterSets" "gathered" "LCharacterSets$Ranges;" : Cond) ∈ lw_ok := lw_in (List.mem_append_right _ (List.mem_append_left _ (List.mem_of_getElem? (i := 106) rfl))) rfl
theorem k_107 : (Jvm.Cond.laysFinal "CharacterSets" "CharacterSets" "ucp" "Z" : Cond) ∈ lw_ok := lw_in (List.mem_append_right _ (List.mem_append_left _ (List.mem_of_getElem? (i := 107) rfl))) rfl
theorem k_108 : (Jvm.Cond.soleField "CharacterSets" "ucp" : Cond) ∈ lw_ok := lw_in (List.mem_append_right _ (List.mem_append_left _ (List.mem_of_getElem? (i := 108) rfl))) rfl
theorem k_109 : (Jvm.Cond.laysFinal "CharacterSets" "CharacterSets" "last" "I" : Cond) ∈ lw_ok := lw_in (List.mem_append_right _ (List.mem_append_left _ (List.mem_of_getElem? (i := 109) rfl))) rfl
theorem k_110 : (Jvm.Cond.soleField "CharacterSets" "last" : Cond) ∈ lw_ok := lw_in (List.mem_append_right _ (List.mem_append_left _ (List.mem_of_getElem? (i := 110) rfl))) rfl
theorem k_111 : (Jvm.Cond.laysFinal "CharacterSets" "CharacterSets" "table" "LCharacterSets$Table;" : Cond) ∈ lw_ok := lw_in (List.mem_append_right _ (List.mem_append_left _ (List.mem_of_getElem? (i := 111) rfl))) rfl
theorem k_112 : (Jvm.Cond.soleField "CharacterSets" "table" : Cond) ∈ lw_ok := lw_in (List.mem_append_right _ (List.mem_append_left _ (List.mem_of_getElem? (i := 112) rfl))) rfl
theorem k_113 : (Jvm.Cond.laysFinal "CharacterSets" "CharacterSets" "rings" "LCharacterSets$CaseRings;" : Cond) ∈ lw_ok := lw_in (List.mem_append_right _ (List.mem_append_left _ (List.mem_of_getElem? (i := 113) rfl))) rfl
theorem k_114 : (Jvm.Cond.soleField "CharacterSets" "rings" : Cond) ∈ lw_ok := lw_in (List.mem_append_right _ (List.mem_append_left _ (List.mem_of_getElem? (i := 114) rfl))) rfl
theorem k_115 : (Jvm.Cond.laysFinal "CharacterSets" "CharacterSets" "sets" "[LCharacterSets$Ranges;" : Cond) ∈ lw_ok := lw_in (List.mem_append_right _ (List.mem_append_left _ (List.mem_of_getElem? (i := 115) rfl))) rfl
theorem k_116 : (Jvm.Cond.soleField "CharacterSets" "sets" : Cond) ∈ lw_ok := lw_in (List.mem_append_right _ (List.mem_append_left _ (List.mem_of_getElem? (i := 116) rfl))) rfl
theorem k_117 : (Jvm.Cond.laysFinal "CharacterSets" "CharacterSets" "gathered" "LCharacterSets$Ranges;" : Cond) ∈ lw_ok := lw_in (List.mem_append_right _ (List.mem_append_left _ (List.mem_of_getElem? (i := 117) rfl))) rfl
theorem k_118 : (Jvm.Cond.soleField "CharacterSets" "gathered" : Cond) ∈ lw_ok := lw_in (List.mem_append_right _ (List.mem_append_left _ (List.mem_of_getElem? (i := 118) rfl))) rfl
theorem k_119 : (Jvm.Cond.superclass "CharacterSets" "java/lang/Object" : Cond) ∈ lw_ok := lw_in (List.mem_append_right _ (List.mem_append_left _ (List.mem_of_getElem? (i := 119) rfl))) rfl
theorem k_120 : (Jvm.Cond.methodLink "CharacterSetsLaw" (21 : Nat) ({ cls := "CharacterSets", name := "clear", desc := "(I)I" } : Jvm.MethodName) : Cond) ∈ lw_ok := lw_in (List.mem_append_right _ (List.mem_append_left _ (List.mem_of_getElem? (i := 120) rfl))) rfl
theorem k_121 : (Jvm.Cond.instanceMethod ({ cls := "CharacterSets", name := "clear", desc := "(I)I" } : Jvm.MethodName) : Cond) ∈ lw_ok := lw_in (List.mem_append_right _ (List.mem_append_left _ (List.mem_of_getElem? (i := 121) rfl))) rfl
theorem k_122 : (Jvm.Cond.selects "CharacterSets" ({ cls := "CharacterSets", name := "clear", desc := "(I)I" } : Jvm.MethodName) ({ cls := "CharacterSets", name := "clear", desc := "(I)I" } : Jvm.MethodName) : Cond) ∈ lw_ok := lw_in (List.mem_append_right _ (List.mem_append_left _ (List.mem_of_getElem? (i := 122) rfl))) rfl
theorem k_123 : (Jvm.Cond.code ({ cls := "CharacterSets", name := "clear", desc := "(I)I" } : Jvm.MethodName) prog_1_method_2_code (2 : Nat) (Option.some Jvm.ClassFile.FieldType.int) : Cond) ∈ lw_ok := lw_in (List.mem_append_right _ (List.mem_append_left _ (List.mem_of_getElem? (i := 123) rfl))) rfl
theorem k_124 : (Jvm.Cond.methodLink "CharacterSets" (45 : Nat) ({ cls := "CharacterSets", name := "isSet", desc := "(I)Z" } : Jvm.MethodName) : Cond) ∈ lw_ok := lw_in (List.mem_append_right _ (List.mem_append_left _ (List.mem_of_getElem? (i := 124) rfl))) rfl
theorem k_125 : (Jvm.Cond.static ({ cls := "CharacterSets", name := "isSet", desc := "(I)Z" } : Jvm.MethodName) : Cond) ∈ lw_ok := lw_in (List.mem_append_right _ (List.mem_append_left _ (List.mem_of_getElem? (i := 125) rfl))) rfl
theorem k_126 : (Jvm.Cond.code ({ cls := "CharacterSets", name := "isSet", desc := "(I)Z" } : Jvm.MethodName) prog_1_method_16_code (1 : Nat) (Option.some Jvm.ClassFile.FieldType.boolean) : Cond) ∈ lw_ok := lw_in (List.mem_append_right _ (List.mem_append_left _ (List.mem_of_getElem? (i := 126) rfl))) rfl
theorem k_127 : (Jvm.Cond.methodLink "CharacterSets" (49 : Nat) ({ cls := "CharacterSets$Ranges", name := "empty", desc := "()V" } : Jvm.MethodName) : Cond) ∈ lw_ok := lw_in (List.mem_append_right _ (List.mem_append_left _ (List.mem_of_getElem? (i := 127) rfl))) rfl
theorem k_128 : (Jvm.Cond.instanceMethod ({ cls := "CharacterSets$Ranges", name := "empty", desc := "()V" } : Jvm.MethodName) : Cond) ∈ lw_ok := lw_in (List.mem_append_right _ (List.mem_append_left _ (List.mem_of_getElem? (i := 128) rfl))) rfl
theorem k_129 : (Jvm.Cond.selects "CharacterSets$Ranges" ({ cls := "CharacterSets$Ranges", name := "empty", desc := "()V" } : Jvm.MethodName) ({ cls := "CharacterSets$Ranges", name := "empty", desc := "()V" } : Jvm.MethodName) : Cond) ∈ lw_ok := lw_in (List.mem_append_right _ (List.mem_append_left _ (List.mem_of_getElem? (i := 129) rfl))) rfl
theorem k_130 : (Jvm.Cond.code ({ cls := "CharacterSets$Ranges", name := "empty", desc := "()V" } : Jvm.MethodName) prog_3_method_2_code (1 : Nat) (Option.none : Option Jvm.ClassFile.FieldType) : Cond) ∈ lw_ok := lw_in (List.mem_append_right _ (List.mem_append_left _ (List.mem_of_getElem? (i := 130) rfl))) rfl
theorem k_131 : (Jvm.Cond.methodLink "CharacterSetsLaw" (26 : Nat) ({ cls := "CharacterSets", name := "range", desc := "(III)I" } : Jvm.MethodName) : Cond) ∈ lw_ok := lw_in (List.mem_append_right _ (List.mem_append_left _ (List.mem_of_getElem? (i := 131) rfl))) rfl
theorem k_132 : (Jvm.Cond.instanceMethod ({ cls := "CharacterSets", name := "range", desc := "(III)I" } : Jvm.MethodName) : Cond) ∈ lw_ok := lw_in (List.mem_append_right _ (List.mem_append_left _ (List.mem_of_getElem? (i := 132) rfl))) rfl
theorem k_133 : (Jvm.Cond.selects "CharacterSets" ({ cls := "CharacterSets", name := "range", desc := "(III)I" } : Jvm.MethodName) ({ cls := "CharacterSets", name := "range", desc := "(III)I" } : Jvm.MethodName) : Cond) ∈ lw_ok := lw_in (List.mem_append_right _ (List.mem_append_left _ (List.mem_of_getElem? (i := 133) rfl))) rfl
theorem k_134 : (Jvm.Cond.code ({ cls := "CharacterSets", name := "range", desc := "(III)I" } : Jvm.MethodName) prog_1_method_3_code (4 : Nat) (Option.some Jvm.ClassFile.FieldType.int) : Cond) ∈ lw_ok := lw_in (List.mem_append_right _ (List.mem_append_left _ (List.mem_of_getElem? (i := 134) rfl))) rfl
theorem k_135 : (Jvm.Cond.methodLink "CharacterSets" (52 : Nat) ({ cls := "CharacterSets", name := "isThere", desc := "(I)Z" } : Jvm.MethodName) : Cond) ∈ lw_ok := lw_in (List.mem_append_right _ (List.mem_append_left _ (List.mem_of_getElem? (i := 135) rfl))) rfl
theorem k_136 : (Jvm.Cond.privateMethod ({ cls := "CharacterSets", name := "isThere", desc := "(I)Z" } : Jvm.MethodName) : Cond) ∈ lw_tbl := List.mem_append_right _ (List.mem_append_left _ (List.mem_of_getElem? (i := 136) rfl))
theorem k_137 : (Jvm.Cond.instanceMethod ({ cls := "CharacterSets", name := "isThere", desc := "(I)Z" } : Jvm.MethodName) : Cond) ∈ lw_ok := lw_in (List.mem_append_right _ (List.mem_append_left _ (List.mem_of_getElem? (i := 137) rfl))) rfl
theorem k_138 : (Jvm.Cond.code ({ cls := "CharacterSets", name := "isThere", desc := "(I)Z" } : Jvm.MethodName) prog_1_method_17_code (2 : Nat) (Option.some Jvm.ClassFile.FieldType.boolean) : Cond) ∈ lw_ok := lw_in (List.mem_append_right _ (List.mem_append_left _ (List.mem_of_getElem? (i := 138) rfl))) rfl
theorem k_139 : (Jvm.Cond.methodLink "CharacterSets" (55 : Nat) ({ cls := "CharacterSets$Ranges", name := "insert", desc := "(II)V" } : Jvm.MethodName) : Cond) ∈ lw_ok := lw_in (List.mem_append_right _ (List.mem_append_left _ (List.mem_of_getElem? (i := 139) rfl))) rfl
theorem k_140 : (Jvm.Cond.instanceMethod ({ cls := "CharacterSets$Ranges", name := "insert", desc := "(II)V" } : Jvm.MethodName) : Cond) ∈ lw_ok := lw_in (List.mem_append_right _ (List.mem_append_left _ (List.mem_of_getElem? (i := 140) rfl))) rfl
theorem k_141 : (Jvm.Cond.selects "CharacterSets$Ranges" ({ cls := "CharacterSets$Ranges", name := "insert", desc := "(II)V" } : Jvm.MethodName) ({ cls := "CharacterSets$Ranges", name := "insert", desc := "(II)V" } : Jvm.MethodName) : Cond) ∈ lw_ok := lw_in (List.mem_append_right _ (List.mem_append_left _ (List.mem_of_getElem? (i := 141) rfl))) rfl
theorem k_142 : (Jvm.Cond.code ({ cls := "CharacterSets$Ranges", name := "insert", desc := "(II)V" } : Jvm.MethodName) prog_3_method_11_code (9 : Nat) (Option.none : Option Jvm.ClassFile.FieldType) : Cond) ∈ lw_ok := lw_in (List.mem_append_right _ (List.mem_append_left _ (List.mem_of_getElem? (i := 142) rfl))) rfl
theorem k_143 : (Jvm.Cond.methodLink "CharacterSets$Ranges" (17 : Nat) ({ cls := "CharacterSets$Ranges", name := "edgesUpTo", desc := "(I)I" } : Jvm.MethodName) : Cond) ∈ lw_ok := lw_in (List.mem_append_right _ (List.mem_append_left _ (List.mem_of_getElem? (i := 143) rfl))) rfl
theorem k_144 : (Jvm.Cond.privateMethod ({ cls := "CharacterSets$Ranges", name := "edgesUpTo", desc := "(I)I" } : Jvm.MethodName) : Cond) ∈ lw_tbl := List.mem_append_right _ (List.mem_append_left _ (List.mem_of_getElem? (i := 144) rfl))
theorem k_145 : (Jvm.Cond.instanceMethod ({ cls := "CharacterSets$Ranges", name := "edgesUpTo", desc := "(I)I" } : Jvm.MethodName) : Cond) ∈ lw_ok := lw_in (List.mem_append_right _ (List.mem_append_left _ (List.mem_of_getElem? (i := 145) rfl))) rfl
theorem k_146 : (Jvm.Cond.code ({ cls := "CharacterSets$Ranges", name := "edgesUpTo", desc := "(I)I" } : Jvm.MethodName) prog_3_method_14_code (5 : Nat) (Option.some Jvm.ClassFile.FieldType.int) : Cond) ∈ lw_ok := lw_in (List.mem_append_right _ (List.mem_append_left _ (List.mem_of_getElem? (i := 146) rfl))) rfl
theorem k_147 : (Jvm.Cond.methodLink "CharacterSets$Ranges" (34 : Nat) ({ cls := "java/lang/System", name := "arraycopy", desc := "(Ljava/lang/Object;ILjava/lang/Object;II)V" } : Jvm.MethodName) : Cond) ∈ lw_ok := lw_in (List.mem_append_right _ (List.mem_append_left _ (List.mem_of_getElem? (i := 147) rfl))) rfl
theorem k_148 : (Jvm.Cond.static ({ cls := "java/lang/System", name := "arraycopy", desc := "(Ljava/lang/Object;ILjava/lang/Object;II)V" } : Jvm.MethodName) : Cond) ∈ lw_ok := lw_in (List.mem_append_right _ (List.mem_append_left _ (List.mem_of_getElem? (i := 148) rfl))) rfl
theorem k_149 : (Jvm.Cond.native ({ cls := "java/lang/System", name := "arraycopy", desc := "(Ljava/lang/Object;ILjava/lang/Object;II)V" } : Jvm.MethodName) : Cond) ∈ lw_ok := lw_in (List.mem_append_right _ (List.mem_append_left _ (List.mem_of_getElem? (i := 149) rfl))) rfl
theorem k_150 : (Jvm.Cond.methodLink "CharacterSets" (59 : Nat) ({ cls := "CharacterSets$Ranges", name := "rangeCount", desc := "()I" } : Jvm.MethodName) : Cond) ∈ lw_ok := lw_in (List.mem_append_right _ (List.mem_append_left _ (List.mem_of_getElem? (i := 150) rfl))) rfl
theorem k_151 : (Jvm.Cond.instanceMethod ({ cls := "CharacterSets$Ranges", name := "rangeCount", desc := "()I" } : Jvm.MethodName) : Cond) ∈ lw_ok := lw_in (List.mem_append_right _ (List.mem_append_left _ (List.mem_of_getElem? (i := 151) rfl))) rfl
theorem k_152 : (Jvm.Cond.selects "CharacterSets$Ranges" ({ cls := "CharacterSets$Ranges", name := "rangeCount", desc := "()I" } : Jvm.MethodName) ({ cls := "CharacterSets$Ranges", name := "rangeCount", desc := "()I" } : Jvm.MethodName) : Cond) ∈ lw_ok := lw_in (List.mem_append_right _ (List.mem_append_left _ (List.mem_of_getElem? (i := 152) rfl))) rfl
theorem k_153 : (Jvm.Cond.code ({ cls := "CharacterSets$Ranges", name := "rangeCount", desc := "()I" } : Jvm.MethodName) prog_3_method_3_code (1 : Nat) (Option.some Jvm.ClassFile.FieldType.int) : Cond) ∈ lw_ok := lw_in (List.mem_append_right _ (List.mem_append_left _ (List.mem_of_getElem? (i := 153) rfl))) rfl
theorem k_154 : (Jvm.Cond.methodLink "CharacterSetsLaw" (31 : Nat) ({ cls := "CharacterSets", name := "property", desc := "(IIZZ)I" } : Jvm.MethodName) : Cond) ∈ lw_ok := lw_in (List.mem_append_right _ (List.mem_append_left _ (List.mem_of_getElem? (i := 154) rfl))) rfl
theorem k_155 : (Jvm.Cond.instanceMethod ({ cls := "CharacterSets", name := "property", desc := "(IIZZ)I" } : Jvm.MethodName) : Cond) ∈ lw_ok := lw_in (List.mem_append_right _ (List.mem_append_left _ (List.mem_of_getElem? (i := 155) rfl))) rfl
theorem k_156 : (Jvm.Cond.selects "CharacterSets" ({ cls := "CharacterSets", name := "property", desc := "(IIZZ)I" } : Jvm.MethodName) ({ cls := "CharacterSets", name := "property", desc := "(IIZZ)I" } : Jvm.MethodName) : Cond) ∈ lw_ok := lw_in (List.mem_append_right _ (List.mem_append_left _ (List.mem_of_getElem? (i := 156) rfl))) rfl
theorem k_157 : (Jvm.Cond.code ({ cls := "CharacterSets", name := "property", desc := "(IIZZ)I" } : Jvm.MethodName) prog_1_method_4_code (6 : Nat) (Option.some Jvm.ClassFile.FieldType.int) : Cond) ∈ lw_ok := lw_in (List.mem_append_right _ (List.mem_append_left _ (List.mem_of_getElem? (i := 157) rfl))) rfl
theorem k_158 : (Jvm.Cond.methodLink "CharacterSets" (63 : Nat) ({ cls := "CharacterSets", name := "gatherProperty", desc := "(I)V" } : Jvm.MethodName) : Cond) ∈ lw_ok := lw_in (List.mem_append_right _ (List.mem_append_left _ (List.mem_of_getElem? (i := 158) rfl))) rfl
theorem k_159 : (Jvm.Cond.privateMethod ({ cls := "CharacterSets", name := "gatherProperty", desc := "(I)V" } : Jvm.MethodName) : Cond) ∈ lw_tbl := List.mem_append_right _ (List.mem_append_left _ (List.mem_of_getElem? (i := 159) rfl))
theorem k_160 : (Jvm.Cond.instanceMethod ({ cls := "CharacterSets", name := "gatherProperty", desc := "(I)V" } : Jvm.MethodName) : Cond) ∈ lw_ok := lw_in (List.mem_append_right _ (List.mem_append_left _ (List.mem_of_getElem? (i := 160) rfl))) rfl
theorem k_161 : (Jvm.Cond.code ({ cls := "CharacterSets", name := "gatherProperty", desc := "(I)V" } : Jvm.MethodName) prog_1_method_22_code (2 : Nat) (Option.none : Option Jvm.ClassFile.FieldType) : Cond) ∈ lw_ok := lw_in (List.mem_append_right _ (List.mem_append_left _ (List.mem_of_getElem? (i := 161) rfl))) rfl
theorem k_162 : (Jvm.Cond.methodLink "CharacterSets" (126 : Nat) ({ cls := "CharacterSets", name := "gatherScript", desc := "(I)V" } : Jvm.MethodName) : Cond) ∈ lw_ok := lw_in (List.mem_append_right _ (List.mem_append_left _ (List.mem_of_getElem? (i := 162) rfl))) rfl
theorem k_163 : (Jvm.Cond.privateMethod ({ cls := "CharacterSets", name := "gatherScript", desc := "(I)V" } : Jvm.MethodName) : Cond) ∈ lw_tbl := List.mem_append_right _ (List.mem_append_left _ (List.mem_of_getElem? (i := 163) rfl))
theorem k_164 : (Jvm.Cond.instanceMethod ({ cls := "CharacterSets", name := "gatherScript", desc := "(I)V" } : Jvm.MethodName) : Cond) ∈ lw_ok := lw_in (List.mem_append_right _ (List.mem_append_left _ (List.mem_of_getElem? (i := 164) rfl))) rfl
theorem k_165 : (Jvm.Cond.code ({ cls := "CharacterSets", name := "gatherScript", desc := "(I)V" } : Jvm.MethodName) prog_1_method_29_code (3 : Nat) (Option.none : Option Jvm.ClassFile.FieldType) : Cond) ∈ lw_ok := lw_in (List.mem_append_right _ (List.mem_append_left _ (List.mem_of_getElem? (i := 165) rfl))) rfl
theorem k_166 : (Jvm.Cond.methodLink "CharacterSets" (210 : Nat) ({ cls := "CharacterSets$Table", name := "pieceCount", desc := "()I" } : Jvm.MethodName) : Cond) ∈ lw_ok := lw_in (List.mem_append_right _ (List.mem_append_left _ (List.mem_of_getElem? (i := 166) rfl))) rfl
theorem k_167 : (Jvm.Cond.instanceMethod ({ cls := "CharacterSets$Table", name := "pieceCount", desc := "()I" } : Jvm.MethodName) : Cond) ∈ lw_ok := lw_in (List.mem_append_right _ (List.mem_append_left _ (List.mem_of_getElem? (i := 167) rfl))) rfl
theorem k_168 : (Jvm.Cond.selects "CharacterSets$Table" ({ cls := "CharacterSets$Table", name := "pieceCount", desc := "()I" } : Jvm.MethodName) ({ cls := "CharacterSets$Table", name := "pieceCount", desc := "()I" } : Jvm.MethodName) : Cond) ∈ lw_ok := lw_in (List.mem_append_right _ (List.mem_append_left _ (List.mem_of_getElem? (i := 168) rfl))) rfl
theorem k_169 : (Jvm.Cond.code ({ cls := "CharacterSets$Table", name := "pieceCount", desc := "()I" } : Jvm.MethodName) prog_4_method_2_code (1 : Nat) (Option.some Jvm.ClassFile.FieldType.int) : Cond) ∈ lw_ok := lw_in (List.mem_append_right _ (List.mem_append_left _ (List.mem_of_getElem? (i := 169) rfl))) rfl
theorem k_170 : (Jvm.Cond.methodLink "CharacterSets" (228 : Nat) ({ cls := "CharacterSets$Table", name := "pieceScript", desc := "(I)I" } : Jvm.MethodName) : Cond) ∈ lw_ok := lw_in (List.mem_append_right _ (List.mem_append_left _ (List.mem_of_getElem? (i := 170) rfl))) rfl
theorem k_171 : (Jvm.Cond.instanceMethod ({ cls := "CharacterSets$Table", name := "pieceScript", desc := "(I)I" } : Jvm.MethodName) : Cond) ∈ lw_ok := lw_in (List.mem_append_right _ (List.mem_append_left _ (List.mem_of_getElem? (i := 171) rfl))) rfl
theorem k_172 : (Jvm.Cond.selects "CharacterSets$Table" ({ cls := "CharacterSets$Table", name := "pieceScript", desc := "(I)I" } : Jvm.MethodName) ({ cls := "CharacterSets$Table", name := "pieceScript", desc := "(I)I" } : Jvm.MethodName) : Cond) ∈ lw_ok := lw_in (List.mem_append_right _ (List.mem_append_left _ (List.mem_of_getElem? (i := 172) rfl))) rfl
theorem k_173 : (Jvm.Cond.code ({ cls := "CharacterSets$Table", name := "pieceScript", desc := "(I)I" } : Jvm.MethodName) prog_4_method_6_code (2 : Nat) (Option.some Jvm.ClassFile.FieldType.int) : Cond) ∈ lw_ok := lw_in (List.mem_append_right _ (List.mem_append_left _ (List.mem_of_getElem? (i := 173) rfl))) rfl
theorem k_174 : (Jvm.Cond.methodLink "CharacterSets" (216 : Nat) ({ cls := "CharacterSets$Table", name := "pieceLow", desc := "(I)I" } : Jvm.MethodName) : Cond) ∈ lw_ok := lw_in (List.mem_append_right _ (List.mem_append_left _ (List.mem_of_getElem? (i := 174) rfl))) rfl
theorem k_175 : (Jvm.Cond.instanceMethod ({ cls := "CharacterSets$Table", name := "pieceLow", desc := "(I)I" } : Jvm.MethodName) : Cond) ∈ lw_ok := lw_in (List.mem_append_right _ (List.mem_append_left _ (List.mem_of_getElem? (i := 175) rfl))) rfl
theorem k_176 : (Jvm.Cond.selects "CharacterSets$Table" ({ cls := "CharacterSets$Table", name := "pieceLow", desc := "(I)I" } : Jvm.MethodName) ({ cls := "CharacterSets$Table", name := "pieceLow", desc := "(I)I" } : Jvm.MethodName) : Cond) ∈ lw_ok := lw_in (List.mem_append_right _ (List.mem_append_left _ (List.mem_of_getElem? (i := 176) rfl))) rfl
theorem k_177 : (Jvm.Cond.code ({ cls := "CharacterSets$Table", name := "pieceLow", desc := "(I)I" } : Jvm.MethodName) prog_4_method_3_code (2 : Nat) (Option.some Jvm.ClassFile.FieldType.int) : Cond) ∈ lw_ok := lw_in (List.mem_append_right _ (List.mem_append_left _ (List.mem_of_getElem? (i := 177) rfl))) rfl
theorem k_178 : (Jvm.Cond.methodLink "CharacterSets" (219 : Nat) ({ cls := "CharacterSets$Table", name := "pieceHigh", desc := "(I)I" } : Jvm.MethodName) : Cond) ∈ lw_ok := lw_in (List.mem_append_right _ (List.mem_append_left _ (List.mem_of_getElem? (i := 178) rfl))) rfl
theorem k_179 : (Jvm.Cond.instanceMethod ({ cls := "CharacterSets$Table", name := "pieceHigh", desc := "(I)I" } : Jvm.MethodName) : Cond) ∈ lw_ok := lw_in (List.mem_append_right _ (List.mem_append_left _ (List.mem_of_getElem? (i := 179) rfl))) rfl
theorem k_180 : (Jvm.Cond.selects "CharacterSets$Table" ({ cls := "CharacterSets$Table", name := "pieceHigh", desc := "(I)I" } : Jvm.MethodName) ({ cls := "CharacterSets$Table", name := "pieceHigh", desc := "(I)I" } : Jvm.MethodName) : Cond) ∈ lw_ok := lw_in (List.mem_append_right _ (List.mem_append_left _ (List.mem_of_getElem? (i := 180) rfl))) rfl
theorem k_181 : (Jvm.Cond.code ({ cls := "CharacterSets$Table", name := "pieceHigh", desc := "(I)I" } : Jvm.MethodName) prog_4_method_4_code (2 : Nat) (Option.some Jvm.ClassFile.FieldType.int) : Cond) ∈ lw_ok := lw_in (List.mem_append_right _ (List.mem_append_left _ (List.mem_of_getElem? (i := 181) rfl))) rfl
theorem k_182 : (Jvm.Cond.constant "CharacterSets$Table" (36 : Nat) (1114111 : Int32) : Cond) ∈ lw_ok := lw_in (List.mem_append_right _ (List.mem_append_left _ (List.mem_of_getElem? (i := 182) rfl))) rfl
theorem k_183 : (Jvm.Cond.methodLink "CharacterSets" (135 : Nat) ({ cls := "CharacterSets", name := "gather", desc := "(II)V" } : Jvm.MethodName) : Cond) ∈ lw_ok := lw_in (List.mem_append_right _ (List.mem_append_left _ (List.mem_of_getElem? (i := 183) rfl))) rfl
theorem k_184 : (Jvm.Cond.privateMethod ({ cls := "CharacterSets", name := "gather", desc := "(II)V" } : Jvm.MethodName) : Cond) ∈ lw_tbl := List.mem_append_right _ (List.mem_append_left _ (List.mem_of_getElem? (i := 184) rfl))
theorem k_185 : (Jvm.Cond.instanceMethod ({ cls := "CharacterSets", name := "gather", desc := "(II)V" } : Jvm.MethodName) : Cond) ∈ lw_ok := lw_in (List.mem_append_right _ (List.mem_append_left _ (List.mem_of_getElem? (i := 185) rfl))) rfl
theorem k_186 : (Jvm.Cond.code ({ cls := "CharacterSets", name := "gather", desc := "(II)V" } : Jvm.MethodName) prog_1_method_30_code (4 : Nat) (Option.none : Option Jvm.ClassFile.FieldType) : Cond) ∈ lw_ok := lw_in (List.mem_append_right _ (List.mem_append_left _ (List.mem_of_getElem? (i := 186) rfl))) rfl
theorem k_187 : (Jvm.Cond.methodLink "CharacterSets" (222 : Nat) ({ cls := "java/lang/Math", name := "min", desc := "(II)I" } : Jvm.MethodName) : Cond) ∈ lw_ok := lw_in (List.mem_append_right _ (List.mem_append_left _ (List.mem_of_getElem? (i := 187) rfl))) rfl
theorem k_188 : (Jvm.Cond.static ({ cls := "java/lang/Math", name := "min", desc := "(II)I" } : Jvm.MethodName) : Cond) ∈ lw_ok := lw_in (List.mem_append_right _ (List.mem_append_left _ (List.mem_of_getElem? (i := 188) rfl))) rfl
theorem k_189 : (Jvm.Cond.code ({ cls := "java/lang/Math", name := "min", desc := "(II)I" } : Jvm.MethodName) prog_7_method_69_code (2 : Nat) (Option.some Jvm.ClassFile.FieldType.int) : Cond) ∈ lw_ok := lw_in (List.mem_append_right _ (List.mem_append_left _ (List.mem_of_getElem? (i := 189) rfl))) rfl
theorem k_190 : (Jvm.Cond.methodLink "CharacterSets" (129 : Nat) ({ cls := "CharacterSets", name := "categoriesOf", desc := "(I)I" } : Jvm.MethodName) : Cond) ∈ lw_ok := lw_in (List.mem_append_right _ (List.mem_append_left _ (List.mem_of_getElem? (i := 190) rfl))) rfl
theorem k_191 : (Jvm.Cond.static ({ cls := "CharacterSets", name := "categoriesOf", desc := "(I)I" } : Jvm.MethodName) : Cond) ∈ lw_ok := lw_in (List.mem_append_right _ (List.mem_append_left _ (List.mem_of_getElem? (i := 191) rfl))) rfl
theorem k_192 : (Jvm.Cond.code ({ cls := "CharacterSets", name := "categoriesOf", desc := "(I)I" } : Jvm.MethodName) prog_1_method_23_code (1 : Nat) (Option.some Jvm.ClassFile.FieldType.int) : Cond) ∈ lw_ok := lw_in (List.mem_append_right _ (List.mem_append_left _ (List.mem_of_getElem? (i := 192) rfl))) rfl
theorem k_193 : (Jvm.Cond.fieldLink "CharacterSets" (138 : Nat) "CharacterSets" "LETTER_GROUPS" "[I" : Cond) ∈ lw_ok := lw_in (List.mem_append_right _ (List.mem_append_left _ (List.mem_of_getElem? (i := 193) rfl))) rfl
theorem k_194 : (Jvm.Cond.laysStatic "CharacterSets" "LETTER_GROUPS" "[I" : Cond) ∈ lw_tbl := List.mem_append_right _ (List.mem_append_left _ (List.mem_of_getElem? (i := 194) rfl))
theorem k_195 : (Jvm.Cond.constant "CharacterSets" (142 : Nat) (33554431 : Int32) : Cond) ∈ lw_ok := lw_in (List.mem_append_right _ (List.mem_append_left _ (List.mem_of_getElem? (i := 195) rfl))) rfl
theorem k_196 : (Jvm.Cond.constant "CharacterSets" (143 : Nat) (29360128 : Int32) : Cond) ∈ lw_ok := lw_in (List.mem_append_right _ (List.mem_append_left _ (List.mem_of_getElem? (i := 196) rfl))) rfl
theorem k_197 : (Jvm.Cond.methodLink "CharacterSets" (132 : Nat) ({ cls := "CharacterSets", name := "gatherCategories", desc := "(II)V" } : Jvm.MethodName) : Cond) ∈ lw_ok := lw_in (List.mem_append_right _ (List.mem_append_left _ (List.mem_of_getElem? (i := 197) rfl))) rfl
theorem k_198 : (Jvm.Cond.privateMethod ({ cls := "CharacterSets", name := "gatherCategories", desc := "(II)V" } : Jvm.MethodName) : Cond) ∈ lw_tbl := List.mem_append_right _ (List.mem_append_left _ (List.mem_of_getElem? (i := 198) rfl))
theorem k_199 : (Jvm.Cond.instanceMethod ({ cls := "CharacterSets", name := "gatherCategories", desc := "(II)V" } : Jvm.MethodName) : Cond) ∈ lw_ok := lw_in (List.mem_append_right _ (List.mem_append_left _ (List.mem_of_getElem? (i := 199) rfl))) rfl
theorem k_200 : (Jvm.Cond.code ({ cls := "CharacterSets", name := "gatherCategories", desc := "(II)V" } : Jvm.MethodName) prog_1_method_28_code (4 : Nat) (Option.none : Option Jvm.ClassFile.FieldType) : Cond) ∈ lw_ok := lw_in (List.mem_append_right _ (List.mem_append_left _ (List.mem_of_getElem? (i := 200) rfl))) rfl
theorem k_201 : (Jvm.Cond.methodLink "CharacterSets" (213 : Nat) ({ cls := "CharacterSets$Table", name := "pieceCategory", desc := "(I)I" } : Jvm.MethodName) : Cond) ∈ lw_ok := lw_in (List.mem_append_right _ (List.mem_append_left _ (List.mem_of_getElem? (i := 201) rfl))) rfl
theorem k_202 : (Jvm.Cond.instanceMethod ({ cls := "CharacterSets$Table", name := "pieceCategory", desc := "(I)I" } : Jvm.MethodName) : Cond) ∈ lw_ok := lw_in (List.mem_append_right _ (List.mem_append_left _ (List.mem_of_getElem? (i := 202) rfl))) rfl
theorem k_203 : (Jvm.Cond.selects "CharacterSets$Table" ({ cls := "CharacterSets$Table", name := "pieceCategory", desc := "(I)I" } : Jvm.MethodName) ({ cls := "CharacterSets$Table", name := "pieceCategory", desc := "(I)I" } : Jvm.MethodName) : Cond) ∈ lw_ok := lw_in (List.mem_append_right _ (List.mem_append_left _ (List.mem_of_getElem? (i := 203) rfl))) rfl
theorem k_204 : (Jvm.Cond.code ({ cls := "CharacterSets$Table", name := "pieceCategory", desc := "(I)I" } : Jvm.MethodName) prog_4_method_5_code (2 : Nat) (Option.some Jvm.ClassFile.FieldType.int) : Cond) ∈ lw_ok := lw_in (List.mem_append_right _ (List.mem_append_left _ (List.mem_of_getElem? (i := 204) rfl))) rfl
theorem k_205 : (Jvm.Cond.methodLink "CharacterSets" (67 : Nat) ({ cls := "CharacterSets", name := "addGathered", desc := "(LCharacterSets$Ranges;Z)I" } : Jvm.MethodName) : Cond) ∈ lw_ok := lw_in (List.mem_append_right _ (List.mem_append_left _ (List.mem_of_getElem? (i := 205) rfl))) rfl
theorem k_206 : (Jvm.Cond.privateMethod ({ cls := "CharacterSets", name := "addGathered", desc := "(LCharacterSets$Ranges;Z)I" } : Jvm.MethodName) : Cond) ∈ lw_tbl := List.mem_append_right _ (List.mem_append_left _ (List.mem_of_getElem? (i := 206) rfl))
theorem k_207 : (Jvm.Cond.instanceMethod ({ cls := "CharacterSets", name := "addGathered", desc := "(LCharacterSets$Ranges;Z)I" } : Jvm.MethodName) : Cond) ∈ lw_ok := lw_in (List.mem_append_right _ (List.mem_append_left _ (List.mem_of_getElem? (i := 207) rfl))) rfl
theorem k_208 : (Jvm.Cond.code ({ cls := "CharacterSets", name := "addGathered", desc := "(LCharacterSets$Ranges;Z)I" } : Jvm.MethodName) prog_1_method_21_code (3 : Nat) (Option.some Jvm.ClassFile.FieldType.int) : Cond) ∈ lw_ok := lw_in (List.mem_append_right _ (List.mem_append_left _ (List.mem_of_getElem? (i := 208) rfl))) rfl
theorem k_209 : (Jvm.Cond.methodLink "CharacterSets" (82 : Nat) ({ cls := "CharacterSets$Ranges", name := "complement", desc := "(I)V" } : Jvm.MethodName) : Cond) ∈ lw_ok := lw_in (List.mem_append_right _ (List.mem_append_left _ (List.mem_of_getElem? (i := 209) rfl))) rfl
theorem k_210 : (Jvm.Cond.instanceMethod ({ cls := "CharacterSets$Ranges", name := "complement", desc := "(I)V" } : Jvm.MethodName) : Cond) ∈ lw_ok := lw_in (List.mem_append_right _ (List.mem_append_left _ (List.mem_of_getElem? (i := 210) rfl))) rfl
theorem k_211 : (Jvm.Cond.selects "CharacterSets$Ranges" ({ cls := "CharacterSets$Ranges", name := "complement", desc := "(I)V" } : Jvm.MethodName) ({ cls := "CharacterSets$Ranges", name := "complement", desc := "(I)V" } : Jvm.MethodName) : Cond) ∈ lw_ok := lw_in (List.mem_append_right _ (List.mem_append_left _ (List.mem_of_getElem? (i := 211) rfl))) rfl
theorem k_212 : (Jvm.Cond.code ({ cls := "CharacterSets$Ranges", name := "complement", desc := "(I)V" } : Jvm.MethodName) prog_3_method_13_code (2 : Nat) (Option.none : Option Jvm.ClassFile.FieldType) : Cond) ∈ lw_ok := lw_in (List.mem_append_right _ (List.mem_append_left _ (List.mem_of_getElem? (i := 212) rfl))) rfl
theorem k_213 : (Jvm.Cond.methodLink "CharacterSets" (85 : Nat) ({ cls := "CharacterSets$Ranges", name := "insertAll", desc := "(LCharacterSets$Ranges;)V" } : Jvm.MethodName) : Cond) ∈ lw_ok := lw_in (List.mem_append_right _ (List.mem_append_left _ (List.mem_of_getElem? (i := 213) rfl))) rfl
theorem k_214 : (Jvm.Cond.instanceMethod ({ cls := "CharacterSets$Ranges", name := "insertAll", desc := "(LCharacterSets$Ranges;)V" } : Jvm.MethodName) : Cond) ∈ lw_ok := lw_in (List.mem_append_right _ (List.mem_append_left _ (List.mem_of_getElem? (i := 214) rfl))) rfl
theorem k_215 : (Jvm.Cond.selects "CharacterSets$Ranges" ({ cls := "CharacterSets$Ranges", name := "insertAll", desc := "(LCharacterSets$Ranges;)V" } : Jvm.MethodName) ({ cls := "CharacterSets$Ranges", name := "insertAll", desc := "(LCharacterSets$Ranges;)V" } : Jvm.MethodName) : Cond) ∈ lw_ok := lw_in (List.mem_append_right _ (List.mem_append_left _ (List.mem_of_getElem? (i := 215) rfl))) rfl
theorem k_216 : (Jvm.Cond.code ({ cls := "CharacterSets$Ranges", name := "insertAll", desc := "(LCharacterSets$Ranges;)V" } : Jvm.MethodName) prog_3_method_12_code (3 : Nat) (Option.none : Option Jvm.ClassFile.FieldType) : Cond) ∈ lw_ok := lw_in (List.mem_append_right _ (List.mem_append_left _ (List.mem_of_getElem? (i := 216) rfl))) rfl
theorem k_217 : (Jvm.Cond.methodLink "CharacterSets$Ranges" (21 : Nat) ({ cls := "CharacterSets$Ranges", name := "rangeCount", desc := "()I" } : Jvm.MethodName) : Cond) ∈ lw_ok := lw_in (List.mem_append_right _ (List.mem_append_left _ (List.mem_of_getElem? (i := 217) rfl))) rfl
theorem k_218 : (Jvm.Cond.methodLink "CharacterSets$Ranges" (25 : Nat) ({ cls := "CharacterSets$Ranges", name := "lowOf", desc := "(I)I" } : Jvm.MethodName) : Cond) ∈ lw_ok := lw_in (List.mem_append_right _ (List.mem_append_left _ (List.mem_of_getElem? (i := 218) rfl))) rfl
theorem k_219 : (Jvm.Cond.instanceMethod ({ cls := "CharacterSets$Ranges", name := "lowOf", desc := "(I)I" } : Jvm.MethodName) : Cond) ∈ lw_ok := lw_in (List.mem_append_right _ (List.mem_append_left _ (List.mem_of_getElem? (i := 219) rfl))) rfl
theorem k_220 : (Jvm.Cond.selects "CharacterSets$Ranges" ({ cls := "CharacterSets$Ranges", name := "lowOf", desc := "(I)I" } : Jvm.MethodName) ({ cls := "CharacterSets$Ranges", name := "lowOf", desc := "(I)I" } : Jvm.MethodName) : Cond) ∈ lw_ok := lw_in (List.mem_append_right _ (List.mem_append_left _ (List.mem_of_getElem? (i := 220) rfl))) rfl
theorem k_221 : (Jvm.Cond.code ({ cls := "CharacterSets$Ranges", name := "lowOf", desc := "(I)I" } : Jvm.MethodName) prog_3_method_4_code (2 : Nat) (Option.some Jvm.ClassFile.FieldType.int) : Cond) ∈ lw_ok := lw_in (List.mem_append_right _ (List.mem_append_left _ (List.mem_of_getElem? (i := 221) rfl))) rfl
theorem k_222 : (Jvm.Cond.methodLink "CharacterSets$Ranges" (31 : Nat) ({ cls := "CharacterSets$Ranges", name := "highOf", desc := "(I)I" } : Jvm.MethodName) : Cond) ∈ lw_ok := lw_in (List.mem_append_right _ (List.mem_append_left _ (List.mem_of_getElem? (i := 222) rfl))) rfl
theorem k_223 : (Jvm.Cond.instanceMethod ({ cls := "CharacterSets$Ranges", name := "highOf", desc := "(I)I" } : Jvm.MethodName) : Cond) ∈ lw_ok := lw_in (List.mem_append_right _ (List.mem_append_left _ (List.mem_of_getElem? (i := 223) rfl))) rfl
theorem k_224 : (Jvm.Cond.selects "CharacterSets$Ranges" ({ cls := "CharacterSets$Ranges", name := "highOf", desc := "(I)I" } : Jvm.MethodName) ({ cls := "CharacterSets$Ranges", name := "highOf", desc := "(I)I" } : Jvm.MethodName) : Cond) ∈ lw_ok := lw_in (List.mem_append_right _ (List.mem_append_left _ (List.mem_of_getElem? (i := 224) rfl))) rfl
theorem k_225 : (Jvm.Cond.code ({ cls := "CharacterSets$Ranges", name := "highOf", desc := "(I)I" } : Jvm.MethodName) prog_3_method_5_code (2 : Nat) (Option.some Jvm.ClassFile.FieldType.int) : Cond) ∈ lw_ok := lw_in (List.mem_append_right _ (List.mem_append_left _ (List.mem_of_getElem? (i := 225) rfl))) rfl
theorem k_226 : (Jvm.Cond.methodLink "CharacterSets$Ranges" (40 : Nat) ({ cls := "CharacterSets$Ranges", name := "insert", desc := "(II)V" } : Jvm.MethodName) : Cond) ∈ lw_ok := lw_in (List.mem_append_right _ (List.mem_append_left _ (List.mem_of_getElem? (i := 226) rfl))) rfl
theorem k_227 : (Jvm.Cond.methodLink "CharacterSetsLaw" (36 : Nat) ({ cls := "CharacterSets", name := "named", desc := "(IIZZ)I" } : Jvm.MethodName) : Cond) ∈ lw_ok := lw_in (List.mem_append_right _ (List.mem_append_left _ (List.mem_of_getElem? (i := 227) rfl))) rfl
theorem k_228 : (Jvm.Cond.instanceMethod ({ cls := "CharacterSets", name := "named", desc := "(IIZZ)I" } : Jvm.MethodName) : Cond) ∈ lw_ok := lw_in (List.mem_append_right _ (List.mem_append_left _ (List.mem_of_getElem? (i := 228) rfl))) rfl
theorem k_229 : (Jvm.Cond.selects "CharacterSets" ({ cls := "CharacterSets", name := "named", desc := "(IIZZ)I" } : Jvm.MethodName) ({ cls := "CharacterSets", name := "named", desc := "(IIZZ)I" } : Jvm.MethodName) : Cond) ∈ lw_ok := lw_in (List.mem_append_right _ (List.mem_append_left _ (List.mem_of_getElem? (i := 229) rfl))) rfl
theorem k_230 : (Jvm.Cond.code ({ cls := "CharacterSets", name := "named", desc := "(IIZZ)I" } : Jvm.MethodName) prog_1_method_5_code (6 : Nat) (Option.some Jvm.ClassFile.FieldType.int) : Cond) ∈ lw_ok := lw_in (List.mem_append_right _ (List.mem_append_left _ (List.mem_of_getElem? (i := 230) rfl))) rfl
theorem k_231 : (Jvm.Cond.methodLink "CharacterSets" (71 : Nat) ({ cls := "CharacterSets", name := "gatherNamed", desc := "(I)V" } : Jvm.MethodName) : Cond) ∈ lw_ok := lw_in (List.mem_append_right _ (List.mem_append_left _ (List.mem_of_getElem? (i := 231) rfl))) rfl
theorem k_232 : (Jvm.Cond.privateMethod ({ cls := "CharacterSets", name := "gatherNamed", desc := "(I)V" } : Jvm.MethodName) : Cond) ∈ lw_tbl := List.mem_append_right _ (List.mem_append_left _ (List.mem_of_getElem? (i := 232) rfl))
theorem k_233 : (Jvm.Cond.instanceMethod ({ cls := "CharacterSets", name := "gatherNamed", desc := "(I)V" } : Jvm.MethodName) : Cond) ∈ lw_ok := lw_in (List.mem_append_right _ (List.mem_append_left _ (List.mem_of_getElem? (i := 233) rfl))) rfl
theorem k_234 : (Jvm.Cond.code ({ cls := "CharacterSets", name := "gatherNamed", desc := "(I)V" } : Jvm.MethodName) prog_1_method_24_code (3 : Nat) (Option.none : Option Jvm.ClassFile.FieldType) : Cond) ∈ lw_ok := lw_in (List.mem_append_right _ (List.mem_append_left _ (List.mem_of_getElem? (i := 234) rfl))) rfl
theorem k_235 : (Jvm.Cond.methodLink "CharacterSets" (144 : Nat) ({ cls := "CharacterSets", name := "listOf", desc := "(I)[I" } : Jvm.MethodName) : Cond) ∈ lw_ok := lw_in (List.mem_append_right _ (List.mem_append_left _ (List.mem_of_getElem? (i := 235) rfl))) rfl
theorem k_236 : (Jvm.Cond.static ({ cls := "CharacterSets", name := "listOf", desc := "(I)[I" } : Jvm.MethodName) : Cond) ∈ lw_ok := lw_in (List.mem_append_right _ (List.mem_append_left _ (List.mem_of_getElem? (i := 236) rfl))) rfl
theorem k_237 : (Jvm.Cond.code ({ cls := "CharacterSets", name := "listOf", desc := "(I)[I" } : Jvm.MethodName) prog_1_method_26_code (1 : Nat) (Option.some (Jvm.ClassFile.FieldType.array Jvm.ClassFile.FieldType.int)) : Cond) ∈ lw_ok := lw_in (List.mem_append_right _ (List.mem_append_left _ (List.mem_of_getElem? (i := 237) rfl))) rfl
theorem k_238 : (Jvm.Cond.fieldLink "CharacterSets" (162 : Nat) "CharacterSets" "DIGITS" "[I" : Cond) ∈ lw_ok := lw_in (List.mem_append_right _ (List.mem_append_left _ (List.mem_of_getElem? (i := 238) rfl))) rfl
theorem k_239 : (Jvm.Cond.laysStatic "CharacterSets" "DIGITS" "[I" : Cond) ∈ lw_tbl := List.mem_append_right _ (List.mem_append_left _ (List.mem_of_getElem? (i := 239) rfl))
theorem k_240 : (Jvm.Cond.fieldLink "CharacterSets" (165 : Nat) "CharacterSets" "WORDS" "[I" : Cond) ∈ lw_ok := lw_in (List.mem_append_right _ (List.mem_append_right _ (List.mem_append_left _ (List.mem_of_getElem? (i := 0) rfl)))) rfl
theorem k_241 : (Jvm.Cond.laysStatic "CharacterSets" "WORDS" "[I" : Cond) ∈ lw_tbl := List.mem_append_right _ (List.mem_append_right _ (List.mem_append_left _ (List.mem_of_getElem? (i := 1) rfl)))
theorem k_242 : (Jvm.Cond.fieldLink "CharacterSets" (168 : Nat) "CharacterSets" "SPACES" "[I" : Cond) ∈ lw_ok := lw_in (List.mem_append_right _ (List.mem_append_right _ (List.mem_append_left _ (List.mem_of_getElem? (i := 2) rfl)))) rfl
theorem k_243 : (Jvm.Cond.laysStatic "CharacterSets" "SPACES" "[I" : Cond) ∈ lw_tbl := List.mem_append_right _ (List.mem_append_right _ (List.mem_append_left _ (List.mem_of_getElem? (i := 3) rfl)))
theorem k_244 : (Jvm.Cond.fieldLink "CharacterSets" (155 : Nat) "CharacterSets" "HORIZONTALS" "[I" : Cond) ∈ lw_ok := lw_in (List.mem_append_right _ (List.mem_append_right _ (List.mem_append_left _ (List.mem_of_getElem? (i := 4) rfl)))) rfl
theorem k_245 : (Jvm.Cond.laysStatic "CharacterSets" "HORIZONTALS" "[I" : Cond) ∈ lw_tbl := List.mem_append_right _ (List.mem_append_right _ (List.mem_append_left _ (List.mem_of_getElem? (i := 5) rfl)))
theorem k_246 : (Jvm.Cond.fieldLink "CharacterSets" (171 : Nat) "CharacterSets" "VERTICALS" "[I" : Cond) ∈ lw_ok := lw_in (List.mem_append_right _ (List.mem_append_right _ (List.mem_append_left _ (List.mem_of_getElem? (i := 6) rfl)))) rfl
theorem k_247 : (Jvm.Cond.laysStatic "CharacterSets" "VERTICALS" "[I" : Cond) ∈ lw_tbl := List.mem_append_right _ (List.mem_append_right _ (List.mem_append_left _ (List.mem_of_getElem? (i := 7) rfl)))
theorem k_248 : (Jvm.Cond.fieldLink "CharacterSets" (174 : Nat) "CharacterSets" "ALPHAS" "[I" : Cond) ∈ lw_ok := lw_in (List.mem_append_right _ (List.mem_append_right _ (List.mem_append_left _ (List.mem_of_getElem? (i := 8) rfl)))) rfl
theorem k_249 : (Jvm.Cond.laysStatic "CharacterSets" "ALPHAS" "[I" : Cond) ∈ lw_tbl := List.mem_append_right _ (List.mem_append_right _ (List.mem_append_left _ (List.mem_of_getElem? (i := 9) rfl)))
theorem k_250 : (Jvm.Cond.fieldLink "CharacterSets" (177 : Nat) "CharacterSets" "LOWERS" "[I" : Cond) ∈ lw_ok := lw_in (List.mem_append_right _ (List.mem_append_right _ (List.mem_append_left _ (List.mem_of_getElem? (i := 10) rfl)))) rfl
theorem k_251 : (Jvm.Cond.laysStatic "CharacterSets" "LOWERS" "[I" : Cond) ∈ lw_tbl := List.mem_append_right _ (List.mem_append_right _ (List.mem_append_left _ (List.mem_of_getElem? (i := 11) rfl)))
theorem k_252 : (Jvm.Cond.fieldLink "CharacterSets" (180 : Nat) "CharacterSets" "UPPERS" "[I" : Cond) ∈ lw_ok := lw_in (List.mem_append_right _ (List.mem_append_right _ (List.mem_append_left _ (List.mem_of_getElem? (i := 12) rfl)))) rfl
theorem k_253 : (Jvm.Cond.laysStatic "CharacterSets" "UPPERS" "[I" : Cond) ∈ lw_tbl := List.mem_append_right _ (List.mem_append_right _ (List.mem_append_left _ (List.mem_of_getElem? (i := 13) rfl)))
theorem k_254 : (Jvm.Cond.fieldLink "CharacterSets" (183 : Nat) "CharacterSets" "ALNUMS" "[I" : Cond) ∈ lw_ok := lw_in (List.mem_append_right _ (List.mem_append_right _ (List.mem_append_left _ (List.mem_of_getElem? (i := 14) rfl)))) rfl
theorem k_255 : (Jvm.Cond.laysStatic "CharacterSets" "ALNUMS" "[I" : Cond) ∈ lw_tbl := List.mem_append_right _ (List.mem_append_right _ (List.mem_append_left _ (List.mem_of_getElem? (i := 15) rfl)))
theorem k_256 : (Jvm.Cond.fieldLink "CharacterSets" (186 : Nat) "CharacterSets" "BLANKS" "[I" : Cond) ∈ lw_ok := lw_in (List.mem_append_right _ (List.mem_append_right _ (List.mem_append_left _ (List.mem_of_getElem? (i := 16) rfl)))) rfl
theorem k_257 : (Jvm.Cond.laysStatic "CharacterSets" "BLANKS" "[I" : Cond) ∈ lw_tbl := List.mem_append_right _ (List.mem_append_right _ (List.mem_append_left _ (List.mem_of_getElem? (i := 17) rfl)))
theorem k_258 : (Jvm.Cond.fieldLink "CharacterSets" (189 : Nat) "CharacterSets" "CONTROLS" "[I" : Cond) ∈ lw_ok := lw_in (List.mem_append_right _ (List.mem_append_right _ (List.mem_append_left _ (List.mem_of_getElem? (i := 18) rfl)))) rfl
theorem k_259 : (Jvm.Cond.laysStatic "CharacterSets" "CONTROLS" "[I" : Cond) ∈ lw_tbl := List.mem_append_right _ (List.mem_append_right _ (List.mem_append_left _ (List.mem_of_getElem? (i := 19) rfl)))
theorem k_260 : (Jvm.Cond.fieldLink "CharacterSets" (192 : Nat) "CharacterSets" "GRAPHS" "[I" : Cond) ∈ lw_ok := lw_in (List.mem_append_right _ (List.mem_append_right _ (List.mem_append_left _ (List.mem_of_getElem? (i := 20) rfl)))) rfl
theorem k_261 : (Jvm.Cond.laysStatic "CharacterSets" "GRAPHS" "[I" : Cond) ∈ lw_tbl := List.mem_append_right _ (List.mem_append_right _ (List.mem_append_left _ (List.mem_of_getElem? (i := 21) rfl)))
theorem k_262 : (Jvm.Cond.fieldLink "CharacterSets" (195 : Nat) "CharacterSets" "PRINTS" "[I" : Cond) ∈ lw_ok := lw_in (List.mem_append_right _ (List.mem_append_right _ (List.mem_append_left _ (List.mem_of_getElem? (i := 22) rfl)))) rfl
theorem k_263 : (Jvm.Cond.laysStatic "CharacterSets" "PRINTS" "[I" : Cond) ∈ lw_tbl := List.mem_append_right _ (List.mem_append_right _ (List.mem_append_left _ (List.mem_of_getElem? (i := 23) rfl)))
theorem k_264 : (Jvm.Cond.fieldLink "CharacterSets" (198 : Nat) "CharacterSets" "PUNCTS" "[I" : Cond) ∈ lw_ok := lw_in (List.mem_append_right _ (List.mem_append_right _ (List.mem_append_left _ (List.mem_of_getElem? (i := 24) rfl)))) rfl
theorem k_265 : (Jvm.Cond.laysStatic "CharacterSets" "PUNCTS" "[I" : Cond) ∈ lw_tbl := List.mem_append_right _ (List.mem_append_right _ (List.mem_append_left _ (List.mem_of_getElem? (i := 25) rfl)))
theorem k_266 : (Jvm.Cond.fieldLink "CharacterSets" (201 : Nat) "CharacterSets" "HEX_DIGITS" "[I" : Cond) ∈ lw_ok := lw_in (List.mem_append_right _ (List.mem_append_right _ (List.mem_append_left _ (List.mem_of_getElem? (i := 26) rfl)))) rfl
theorem k_267 : (Jvm.Cond.laysStatic "CharacterSets" "HEX_DIGITS" "[I" : Cond) ∈ lw_tbl := List.mem_append_right _ (List.mem_append_right _ (List.mem_append_left _ (List.mem_of_getElem? (i := 27) rfl)))
theorem k_268 : (Jvm.Cond.fieldLink "CharacterSets" (204 : Nat) "CharacterSets" "ASCII" "[I" : Cond) ∈ lw_ok := lw_in (List.mem_append_right _ (List.mem_append_right _ (List.mem_append_left _ (List.mem_of_getElem? (i := 28) rfl)))) rfl
theorem k_269 : (Jvm.Cond.laysStatic "CharacterSets" "ASCII" "[I" : Cond) ∈ lw_tbl := List.mem_append_right _ (List.mem_append_right _ (List.mem_append_left _ (List.mem_of_getElem? (i := 29) rfl)))
theorem k_270 : (Jvm.Cond.fieldLink "CharacterSets" (207 : Nat) "CharacterSets" "NOTHING" "[I" : Cond) ∈ lw_ok := lw_in (List.mem_append_right _ (List.mem_append_right _ (List.mem_append_left _ (List.mem_of_getElem? (i := 30) rfl)))) rfl
theorem k_271 : (Jvm.Cond.laysStatic "CharacterSets" "NOTHING" "[I" : Cond) ∈ lw_tbl := List.mem_append_right _ (List.mem_append_right _ (List.mem_append_left _ (List.mem_of_getElem? (i := 31) rfl)))
theorem k_272 : (Jvm.Cond.methodLink "CharacterSets" (148 : Nat) ({ cls := "CharacterSets", name := "gatherList", desc := "([I)V" } : Jvm.MethodName) : Cond) ∈ lw_ok := lw_in (List.mem_append_right _ (List.mem_append_right _ (List.mem_append_left _ (List.mem_of_getElem? (i := 32) rfl)))) rfl
theorem k_273 : (Jvm.Cond.privateMethod ({ cls := "CharacterSets", name := "gatherList", desc := "([I)V" } : Jvm.MethodName) : Cond) ∈ lw_tbl := List.mem_append_right _ (List.mem_append_right _ (List.mem_append_left _ (List.mem_of_getElem? (i := 33) rfl)))
theorem k_274 : (Jvm.Cond.instanceMethod ({ cls := "CharacterSets", name := "gatherList", desc := "([I)V" } : Jvm.MethodName) : Cond) ∈ lw_ok := lw_in (List.mem_append_right _ (List.mem_append_right _ (List.mem_append_left _ (List.mem_of_getElem? (i := 34) rfl)))) rfl
theorem k_275 : (Jvm.Cond.code ({ cls := "CharacterSets", name := "gatherList", desc := "([I)V" } : Jvm.MethodName) prog_1_method_27_code (3 : Nat) (Option.none : Option Jvm.ClassFile.FieldType) : Cond) ∈ lw_ok := lw_in (List.mem_append_right _ (List.mem_append_right _ (List.mem_append_left _ (List.mem_of_getElem? (i := 35) rfl)))) rfl
theorem k_276 : (Jvm.Cond.methodLink "CharacterSets" (152 : Nat) ({ cls := "CharacterSets", name := "propertyOf", desc := "(I)I" } : Jvm.MethodName) : Cond) ∈ lw_ok := lw_in (List.mem_append_right _ (List.mem_append_right _ (List.mem_append_left _ (List.mem_of_getElem? (i := 36) rfl)))) rfl
theorem k_277 : (Jvm.Cond.static ({ cls := "CharacterSets", name := "propertyOf", desc := "(I)I" } : Jvm.MethodName) : Cond) ∈ lw_ok := lw_in (List.mem_append_right _ (List.mem_append_right _ (List.mem_append_left _ (List.mem_of_getElem? (i := 37) rfl)))) rfl
theorem k_278 : (Jvm.Cond.code ({ cls := "CharacterSets", name := "propertyOf", desc := "(I)I" } : Jvm.MethodName) prog_1_method_25_code (1 : Nat) (Option.some Jvm.ClassFile.FieldType.int) : Cond) ∈ lw_ok := lw_in (List.mem_append_right _ (List.mem_append_right _ (List.mem_append_left _ (List.mem_of_getElem? (i := 38) rfl)))) rfl
theorem k_279 : (Jvm.Cond.constant "CharacterSets" (158 : Nat) (4194300 : Int32) : Cond) ∈ lw_ok := lw_in (List.mem_append_right _ (List.mem_append_right _ (List.mem_append_left _ (List.mem_of_getElem? (i := 39) rfl)))) rfl
theorem k_280 : (Jvm.Cond.constant "CharacterSets" (159 : Nat) (20971516 : Int32) : Cond) ∈ lw_ok := lw_in (List.mem_append_right _ (List.mem_append_right _ (List.mem_append_left _ (List.mem_of_getElem? (i := 40) rfl)))) rfl
theorem k_281 : (Jvm.Cond.constant "CharacterSets" (160 : Nat) (260096 : Int32) : Cond) ∈ lw_ok := lw_in (List.mem_append_right _ (List.mem_append_right _ (List.mem_append_left _ (List.mem_of_getElem? (i := 41) rfl)))) rfl
theorem k_282 : (Jvm.Cond.constant "CharacterSets" (161 : Nat) (3932160 : Int32) : Cond) ∈ lw_ok := lw_in (List.mem_append_right _ (List.mem_append_right _ (List.mem_append_left _ (List.mem_of_getElem? (i := 42) rfl)))) rfl
theorem k_283 : (Jvm.Cond.methodLink "CharacterSetsLaw" (40 : Nat) ({ cls := "CharacterSets", name := "close", desc := "(I)I" } : Jvm.MethodName) : Cond) ∈ lw_ok := lw_in (List.mem_append_right _ (List.mem_append_right _ (List.mem_append_left _ (List.mem_of_getElem? (i := 43) rfl)))) rfl
theorem k_284 : (Jvm.Cond.instanceMethod ({ cls := "CharacterSets", name := "close", desc := "(I)I" } : Jvm.MethodName) : Cond) ∈ lw_ok := lw_in (List.mem_append_right _ (List.mem_append_right _ (List.mem_append_left _ (List.mem_of_getElem? (i := 44) rfl)))) rfl
theorem k_285 : (Jvm.Cond.selects "CharacterSets" ({ cls := "CharacterSets", name := "close", desc := "(I)I" } : Jvm.MethodName) ({ cls := "CharacterSets", name := "close", desc := "(I)I" } : Jvm.MethodName) : Cond) ∈ lw_ok := lw_in (List.mem_append_right _ (List.mem_append_right _ (List.mem_append_left _ (List.mem_of_getElem? (i := 45) rfl)))) rfl
theorem k_286 : (Jvm.Cond.code ({ cls := "CharacterSets", name := "close", desc := "(I)I" } : Jvm.MethodName) prog_1_method_6_code (5 : Nat) (Option.some Jvm.ClassFile.FieldType.int) : Cond) ∈ lw_ok := lw_in (List.mem_append_right _ (List.mem_append_right _ (List.mem_append_left _ (List.mem_of_getElem? (i := 46) rfl)))) rfl
theorem k_287 : (Jvm.Cond.methodLink "CharacterSets" (74 : Nat) ({ cls := "CharacterSets$CaseRings", name := "characterAt", desc := "(I)I" } : Jvm.MethodName) : Cond) ∈ lw_ok := lw_in (List.mem_append_right _ (List.mem_append_right _ (List.mem_append_left _ (List.mem_of_getElem? (i := 47) rfl)))) rfl
theorem k_288 : (Jvm.Cond.methodLink "CharacterSets" (78 : Nat) ({ cls := "CharacterSets", name := "isMissing", desc := "(LCharacterSets$Ranges;I)Z" } : Jvm.MethodName) : Cond) ∈ lw_ok := lw_in (List.mem_append_right _ (List.mem_append_right _ (List.mem_append_left _ (List.mem_of_getElem? (i := 48) rfl)))) rfl
theorem k_289 : (Jvm.Cond.privateMethod ({ cls := "CharacterSets", name := "isMissing", desc := "(LCharacterSets$Ranges;I)Z" } : Jvm.MethodName) : Cond) ∈ lw_tbl := List.mem_append_right _ (List.mem_append_right _ (List.mem_append_left _ (List.mem_of_getElem? (i := 49) rfl)))
theorem k_290 : (Jvm.Cond.instanceMethod ({ cls := "CharacterSets", name := "isMissing", desc := "(LCharacterSets$Ranges;I)Z" } : Jvm.MethodName) : Cond) ∈ lw_ok := lw_in (List.mem_append_right _ (List.mem_append_right _ (List.mem_append_left _ (List.mem_of_getElem? (i := 50) rfl)))) rfl
theorem k_291 : (Jvm.Cond.code ({ cls := "CharacterSets", name := "isMissing", desc := "(LCharacterSets$Ranges;I)Z" } : Jvm.MethodName) prog_1_method_18_code (4 : Nat) (Option.some Jvm.ClassFile.FieldType.boolean) : Cond) ∈ lw_ok := lw_in (List.mem_append_right _ (List.mem_append_right _ (List.mem_append_left _ (List.mem_of_getElem? (i := 51) rfl)))) rfl
theorem k_292 : (Jvm.Cond.methodLink "CharacterSets" (123 : Nat) ({ cls := "CharacterSets$CaseRings", name := "nextOf", desc := "(I)I" } : Jvm.MethodName) : Cond) ∈ lw_ok := lw_in (List.mem_append_right _ (List.mem_append_right _ (List.mem_append_left _ (List.mem_of_getElem? (i := 52) rfl)))) rfl
theorem k_293 : (Jvm.Cond.instanceMethod ({ cls := "CharacterSets$CaseRings", name := "nextOf", desc := "(I)I" } : Jvm.MethodName) : Cond) ∈ lw_ok := lw_in (List.mem_append_right _ (List.mem_append_right _ (List.mem_append_left _ (List.mem_of_getElem? (i := 53) rfl)))) rfl
theorem k_294 : (Jvm.Cond.selects "CharacterSets$CaseRings" ({ cls := "CharacterSets$CaseRings", name := "nextOf", desc := "(I)I" } : Jvm.MethodName) ({ cls := "CharacterSets$CaseRings", name := "nextOf", desc := "(I)I" } : Jvm.MethodName) : Cond) ∈ lw_ok := lw_in (List.mem_append_right _ (List.mem_append_right _ (List.mem_append_left _ (List.mem_of_getElem? (i := 54) rfl)))) rfl
theorem k_295 : (Jvm.Cond.code ({ cls := "CharacterSets$CaseRings", name := "nextOf", desc := "(I)I" } : Jvm.MethodName) prog_2_method_3_code (3 : Nat) (Option.some Jvm.ClassFile.FieldType.int) : Cond) ∈ lw_ok := lw_in (List.mem_append_right _ (List.mem_append_right _ (List.mem_append_left _ (List.mem_of_getElem? (i := 55) rfl)))) rfl
theorem k_296 : (Jvm.Cond.methodLink "CharacterSets" (96 : Nat) ({ cls := "CharacterSets$Ranges", name := "contains", desc := "(I)Z" } : Jvm.MethodName) : Cond) ∈ lw_ok := lw_in (List.mem_append_right _ (List.mem_append_right _ (List.mem_append_left _ (List.mem_of_getElem? (i := 56) rfl)))) rfl
theorem k_297 : (Jvm.Cond.instanceMethod ({ cls := "CharacterSets$Ranges", name := "contains", desc := "(I)Z" } : Jvm.MethodName) : Cond) ∈ lw_ok := lw_in (List.mem_append_right _ (List.mem_append_right _ (List.mem_append_left _ (List.mem_of_getElem? (i := 57) rfl)))) rfl
theorem k_298 : (Jvm.Cond.selects "CharacterSets$Ranges" ({ cls := "CharacterSets$Ranges", name := "contains", desc := "(I)Z" } : Jvm.MethodName) ({ cls := "CharacterSets$Ranges", name := "contains", desc := "(I)Z" } : Jvm.MethodName) : Cond) ∈ lw_ok := lw_in (List.mem_append_right _ (List.mem_append_right _ (List.mem_append_left _ (List.mem_of_getElem? (i := 58) rfl)))) rfl
theorem k_299 : (Jvm.Cond.code ({ cls := "CharacterSets$Ranges", name := "contains", desc := "(I)Z" } : Jvm.MethodName) prog_3_method_7_code (2 : Nat) (Option.some Jvm.ClassFile.FieldType.boolean) : Cond) ∈ lw_ok := lw_in (List.mem_append_right _ (List.mem_append_right _ (List.mem_append_left _ (List.mem_of_getElem? (i := 59) rfl)))) rfl
theorem k_300 : (Jvm.Cond.methodLink "CharacterSetsLaw" (44 : Nat) ({ cls := "CharacterSets", name := "invert", desc := "(I)I" } : Jvm.MethodName) : Cond) ∈ lw_ok := lw_in (List.mem_append_right _ (List.mem_append_right _ (List.mem_append_left _ (List.mem_of_getElem? (i := 60) rfl)))) rfl
theorem k_301 : (Jvm.Cond.instanceMethod ({ cls := "CharacterSets", name := "invert", desc := "(I)I" } : Jvm.MethodName) : Cond) ∈ lw_ok := lw_in (List.mem_append_right _ (List.mem_append_right _ (List.mem_append_left _ (List.mem_of_getElem? (i := 61) rfl)))) rfl
theorem k_302 : (Jvm.Cond.selects "CharacterSets" ({ cls := "CharacterSets", name := "invert", desc := "(I)I" } : Jvm.MethodName) ({ cls := "CharacterSets", name := "invert", desc := "(I)I" } : Jvm.MethodName) : Cond) ∈ lw_ok := lw_in (List.mem_append_right _ (List.mem_append_right _ (List.mem_append_left _ (List.mem_of_getElem? (i := 62) rfl)))) rfl
theorem k_303 : (Jvm.Cond.code ({ cls := "CharacterSets", name := "invert", desc := "(I)I" } : Jvm.MethodName) prog_1_method_7_code (2 : Nat) (Option.some Jvm.ClassFile.FieldType.int) : Cond) ∈ lw_ok := lw_in (List.mem_append_right _ (List.mem_append_right _ (List.mem_append_left _ (List.mem_of_getElem? (i := 63) rfl)))) rfl
theorem k_304 : (Jvm.Cond.methodLink "CharacterSetsLaw" (48 : Nat) ({ cls := "CharacterSets", name := "join", desc := "(II)I" } : Jvm.MethodName) : Cond) ∈ lw_ok := lw_in (List.mem_append_right _ (List.mem_append_right _ (List.mem_append_left _ (List.mem_of_getElem? (i := 64) rfl)))) rfl
theorem k_305 : (Jvm.Cond.instanceMethod ({ cls := "CharacterSets", name := "join", desc := "(II)I" } : Jvm.MethodName) : Cond) ∈ lw_ok := lw_in (List.mem_append_right _ (List.mem_append_right _ (List.mem_append_left _ (List.mem_of_getElem? (i := 65) rfl)))) rfl
theorem k_306 : (Jvm.Cond.selects "CharacterSets" ({ cls := "CharacterSets", name := "join", desc := "(II)I" } : Jvm.MethodName) ({ cls := "CharacterSets", name := "join", desc := "(II)I" } : Jvm.MethodName) : Cond) ∈ lw_ok := lw_in (List.mem_append_right _ (List.mem_append_right _ (List.mem_append_left _ (List.mem_of_getElem? (i := 66) rfl)))) rfl
theorem k_307 : (Jvm.Cond.code ({ cls := "CharacterSets", name := "join", desc := "(II)I" } : Jvm.MethodName) prog_1_method_8_code (3 : Nat) (Option.some Jvm.ClassFile.FieldType.int) : Cond) ∈ lw_ok := lw_in (List.mem_append_right _ (List.mem_append_right _ (List.mem_append_left _ (List.mem_of_getElem? (i := 67) rfl)))) rfl
theorem k_308 : (Jvm.Cond.methodLink "CharacterSetsLaw" (53 : Nat) ({ cls := "CharacterSets", name := "meets", desc := "(II)I" } : Jvm.MethodName) : Cond) ∈ lw_ok := lw_in (List.mem_append_right _ (List.mem_append_right _ (List.mem_append_left _ (List.mem_of_getElem? (i := 68) rfl)))) rfl
theorem k_309 : (Jvm.Cond.instanceMethod ({ cls := "CharacterSets", name := "meets", desc := "(II)I" } : Jvm.MethodName) : Cond) ∈ lw_ok := lw_in (List.mem_append_right _ (List.mem_append_right _ (List.mem_append_left _ (List.mem_of_getElem? (i := 69) rfl)))) rfl
theorem k_310 : (Jvm.Cond.selects "CharacterSets" ({ cls := "CharacterSets", name := "meets", desc := "(II)I" } : Jvm.MethodName) ({ cls := "CharacterSets", name := "meets", desc := "(II)I" } : Jvm.MethodName) : Cond) ∈ lw_ok := lw_in (List.mem_append_right _ (List.mem_append_right _ (List.mem_append_left _ (List.mem_of_getElem? (i := 70) rfl)))) rfl
theorem k_311 : (Jvm.Cond.code ({ cls := "CharacterSets", name := "meets", desc := "(II)I" } : Jvm.MethodName) prog_1_method_9_code (3 : Nat) (Option.some Jvm.ClassFile.FieldType.int) : Cond) ∈ lw_ok := lw_in (List.mem_append_right _ (List.mem_append_right _ (List.mem_append_left _ (List.mem_of_getElem? (i := 71) rfl)))) rfl
theorem k_312 : (Jvm.Cond.methodLink "CharacterSets" (89 : Nat) ({ cls := "CharacterSets$Ranges", name := "overlaps", desc := "(LCharacterSets$Ranges;)Z" } : Jvm.MethodName) : Cond) ∈ lw_ok := lw_in (List.mem_append_right _ (List.mem_append_right _ (List.mem_append_left _ (List.mem_of_getElem? (i := 72) rfl)))) rfl
theorem k_313 : (Jvm.Cond.instanceMethod ({ cls := "CharacterSets$Ranges", name := "overlaps", desc := "(LCharacterSets$Ranges;)Z" } : Jvm.MethodName) : Cond) ∈ lw_ok := lw_in (List.mem_append_right _ (List.mem_append_right _ (List.mem_append_left _ (List.mem_of_getElem? (i := 73) rfl)))) rfl
theorem k_314 : (Jvm.Cond.selects "CharacterSets$Ranges" ({ cls := "CharacterSets$Ranges", name := "overlaps", desc := "(LCharacterSets$Ranges;)Z" } : Jvm.MethodName) ({ cls := "CharacterSets$Ranges", name := "overlaps", desc := "(LCharacterSets$Ranges;)Z" } : Jvm.MethodName) : Cond) ∈ lw_ok := lw_in (List.mem_append_right _ (List.mem_append_right _ (List.mem_append_left _ (List.mem_of_getElem? (i := 74) rfl)))) rfl
theorem k_315 : (Jvm.Cond.code ({ cls := "CharacterSets$Ranges", name := "overlaps", desc := "(LCharacterSets$Ranges;)Z" } : Jvm.MethodName) prog_3_method_10_code (4 : Nat) (Option.some Jvm.ClassFile.FieldType.boolean) : Cond) ∈ lw_ok := lw_in (List.mem_append_right _ (List.mem_append_right _ (List.mem_append_left _ (List.mem_of_getElem? (i := 75) rfl)))) rfl
theorem k_316 : (Jvm.Cond.methodLink "CharacterSets$Ranges" (28 : Nat) ({ cls := "CharacterSets$Ranges", name := "firstFrom", desc := "(I)I" } : Jvm.MethodName) : Cond) ∈ lw_ok := lw_in (List.mem_append_right _ (List.mem_append_right _ (List.mem_append_left _ (List.mem_of_getElem? (i := 76) rfl)))) rfl
theorem k_317 : (Jvm.Cond.instanceMethod ({ cls := "CharacterSets$Ranges", name := "firstFrom", desc := "(I)I" } : Jvm.MethodName) : Cond) ∈ lw_ok := lw_in (List.mem_append_right _ (List.mem_append_right _ (List.mem_append_left _ (List.mem_of_getElem? (i := 77) rfl)))) rfl
theorem k_318 : (Jvm.Cond.selects "CharacterSets$Ranges" ({ cls := "CharacterSets$Ranges", name := "firstFrom", desc := "(I)I" } : Jvm.MethodName) ({ cls := "CharacterSets$Ranges", name := "firstFrom", desc := "(I)I" } : Jvm.MethodName) : Cond) ∈ lw_ok := lw_in (List.mem_append_right _ (List.mem_append_right _ (List.mem_append_left _ (List.mem_of_getElem? (i := 78) rfl)))) rfl
theorem k_319 : (Jvm.Cond.code ({ cls := "CharacterSets$Ranges", name := "firstFrom", desc := "(I)I" } : Jvm.MethodName) prog_3_method_8_code (3 : Nat) (Option.some Jvm.ClassFile.FieldType.int) : Cond) ∈ lw_ok := lw_in (List.mem_append_right _ (List.mem_append_right _ (List.mem_append_left _ (List.mem_of_getElem? (i := 79) rfl)))) rfl
theorem k_320 : (Jvm.Cond.methodLink "CharacterSetsLaw" (57 : Nat) ({ cls := "CharacterSets", name := "same", desc := "(II)I" } : Jvm.MethodName) : Cond) ∈ lw_ok := lw_in (List.mem_append_right _ (List.mem_append_right _ (List.mem_append_left _ (List.mem_of_getElem? (i := 80) rfl)))) rfl
theorem k_321 : (Jvm.Cond.instanceMethod ({ cls := "CharacterSets", name := "same", desc := "(II)I" } : Jvm.MethodName) : Cond) ∈ lw_ok := lw_in (List.mem_append_right _ (List.mem_append_right _ (List.mem_append_left _ (List.mem_of_getElem? (i := 81) rfl)))) rfl
theorem k_322 : (Jvm.Cond.selects "CharacterSets" ({ cls := "CharacterSets", name := "same", desc := "(II)I" } : Jvm.MethodName) ({ cls := "CharacterSets", name := "same", desc := "(II)I" } : Jvm.MethodName) : Cond) ∈ lw_ok := lw_in (List.mem_append_right _ (List.mem_append_right _ (List.mem_append_left _ (List.mem_of_getElem? (i := 82) rfl)))) rfl
theorem k_323 : (Jvm.Cond.code ({ cls := "CharacterSets", name := "same", desc := "(II)I" } : Jvm.MethodName) prog_1_method_10_code (3 : Nat) (Option.some Jvm.ClassFile.FieldType.int) : Cond) ∈ lw_ok := lw_in (List.mem_append_right _ (List.mem_append_right _ (List.mem_append_left _ (List.mem_of_getElem? (i := 83) rfl)))) rfl
theorem k_324 : (Jvm.Cond.methodLink "CharacterSets" (93 : Nat) ({ cls := "CharacterSets$Ranges", name := "matches", desc := "(LCharacterSets$Ranges;)Z" } : Jvm.MethodName) : Cond) ∈ lw_ok := lw_in (List.mem_append_right _ (List.mem_append_right _ (List.mem_append_left _ (List.mem_of_getElem? (i := 84) rfl)))) rfl
theorem k_325 : (Jvm.Cond.instanceMethod ({ cls := "CharacterSets$Ranges", name := "matches", desc := "(LCharacterSets$Ranges;)Z" } : Jvm.MethodName) : Cond) ∈ lw_ok := lw_in (List.mem_append_right _ (List.mem_append_right _ (List.mem_append_left _ (List.mem_of_getElem? (i := 85) rfl)))) rfl
theorem k_326 : (Jvm.Cond.selects "CharacterSets$Ranges" ({ cls := "CharacterSets$Ranges", name := "matches", desc := "(LCharacterSets$Ranges;)Z" } : Jvm.MethodName) ({ cls := "CharacterSets$Ranges", name := "matches", desc := "(LCharacterSets$Ranges;)Z" } : Jvm.MethodName) : Cond) ∈ lw_ok := lw_in (List.mem_append_right _ (List.mem_append_right _ (List.mem_append_left _ (List.mem_of_getElem? (i := 86) rfl)))) rfl
theorem k_327 : (Jvm.Cond.code ({ cls := "CharacterSets$Ranges", name := "matches", desc := "(LCharacterSets$Ranges;)Z" } : Jvm.MethodName) prog_3_method_9_code (3 : Nat) (Option.some Jvm.ClassFile.FieldType.boolean) : Cond) ∈ lw_ok := lw_in (List.mem_append_right _ (List.mem_append_right _ (List.mem_append_left _ (List.mem_of_getElem? (i := 87) rfl)))) rfl
theorem k_328 : (Jvm.Cond.methodLink "CharacterSetsLaw" (61 : Nat) ({ cls := "CharacterSets", name := "has", desc := "(II)I" } : Jvm.MethodName) : Cond) ∈ lw_ok := lw_in (List.mem_append_right _ (List.mem_append_right _ (List.mem_append_left _ (List.mem_of_getElem? (i := 88) rfl)))) rfl
theorem k_329 : (Jvm.Cond.instanceMethod ({ cls := "CharacterSets", name := "has", desc := "(II)I" } : Jvm.MethodName) : Cond) ∈ lw_ok := lw_in (List.mem_append_right _ (List.mem_append_right _ (List.mem_append_left _ (List.mem_of_getElem? (i := 89) rfl)))) rfl
theorem k_330 : (Jvm.Cond.selects "CharacterSets" ({ cls := "CharacterSets", name := "has", desc := "(II)I" } : Jvm.MethodName) ({ cls := "CharacterSets", name := "has", desc := "(II)I" } : Jvm.MethodName) : Cond) ∈ lw_ok := lw_in (List.mem_append_right _ (List.mem_append_right _ (List.mem_append_left _ (List.mem_of_getElem? (i := 90) rfl)))) rfl
theorem k_331 : (Jvm.Cond.code ({ cls := "CharacterSets", name := "has", desc := "(II)I" } : Jvm.MethodName) prog_1_method_11_code (3 : Nat) (Option.some Jvm.ClassFile.FieldType.int) : Cond) ∈ lw_ok := lw_in (List.mem_append_right _ (List.mem_append_right _ (List.mem_append_left _ (List.mem_of_getElem? (i := 91) rfl)))) rfl
theorem k_332 : (Jvm.Cond.methodLink "CharacterSetsLaw" (65 : Nat) ({ cls := "CharacterSets", name := "size", desc := "(I)I" } : Jvm.MethodName) : Cond) ∈ lw_ok := lw_in (List.mem_append_right _ (List.mem_append_right _ (List.mem_append_left _ (List.mem_of_getElem? (i := 92) rfl)))) rfl
theorem k_333 : (Jvm.Cond.instanceMethod ({ cls := "CharacterSets", name := "size", desc := "(I)I" } : Jvm.MethodName) : Cond) ∈ lw_ok := lw_in (List.mem_append_right _ (List.mem_append_right _ (List.mem_append_left _ (List.mem_of_getElem? (i := 93) rfl)))) rfl
theorem k_334 : (Jvm.Cond.selects "CharacterSets" ({ cls := "CharacterSets", name := "size", desc := "(I)I" } : Jvm.MethodName) ({ cls := "CharacterSets", name := "size", desc := "(I)I" } : Jvm.MethodName) : Cond) ∈ lw_ok := lw_in (List.mem_append_right _ (List.mem_append_right _ (List.mem_append_left _ (List.mem_of_getElem? (i := 94) rfl)))) rfl
theorem k_335 : (Jvm.Cond.code ({ cls := "CharacterSets", name := "size", desc := "(I)I" } : Jvm.MethodName) prog_1_method_12_code (2 : Nat) (Option.some Jvm.ClassFile.FieldType.int) : Cond) ∈ lw_ok := lw_in (List.mem_append_right _ (List.mem_append_right _ (List.mem_append_left _ (List.mem_of_getElem? (i := 95) rfl)))) rfl
theorem k_336 : (Jvm.Cond.methodLink "CharacterSets" (99 : Nat) ({ cls := "CharacterSets$Ranges", name := "memberCount", desc := "()I" } : Jvm.MethodName) : Cond) ∈ lw_ok := lw_in (List.mem_append_right _ (List.mem_append_right _ (List.mem_append_left _ (List.mem_of_getElem? (i := 96) rfl)))) rfl
theorem k_337 : (Jvm.Cond.instanceMethod ({ cls := "CharacterSets$Ranges", name := "memberCount", desc := "()I" } : Jvm.MethodName) : Cond) ∈ lw_ok := lw_in (List.mem_append_right _ (List.mem_append_right _ (List.mem_append_left _ (List.mem_of_getElem? (i := 97) rfl)))) rfl
theorem k_338 : (Jvm.Cond.selects "CharacterSets$Ranges" ({ cls := "CharacterSets$Ranges", name := "memberCount", desc := "()I" } : Jvm.MethodName) ({ cls := "CharacterSets$Ranges", name := "memberCount", desc := "()I" } : Jvm.MethodName) : Cond) ∈ lw_ok := lw_in (List.mem_append_right _ (List.mem_append_right _ (List.mem_append_left _ (List.mem_of_getElem? (i := 98) rfl)))) rfl
theorem k_339 : (Jvm.Cond.code ({ cls := "CharacterSets$Ranges", name := "memberCount", desc := "()I" } : Jvm.MethodName) prog_3_method_6_code (3 : Nat) (Option.some Jvm.ClassFile.FieldType.int) : Cond) ∈ lw_ok := lw_in (List.mem_append_right _ (List.mem_append_right _ (List.mem_append_left _ (List.mem_of_getElem? (i := 99) rfl)))) rfl
theorem k_340 : (Jvm.Cond.methodLink "CharacterSetsLaw" (69 : Nat) ({ cls := "CharacterSets", name := "least", desc := "(II)I" } : Jvm.MethodName) : Cond) ∈ lw_ok := lw_in (List.mem_append_right _ (List.mem_append_right _ (List.mem_append_left _ (List.mem_of_getElem? (i := 100) rfl)))) rfl
theorem k_341 : (Jvm.Cond.instanceMethod ({ cls := "CharacterSets", name := "least", desc := "(II)I" } : Jvm.MethodName) : Cond) ∈ lw_ok := lw_in (List.mem_append_right _ (List.mem_append_right _ (List.mem_append_left _ (List.mem_of_getElem? (i := 101) rfl)))) rfl
theorem k_342 : (Jvm.Cond.selects "CharacterSets" ({ cls := "CharacterSets", name := "least", desc := "(II)I" } : Jvm.MethodName) ({ cls := "CharacterSets", name := "least", desc := "(II)I" } : Jvm.MethodName) : Cond) ∈ lw_ok := lw_in (List.mem_append_right _ (List.mem_append_right _ (List.mem_append_left _ (List.mem_of_getElem? (i := 102) rfl)))) rfl
theorem k_343 : (Jvm.Cond.code ({ cls := "CharacterSets", name := "least", desc := "(II)I" } : Jvm.MethodName) prog_1_method_13_code (3 : Nat) (Option.some Jvm.ClassFile.FieldType.int) : Cond) ∈ lw_ok := lw_in (List.mem_append_right _ (List.mem_append_right _ (List.mem_append_left _ (List.mem_of_getElem? (i := 103) rfl)))) rfl
theorem k_344 : (Jvm.Cond.methodLink "CharacterSets" (102 : Nat) ({ cls := "CharacterSets$Ranges", name := "firstFrom", desc := "(I)I" } : Jvm.MethodName) : Cond) ∈ lw_ok := lw_in (List.mem_append_right _ (List.mem_append_right _ (List.mem_append_left _ (List.mem_of_getElem? (i := 104) rfl)))) rfl
theorem k_345 : (Jvm.Cond.methodLink "CharacterSetsLaw" (73 : Nat) ({ cls := "CharacterSets", name := "bound", desc := "(IIZ)I" } : Jvm.MethodName) : Cond) ∈ lw_ok := lw_in (List.mem_append_right _ (List.mem_append_right _ (List.mem_append_left _ (List.mem_of_getElem? (i := 105) rfl)))) rfl
theorem k_346 : (Jvm.Cond.instanceMethod ({ cls := "CharacterSets", name := "bound", desc := "(IIZ)I" } : Jvm.MethodName) : Cond) ∈ lw_ok := lw_in (List.mem_append_right _ (List.mem_append_right _ (List.mem_append_left _ (List.mem_of_getElem? (i := 106) rfl)))) rfl
theorem k_347 : (Jvm.Cond.selects "CharacterSets" ({ cls := "CharacterSets", name := "bound", desc := "(IIZ)I" } : Jvm.MethodName) ({ cls := "CharacterSets", name := "bound", desc := "(IIZ)I" } : Jvm.MethodName) : Cond) ∈ lw_ok := lw_in (List.mem_append_right _ (List.mem_append_right _ (List.mem_append_left _ (List.mem_of_getElem? (i := 107) rfl)))) rfl
theorem k_348 : (Jvm.Cond.code ({ cls := "CharacterSets", name := "bound", desc := "(IIZ)I" } : Jvm.MethodName) prog_1_method_14_code (4 : Nat) (Option.some Jvm.ClassFile.FieldType.int) : Cond) ∈ lw_ok := lw_in (List.mem_append_right _ (List.mem_append_right _ (List.mem_append_left _ (List.mem_of_getElem? (i := 108) rfl)))) rfl
theorem k_349 : (Jvm.Cond.methodLink "CharacterSets" (105 : Nat) ({ cls := "CharacterSets$Ranges", name := "highOf", desc := "(I)I" } : Jvm.MethodName) : Cond) ∈ lw_ok := lw_in (List.mem_append_right _ (List.mem_append_right _ (List.mem_append_left _ (List.mem_of_getElem? (i := 109) rfl)))) rfl
theorem k_350 : (Jvm.Cond.methodLink "CharacterSets" (108 : Nat) ({ cls := "CharacterSets$Ranges", name := "lowOf", desc := "(I)I" } : Jvm.MethodName) : Cond) ∈ lw_ok := lw_in (List.mem_append_right _ (List.mem_append_right _ (List.mem_append_left _ (List.mem_of_getElem? (i := 110) rfl)))) rfl
theorem k_351 : (Jvm.Cond.methodLink "CharacterSetsLaw" (78 : Nat) ({ cls := "CharacterSets", name := "about", desc := "(II)I" } : Jvm.MethodName) : Cond) ∈ lw_ok := lw_in (List.mem_append_right _ (List.mem_append_right _ (List.mem_append_left _ (List.mem_of_getElem? (i := 111) rfl)))) rfl
theorem k_352 : (Jvm.Cond.instanceMethod ({ cls := "CharacterSets", name := "about", desc := "(II)I" } : Jvm.MethodName) : Cond) ∈ lw_ok := lw_in (List.mem_append_right _ (List.mem_append_right _ (List.mem_append_left _ (List.mem_of_getElem? (i := 112) rfl)))) rfl
theorem k_353 : (Jvm.Cond.selects "CharacterSets" ({ cls := "CharacterSets", name := "about", desc := "(II)I" } : Jvm.MethodName) ({ cls := "CharacterSets", name := "about", desc := "(II)I" } : Jvm.MethodName) : Cond) ∈ lw_ok := lw_in (List.mem_append_right _ (List.mem_append_right _ (List.mem_append_left _ (List.mem_of_getElem? (i := 113) rfl)))) rfl
theorem k_354 : (Jvm.Cond.code ({ cls := "CharacterSets", name := "about", desc := "(II)I" } : Jvm.MethodName) prog_1_method_15_code (3 : Nat) (Option.some Jvm.ClassFile.FieldType.int) : Cond) ∈ lw_ok := lw_in (List.mem_append_right _ (List.mem_append_right _ (List.mem_append_left _ (List.mem_of_getElem? (i := 114) rfl)))) rfl
theorem k_355 : (Jvm.Cond.methodLink "CharacterSets" (111 : Nat) ({ cls := "CharacterSets$Table", name := "categoryOf", desc := "(I)I" } : Jvm.MethodName) : Cond) ∈ lw_ok := lw_in (List.mem_append_right _ (List.mem_append_right _ (List.mem_append_left _ (List.mem_of_getElem? (i := 115) rfl)))) rfl
theorem k_356 : (Jvm.Cond.instanceMethod ({ cls := "CharacterSets$Table", name := "categoryOf", desc := "(I)I" } : Jvm.MethodName) : Cond) ∈ lw_ok := lw_in (List.mem_append_right _ (List.mem_append_right _ (List.mem_append_left _ (List.mem_of_getElem? (i := 116) rfl)))) rfl
theorem k_357 : (Jvm.Cond.selects "CharacterSets$Table" ({ cls := "CharacterSets$Table", name := "categoryOf", desc := "(I)I" } : Jvm.MethodName) ({ cls := "CharacterSets$Table", name := "categoryOf", desc := "(I)I" } : Jvm.MethodName) : Cond) ∈ lw_ok := lw_in (List.mem_append_right _ (List.mem_append_right _ (List.mem_append_left _ (List.mem_of_getElem? (i := 117) rfl)))) rfl
theorem k_358 : (Jvm.Cond.code ({ cls := "CharacterSets$Table", name := "categoryOf", desc := "(I)I" } : Jvm.MethodName) prog_4_method_7_code (2 : Nat) (Option.some Jvm.ClassFile.FieldType.int) : Cond) ∈ lw_ok := lw_in (List.mem_append_right _ (List.mem_append_right _ (List.mem_append_left _ (List.mem_of_getElem? (i := 118) rfl)))) rfl
theorem k_359 : (Jvm.Cond.methodLink "CharacterSets$Table" (37 : Nat) ({ cls := "CharacterSets$Table", name := "pieceOf", desc := "(I)I" } : Jvm.MethodName) : Cond) ∈ lw_ok := lw_in (List.mem_append_right _ (List.mem_append_right _ (List.mem_append_left _ (List.mem_of_getElem? (i := 119) rfl)))) rfl
theorem k_360 : (Jvm.Cond.privateMethod ({ cls := "CharacterSets$Table", name := "pieceOf", desc := "(I)I" } : Jvm.MethodName) : Cond) ∈ lw_tbl := List.mem_append_right _ (List.mem_append_right _ (List.mem_append_left _ (List.mem_of_getElem? (i := 120) rfl)))
theorem k_361 : (Jvm.Cond.instanceMethod ({ cls := "CharacterSets$Table", name := "pieceOf", desc := "(I)I" } : Jvm.MethodName) : Cond) ∈ lw_ok := lw_in (List.mem_append_right _ (List.mem_append_right _ (List.mem_append_left _ (List.mem_of_getElem? (i := 121) rfl)))) rfl
theorem k_362 : (Jvm.Cond.code ({ cls := "CharacterSets$Table", name := "pieceOf", desc := "(I)I" } : Jvm.MethodName) prog_4_method_9_code (4 : Nat) (Option.some Jvm.ClassFile.FieldType.int) : Cond) ∈ lw_ok := lw_in (List.mem_append_right _ (List.mem_append_right _ (List.mem_append_left _ (List.mem_of_getElem? (i := 122) rfl)))) rfl
theorem k_363 : (Jvm.Cond.methodLink "CharacterSets" (114 : Nat) ({ cls := "CharacterSets$Table", name := "scriptOf", desc := "(I)I" } : Jvm.MethodName) : Cond) ∈ lw_ok := lw_in (List.mem_append_right _ (List.mem_append_right _ (List.mem_append_left _ (List.mem_of_getElem? (i := 123) rfl)))) rfl
theorem k_364 : (Jvm.Cond.instanceMethod ({ cls := "CharacterSets$Table", name := "scriptOf", desc := "(I)I" } : Jvm.MethodName) : Cond) ∈ lw_ok := lw_in (List.mem_append_right _ (List.mem_append_right _ (List.mem_append_left _ (List.mem_of_getElem? (i := 124) rfl)))) rfl
theorem k_365 : (Jvm.Cond.selects "CharacterSets$Table" ({ cls := "CharacterSets$Table", name := "scriptOf", desc := "(I)I" } : Jvm.MethodName) ({ cls := "CharacterSets$Table", name := "scriptOf", desc := "(I)I" } : Jvm.MethodName) : Cond) ∈ lw_ok := lw_in (List.mem_append_right _ (List.mem_append_right _ (List.mem_append_left _ (List.mem_of_getElem? (i := 125) rfl)))) rfl
theorem k_366 : (Jvm.Cond.code ({ cls := "CharacterSets$Table", name := "scriptOf", desc := "(I)I" } : Jvm.MethodName) prog_4_method_8_code (2 : Nat) (Option.some Jvm.ClassFile.FieldType.int) : Cond) ∈ lw_ok := lw_in (List.mem_append_right _ (List.mem_append_right _ (List.mem_append_left _ (List.mem_of_getElem? (i := 126) rfl)))) rfl
theorem k_367 : (Jvm.Cond.methodLink "CharacterSets" (117 : Nat) ({ cls := "CharacterSets", name := "upperOf", desc := "(I)I" } : Jvm.MethodName) : Cond) ∈ lw_ok := lw_in (List.mem_append_right _ (List.mem_append_right _ (List.mem_append_left _ (List.mem_of_getElem? (i := 127) rfl)))) rfl
theorem k_368 : (Jvm.Cond.privateMethod ({ cls := "CharacterSets", name := "upperOf", desc := "(I)I" } : Jvm.MethodName) : Cond) ∈ lw_tbl := List.mem_append_right _ (List.mem_append_right _ (List.mem_append_left _ (List.mem_of_getElem? (i := 128) rfl)))
theorem k_369 : (Jvm.Cond.instanceMethod ({ cls := "CharacterSets", name := "upperOf", desc := "(I)I" } : Jvm.MethodName) : Cond) ∈ lw_ok := lw_in (List.mem_append_right _ (List.mem_append_right _ (List.mem_append_left _ (List.mem_of_getElem? (i := 129) rfl)))) rfl
theorem k_370 : (Jvm.Cond.code ({ cls := "CharacterSets", name := "upperOf", desc := "(I)I" } : Jvm.MethodName) prog_1_method_19_code (6 : Nat) (Option.some Jvm.ClassFile.FieldType.int) : Cond) ∈ lw_ok := lw_in (List.mem_append_right _ (List.mem_append_right _ (List.mem_append_left _ (List.mem_of_getElem? (i := 130) rfl)))) rfl
theorem k_371 : (Jvm.Cond.methodLink "CharacterSets" (120 : Nat) ({ cls := "CharacterSets", name := "lowerOf", desc := "(I)I" } : Jvm.MethodName) : Cond) ∈ lw_ok := lw_in (List.mem_append_right _ (List.mem_append_right _ (List.mem_append_left _ (List.mem_of_getElem? (i := 131) rfl)))) rfl
theorem k_372 : (Jvm.Cond.privateMethod ({ cls := "CharacterSets", name := "lowerOf", desc := "(I)I" } : Jvm.MethodName) : Cond) ∈ lw_tbl := List.mem_append_right _ (List.mem_append_right _ (List.mem_append_left _ (List.mem_of_getElem? (i := 132) rfl)))
theorem k_373 : (Jvm.Cond.instanceMethod ({ cls := "CharacterSets", name := "lowerOf", desc := "(I)I" } : Jvm.MethodName) : Cond) ∈ lw_ok := lw_in (List.mem_append_right _ (List.mem_append_right _ (List.mem_append_left _ (List.mem_of_getElem? (i := 133) rfl)))) rfl
theorem k_374 : (Jvm.Cond.code ({ cls := "CharacterSets", name := "lowerOf", desc := "(I)I" } : Jvm.MethodName) prog_1_method_20_code (5 : Nat) (Option.some Jvm.ClassFile.FieldType.int) : Cond) ∈ lw_ok := lw_in (List.mem_append_right _ (List.mem_append_right _ (List.mem_append_left _ (List.mem_of_getElem? (i := 134) rfl)))) rfl
theorem k_375 : (Jvm.Cond.methodLink "CharacterSetsLaw" (9 : Nat) ({ cls := "CharacterSetsLaw", name := "cell", desc := "([II)I" } : Jvm.MethodName) : Cond) ∈ lw_ok := lw_in (List.mem_append_right _ (List.mem_append_right _ (List.mem_append_left _ (List.mem_of_getElem? (i := 135) rfl)))) rfl
theorem k_376 : (Jvm.Cond.static ({ cls := "CharacterSetsLaw", name := "cell", desc := "([II)I" } : Jvm.MethodName) : Cond) ∈ lw_ok := lw_in (List.mem_append_right _ (List.mem_append_right _ (List.mem_append_left _ (List.mem_of_getElem? (i := 136) rfl)))) rfl
theorem k_377 : (Jvm.Cond.code ({ cls := "CharacterSetsLaw", name := "cell", desc := "([II)I" } : Jvm.MethodName) method_2_code (2 : Nat) (Option.some Jvm.ClassFile.FieldType.int) : Cond) ∈ lw_ok := lw_in (List.mem_append_right _ (List.mem_append_right _ (List.mem_append_left _ (List.mem_of_getElem? (i := 137) rfl)))) rfl
theorem k_378 : (Jvm.Cond.classLink "CharacterSetsLaw" (18 : Nat) "CharacterSetsModel" : Cond) ∈ lw_ok := lw_in (List.mem_append_right _ (List.mem_append_right _ (List.mem_append_left _ (List.mem_of_getElem? (i := 138) rfl)))) rfl
theorem k_379 : (Jvm.Cond.instantiable "CharacterSetsModel" (9 : Nat) : Cond) ∈ lw_ok := lw_in (List.mem_append_right _ (List.mem_append_right _ (List.mem_append_left _ (List.mem_of_getElem? (i := 139) rfl)))) rfl
theorem k_380 : (Jvm.Cond.methodLink "CharacterSetsLaw" (20 : Nat) ({ cls := "CharacterSetsModel", name := "<init>", desc := "(I)V" } : Jvm.MethodName) : Cond) ∈ lw_ok := lw_in (List.mem_append_right _ (List.mem_append_right _ (List.mem_append_left _ (List.mem_of_getElem? (i := 140) rfl)))) rfl
theorem k_381 : (Jvm.Cond.instanceMethod ({ cls := "CharacterSetsModel", name := "<init>", desc := "(I)V" } : Jvm.MethodName) : Cond) ∈ lw_ok := lw_in (List.mem_append_right _ (List.mem_append_right _ (List.mem_append_left _ (List.mem_of_getElem? (i := 141) rfl)))) rfl
theorem k_382 : (Jvm.Cond.code ({ cls := "CharacterSetsModel", name := "<init>", desc := "(I)V" } : Jvm.MethodName) prog_6_method_1_code (3 : Nat) (Option.none : Option Jvm.ClassFile.FieldType) : Cond) ∈ lw_ok := lw_in (List.mem_append_right _ (List.mem_append_right _ (List.mem_append_left _ (List.mem_of_getElem? (i := 142) rfl)))) rfl
theorem k_383 : (Jvm.Cond.methodLink "CharacterSetsModel" (1 : Nat) ({ cls := "java/lang/Object", name := "<init>", desc := "()V" } : Jvm.MethodName) : Cond) ∈ lw_ok := lw_in (List.mem_append_right _ (List.mem_append_right _ (List.mem_append_left _ (List.mem_of_getElem? (i := 143) rfl)))) rfl
theorem k_384 : (Jvm.Cond.constant "CharacterSetsModel" (7 : Nat) (139264 : Int32) : Cond) ∈ lw_ok := lw_in (List.mem_append_right _ (List.mem_append_right _ (List.mem_append_left _ (List.mem_of_getElem? (i := 144) rfl)))) rfl
theorem k_385 : (Jvm.Cond.constant "CharacterSetsModel" (26 : Nat) (40960 : Int32) : Cond) ∈ lw_ok := lw_in (List.mem_append_right _ (List.mem_append_right _ (List.mem_append_left _ (List.mem_of_getElem? (i := 145) rfl)))) rfl
theorem k_386 : (Jvm.Cond.constant "CharacterSetsModel" (27 : Nat) (44032 : Int32) : Cond) ∈ lw_ok := lw_in (List.mem_append_right _ (List.mem_append_right _ (List.mem_append_left _ (List.mem_of_getElem? (i := 146) rfl)))) rfl
theorem k_387 : (Jvm.Cond.constant "CharacterSetsModel" (28 : Nat) (55204 : Int32) : Cond) ∈ lw_ok := lw_in (List.mem_append_right _ (List.mem_append_right _ (List.mem_append_left _ (List.mem_of_getElem? (i := 147) rfl)))) rfl
theorem k_388 : (Jvm.Cond.constant "CharacterSetsModel" (29 : Nat) (57344 : Int32) : Cond) ∈ lw_ok := lw_in (List.mem_append_right _ (List.mem_append_right _ (List.mem_append_left _ (List.mem_of_getElem? (i := 148) rfl)))) rfl
theorem k_389 : (Jvm.Cond.constant "CharacterSetsModel" (30 : Nat) (63744 : Int32) : Cond) ∈ lw_ok := lw_in (List.mem_append_right _ (List.mem_append_right _ (List.mem_append_left _ (List.mem_of_getElem? (i := 149) rfl)))) rfl
theorem k_390 : (Jvm.Cond.constant "CharacterSetsModel" (31 : Nat) (65039 : Int32) : Cond) ∈ lw_ok := lw_in (List.mem_append_right _ (List.mem_append_right _ (List.mem_append_left _ (List.mem_of_getElem? (i := 150) rfl)))) rfl
theorem k_391 : (Jvm.Cond.constant "CharacterSetsModel" (32 : Nat) (65040 : Int32) : Cond) ∈ lw_ok := lw_in (List.mem_append_right _ (List.mem_append_right _ (List.mem_append_left _ (List.mem_of_getElem? (i := 151) rfl)))) rfl
theorem k_392 : (Jvm.Cond.constant "CharacterSetsModel" (33 : Nat) (65279 : Int32) : Cond) ∈ lw_ok := lw_in (List.mem_append_right _ (List.mem_append_right _ (List.mem_append_left _ (List.mem_of_getElem? (i := 152) rfl)))) rfl
theorem k_393 : (Jvm.Cond.constant "CharacterSetsModel" (34 : Nat) (65280 : Int32) : Cond) ∈ lw_ok := lw_in (List.mem_append_right _ (List.mem_append_right _ (List.mem_append_left _ (List.mem_of_getElem? (i := 153) rfl)))) rfl
theorem k_394 : (Jvm.Cond.constant "CharacterSetsModel" (35 : Nat) (127744 : Int32) : Cond) ∈ lw_ok := lw_in (List.mem_append_right _ (List.mem_append_right _ (List.mem_append_left _ (List.mem_of_getElem? (i := 154) rfl)))) rfl
theorem k_395 : (Jvm.Cond.constant "CharacterSetsModel" (36 : Nat) (128592 : Int32) : Cond) ∈ lw_ok := lw_in (List.mem_append_right _ (List.mem_append_right _ (List.mem_append_left _ (List.mem_of_getElem? (i := 155) rfl)))) rfl
theorem k_396 : (Jvm.Cond.constant "CharacterSetsModel" (37 : Nat) (1114112 : Int32) : Cond) ∈ lw_ok := lw_in (List.mem_append_right _ (List.mem_append_right _ (List.mem_append_left _ (List.mem_of_getElem? (i := 156) rfl)))) rfl
theorem k_397 : (Jvm.Cond.constant "CharacterSetsModel" (48 : Nat) (1114111 : Int32) : Cond) ∈ lw_ok := lw_in (List.mem_append_right _ (List.mem_append_right _ (List.mem_append_left _ (List.mem_of_getElem? (i := 157) rfl)))) rfl
theorem k_398 : (Jvm.Cond.methodLink "CharacterSetsModel" (55 : Nat) ({ cls := "CharacterSetsModel", name := "table0", desc := "()V" } : Jvm.MethodName) : Cond) ∈ lw_ok := lw_in (List.mem_append_right _ (List.mem_append_right _ (List.mem_append_left _ (List.mem_of_getElem? (i := 158) rfl)))) rfl
theorem k_399 : (Jvm.Cond.privateMethod ({ cls := "CharacterSetsModel", name := "table0", desc := "()V" } : Jvm.MethodName) : Cond) ∈ lw_tbl := List.mem_append_right _ (List.mem_append_right _ (List.mem_append_left _ (List.mem_of_getElem? (i := 159) rfl)))
theorem k_400 : (Jvm.Cond.instanceMethod ({ cls := "CharacterSetsModel", name := "table0", desc := "()V" } : Jvm.MethodName) : Cond) ∈ lw_ok := lw_in (List.mem_append_right _ (List.mem_append_right _ (List.mem_append_left _ (List.mem_of_getElem? (i := 160) rfl)))) rfl
theorem k_401 : (Jvm.Cond.code ({ cls := "CharacterSetsModel", name := "table0", desc := "()V" } : Jvm.MethodName) prog_6_method_3_code (1 : Nat) (Option.none : Option Jvm.ClassFile.FieldType) : Cond) ∈ lw_ok := lw_in (List.mem_append_right _ (List.mem_append_right _ (List.mem_append_left _ (List.mem_of_getElem? (i := 161) rfl)))) rfl
theorem k_402 : (Jvm.Cond.methodLink "CharacterSetsModel" (67 : Nat) ({ cls := "CharacterSetsModel", name := "kinds", desc := "(III)V" } : Jvm.MethodName) : Cond) ∈ lw_ok := lw_in (List.mem_append_right _ (List.mem_append_right _ (List.mem_append_left _ (List.mem_of_getElem? (i := 162) rfl)))) rfl
theorem k_403 : (Jvm.Cond.privateMethod ({ cls := "CharacterSetsModel", name := "kinds", desc := "(III)V" } : Jvm.MethodName) : Cond) ∈ lw_tbl := List.mem_append_right _ (List.mem_append_right _ (List.mem_append_left _ (List.mem_of_getElem? (i := 163) rfl)))
theorem k_404 : (Jvm.Cond.instanceMethod ({ cls := "CharacterSetsModel", name := "kinds", desc := "(III)V" } : Jvm.MethodName) : Cond) ∈ lw_ok := lw_in (List.mem_append_right _ (List.mem_append_right _ (List.mem_append_left _ (List.mem_of_getElem? (i := 164) rfl)))) rfl
theorem k_405 : (Jvm.Cond.code ({ cls := "CharacterSetsModel", name := "kinds", desc := "(III)V" } : Jvm.MethodName) prog_6_method_2_code (5 : Nat) (Option.none : Option Jvm.ClassFile.FieldType) : Cond) ∈ lw_ok := lw_in (List.mem_append_right _ (List.mem_append_right _ (List.mem_append_left _ (List.mem_of_getElem? (i := 165) rfl)))) rfl
theorem k_406 : (Jvm.Cond.methodLink "CharacterSetsModel" (58 : Nat) ({ cls := "CharacterSetsModel", name := "table1", desc := "()V" } : Jvm.MethodName) : Cond) ∈ lw_ok := lw_in (List.mem_append_right _ (List.mem_append_right _ (List.mem_append_left _ (List.mem_of_getElem? (i := 166) rfl)))) rfl
theorem k_407 : (Jvm.Cond.privateMethod ({ cls := "CharacterSetsModel", name := "table1", desc := "()V" } : Jvm.MethodName) : Cond) ∈ lw_tbl := List.mem_append_right _ (List.mem_append_right _ (List.mem_append_left _ (List.mem_of_getElem? (i := 167) rfl)))
theorem k_408 : (Jvm.Cond.instanceMethod ({ cls := "CharacterSetsModel", name := "table1", desc := "()V" } : Jvm.MethodName) : Cond) ∈ lw_ok := lw_in (List.mem_append_right _ (List.mem_append_right _ (List.mem_append_left _ (List.mem_of_getElem? (i := 168) rfl)))) rfl
theorem k_409 : (Jvm.Cond.code ({ cls := "CharacterSetsModel", name := "table1", desc := "()V" } : Jvm.MethodName) prog_6_method_4_code (1 : Nat) (Option.none : Option Jvm.ClassFile.FieldType) : Cond) ∈ lw_ok := lw_in (List.mem_append_right _ (List.mem_append_right _ (List.mem_append_left _ (List.mem_of_getElem? (i := 169) rfl)))) rfl
theorem k_410 : (Jvm.Cond.methodLink "CharacterSetsModel" (61 : Nat) ({ cls := "CharacterSetsModel", name := "table2", desc := "()V" } : Jvm.MethodName) : Cond) ∈ lw_ok := lw_in (List.mem_append_right _ (List.mem_append_right _ (List.mem_append_left _ (List.mem_of_getElem? (i := 170) rfl)))) rfl
theorem k_411 : (Jvm.Cond.privateMethod ({ cls := "CharacterSetsModel", name := "table2", desc := "()V" } : Jvm.MethodName) : Cond) ∈ lw_tbl := List.mem_append_right _ (List.mem_append_right _ (List.mem_append_left _ (List.mem_of_getElem? (i := 171) rfl)))
theorem k_412 : (Jvm.Cond.instanceMethod ({ cls := "CharacterSetsModel", name := "table2", desc := "()V" } : Jvm.MethodName) : Cond) ∈ lw_ok := lw_in (List.mem_append_right _ (List.mem_append_right _ (List.mem_append_left _ (List.mem_of_getElem? (i := 172) rfl)))) rfl
theorem k_413 : (Jvm.Cond.code ({ cls := "CharacterSetsModel", name := "table2", desc := "()V" } : Jvm.MethodName) prog_6_method_5_code (1 : Nat) (Option.none : Option Jvm.ClassFile.FieldType) : Cond) ∈ lw_ok := lw_in (List.mem_append_right _ (List.mem_append_right _ (List.mem_append_left _ (List.mem_of_getElem? (i := 173) rfl)))) rfl
theorem k_414 : (Jvm.Cond.methodLink "CharacterSetsModel" (64 : Nat) ({ cls := "CharacterSetsModel", name := "table3", desc := "()V" } : Jvm.MethodName) : Cond) ∈ lw_ok := lw_in (List.mem_append_right _ (List.mem_append_right _ (List.mem_append_left _ (List.mem_of_getElem? (i := 174) rfl)))) rfl
theorem k_415 : (Jvm.Cond.privateMethod ({ cls := "CharacterSetsModel", name := "table3", desc := "()V" } : Jvm.MethodName) : Cond) ∈ lw_tbl := List.mem_append_right _ (List.mem_append_right _ (List.mem_append_left _ (List.mem_of_getElem? (i := 175) rfl)))
theorem k_416 : (Jvm.Cond.instanceMethod ({ cls := "CharacterSetsModel", name := "table3", desc := "()V" } : Jvm.MethodName) : Cond) ∈ lw_ok := lw_in (List.mem_append_right _ (List.mem_append_right _ (List.mem_append_left _ (List.mem_of_getElem? (i := 176) rfl)))) rfl
theorem k_417 : (Jvm.Cond.code ({ cls := "CharacterSetsModel", name := "table3", desc := "()V" } : Jvm.MethodName) prog_6_method_6_code (1 : Nat) (Option.none : Option Jvm.ClassFile.FieldType) : Cond) ∈ lw_ok := lw_in (List.mem_append_right _ (List.mem_append_right _ (List.mem_append_left _ (List.mem_of_getElem? (i := 177) rfl)))) rfl
theorem k_418 : (Jvm.Cond.fieldLink "CharacterSetsModel" (41 : Nat) "CharacterSetsModel" "utf" "Z" : Cond) ∈ lw_ok := lw_in (List.mem_append_right _ (List.mem_append_right _ (List.mem_append_left _ (List.mem_of_getElem? (i := 178) rfl)))) rfl
theorem k_419 : (Jvm.Cond.fieldLink "CharacterSetsModel" (45 : Nat) "CharacterSetsModel" "ucp" "Z" : Cond) ∈ lw_ok := lw_in (List.mem_append_right _ (List.mem_append_right _ (List.mem_append_left _ (List.mem_of_getElem? (i := 179) rfl)))) rfl
theorem k_420 : (Jvm.Cond.fieldLink "CharacterSetsModel" (49 : Nat) "CharacterSetsModel" "last" "I" : Cond) ∈ lw_ok := lw_in (List.mem_append_right _ (List.mem_append_right _ (List.mem_append_left _ (List.mem_of_getElem? (i := 180) rfl)))) rfl
theorem k_421 : (Jvm.Cond.fieldLink "CharacterSetsModel" (52 : Nat) "CharacterSetsModel" "words" "I" : Cond) ∈ lw_ok := lw_in (List.mem_append_right _ (List.mem_append_right _ (List.mem_append_left _ (List.mem_of_getElem? (i := 181) rfl)))) rfl
theorem k_422 : (Jvm.Cond.fieldLink "CharacterSetsModel" (8 : Nat) "CharacterSetsModel" "bits" "[J" : Cond) ∈ lw_ok := lw_in (List.mem_append_right _ (List.mem_append_right _ (List.mem_append_left _ (List.mem_of_getElem? (i := 182) rfl)))) rfl
theorem k_423 : (Jvm.Cond.fieldLink "CharacterSetsModel" (14 : Nat) "CharacterSetsModel" "kind" "[B" : Cond) ∈ lw_ok := lw_in (List.mem_append_right _ (List.mem_append_right _ (List.mem_append_left _ (List.mem_of_getElem? (i := 183) rfl)))) rfl
theorem k_424 : (Jvm.Cond.fieldLink "CharacterSetsModel" (18 : Nat) "CharacterSetsModel" "mate" "[I" : Cond) ∈ lw_ok := lw_in (List.mem_append_right _ (List.mem_append_right _ (List.mem_append_left _ (List.mem_of_getElem? (i := 184) rfl)))) rfl
theorem k_425 : (Jvm.Cond.fieldLink "CharacterSetsModel" (22 : Nat) "CharacterSetsModel" "mates" "I" : Cond) ∈ lw_ok := lw_in (List.mem_append_right _ (List.mem_append_right _ (List.mem_append_left _ (List.mem_of_getElem? (i := 185) rfl)))) rfl
theorem k_426 : (Jvm.Cond.fieldLink "CharacterSetsModel" (38 : Nat) "CharacterSetsModel" "parts" "[I" : Cond) ∈ lw_ok := lw_in (List.mem_append_right _ (List.mem_append_right _ (List.mem_append_left _ (List.mem_of_getElem? (i := 186) rfl)))) rfl
theorem k_427 : (Jvm.Cond.laysFinal "CharacterSetsModel" "CharacterSetsModel" "utf" "Z" : Cond) ∈ lw_ok := lw_in (List.mem_append_right _ (List.mem_append_right _ (List.mem_append_left _ (List.mem_of_getElem? (i := 187) rfl)))) rfl
theorem k_428 : (Jvm.Cond.soleField "CharacterSetsModel" "utf" : Cond) ∈ lw_ok := lw_in (List.mem_append_right _ (List.mem_append_right _ (List.mem_append_left _ (List.mem_of_getElem? (i := 188) rfl)))) rfl
theorem k_429 : (Jvm.Cond.laysFinal "CharacterSetsModel" "CharacterSetsModel" "ucp" "Z" : Cond) ∈ lw_ok := lw_in (List.mem_append_right _ (List.mem_append_right _ (List.mem_append_left _ (List.mem_of_getElem? (i := 189) rfl)))) rfl
theorem k_430 : (Jvm.Cond.soleField "CharacterSetsModel" "ucp" : Cond) ∈ lw_ok := lw_in (List.mem_append_right _ (List.mem_append_right _ (List.mem_append_left _ (List.mem_of_getElem? (i := 190) rfl)))) rfl
theorem k_431 : (Jvm.Cond.laysFinal "CharacterSetsModel" "CharacterSetsModel" "last" "I" : Cond) ∈ lw_ok := lw_in (List.mem_append_right _ (List.mem_append_right _ (List.mem_append_left _ (List.mem_of_getElem? (i := 191) rfl)))) rfl
theorem k_432 : (Jvm.Cond.soleField "CharacterSetsModel" "last" : Cond) ∈ lw_ok := lw_in (List.mem_append_right _ (List.mem_append_right _ (List.mem_append_left _ (List.mem_of_getElem? (i := 192) rfl)))) rfl
theorem k_433 : (Jvm.Cond.laysFinal "CharacterSetsModel" "CharacterSetsModel" "words" "I" : Cond) ∈ lw_ok := lw_in (List.mem_append_right _ (List.mem_append_right _ (List.mem_append_left _ (List.mem_of_getElem? (i := 193) rfl)))) rfl
theorem k_434 : (Jvm.Cond.soleField "CharacterSetsModel" "words" : Cond) ∈ lw_ok := lw_in (List.mem_append_right _ (List.mem_append_right _ (List.mem_append_left _ (List.mem_of_getElem? (i := 194) rfl)))) rfl
theorem k_435 : (Jvm.Cond.laysFinal "CharacterSetsModel" "CharacterSetsModel" "bits" "[J" : Cond) ∈ lw_ok := lw_in (List.mem_append_right _ (List.mem_append_right _ (List.mem_append_left _ (List.mem_of_getElem? (i := 195) rfl)))) rfl
theorem k_436 : (Jvm.Cond.soleField "CharacterSetsModel" "bits" : Cond) ∈ lw_ok := lw_in (List.mem_append_right _ (List.mem_append_right _ (List.mem_append_left _ (List.mem_of_getElem? (i := 196) rfl)))) rfl
theorem k_437 : (Jvm.Cond.laysFinal "CharacterSetsModel" "CharacterSetsModel" "kind" "[B" : Cond) ∈ lw_ok := lw_in (List.mem_append_right _ (List.mem_append_right _ (List.mem_append_left _ (List.mem_of_getElem? (i := 197) rfl)))) rfl
theorem k_438 : (Jvm.Cond.soleField "CharacterSetsModel" "kind" : Cond) ∈ lw_ok := lw_in (List.mem_append_right _ (List.mem_append_right _ (List.mem_append_left _ (List.mem_of_getElem? (i := 198) rfl)))) rfl
theorem k_439 : (Jvm.Cond.laysFinal "CharacterSetsModel" "CharacterSetsModel" "mate" "[I" : Cond) ∈ lw_ok := lw_in (List.mem_append_right _ (List.mem_append_right _ (List.mem_append_left _ (List.mem_of_getElem? (i := 199) rfl)))) rfl
theorem k_440 : (Jvm.Cond.soleField "CharacterSetsModel" "mate" : Cond) ∈ lw_ok := lw_in (List.mem_append_right _ (List.mem_append_right _ (List.mem_append_left _ (List.mem_of_getElem? (i := 200) rfl)))) rfl
theorem k_441 : (Jvm.Cond.lays "CharacterSetsModel" "CharacterSetsModel" "mates" "I" : Cond) ∈ lw_ok := lw_in (List.mem_append_right _ (List.mem_append_right _ (List.mem_append_left _ (List.mem_of_getElem? (i := 201) rfl)))) rfl
theorem k_442 : (Jvm.Cond.soleField "CharacterSetsModel" "mates" : Cond) ∈ lw_ok := lw_in (List.mem_append_right _ (List.mem_append_right _ (List.mem_append_left _ (List.mem_of_getElem? (i := 202) rfl)))) rfl
theorem k_443 : (Jvm.Cond.laysFinal "CharacterSetsModel" "CharacterSetsModel" "parts" "[I" : Cond) ∈ lw_ok := lw_in (List.mem_append_right _ (List.mem_append_right _ (List.mem_append_left _ (List.mem_of_getElem? (i := 203) rfl)))) rfl
theorem k_444 : (Jvm.Cond.soleField "CharacterSetsModel" "parts" : Cond) ∈ lw_ok := lw_in (List.mem_append_right _ (List.mem_append_right _ (List.mem_append_left _ (List.mem_of_getElem? (i := 204) rfl)))) rfl
theorem k_445 : (Jvm.Cond.superclass "CharacterSetsModel" "java/lang/Object" : Cond) ∈ lw_ok := lw_in (List.mem_append_right _ (List.mem_append_right _ (List.mem_append_left _ (List.mem_of_getElem? (i := 205) rfl)))) rfl
theorem k_446 : (Jvm.Cond.arrayClass Jvm.ClassFile.FieldType.long : Cond) ∈ lw_ok := lw_in (List.mem_append_right _ (List.mem_append_right _ (List.mem_append_left _ (List.mem_of_getElem? (i := 206) rfl)))) rfl
theorem k_447 : (Jvm.Cond.arrayClass Jvm.ClassFile.FieldType.byte : Cond) ∈ lw_ok := lw_in (List.mem_append_right _ (List.mem_append_right _ (List.mem_append_left _ (List.mem_of_getElem? (i := 207) rfl)))) rfl
theorem k_448 : (Jvm.Cond.methodLink "CharacterSetsLaw" (25 : Nat) ({ cls := "CharacterSetsModel", name := "clear", desc := "(I)I" } : Jvm.MethodName) : Cond) ∈ lw_ok := lw_in (List.mem_append_right _ (List.mem_append_right _ (List.mem_append_left _ (List.mem_of_getElem? (i := 208) rfl)))) rfl
theorem k_449 : (Jvm.Cond.instanceMethod ({ cls := "CharacterSetsModel", name := "clear", desc := "(I)I" } : Jvm.MethodName) : Cond) ∈ lw_ok := lw_in (List.mem_append_right _ (List.mem_append_right _ (List.mem_append_left _ (List.mem_of_getElem? (i := 209) rfl)))) rfl
theorem k_450 : (Jvm.Cond.selects "CharacterSetsModel" ({ cls := "CharacterSetsModel", name := "clear", desc := "(I)I" } : Jvm.MethodName) ({ cls := "CharacterSetsModel", name := "clear", desc := "(I)I" } : Jvm.MethodName) : Cond) ∈ lw_ok := lw_in (List.mem_append_right _ (List.mem_append_right _ (List.mem_append_left _ (List.mem_of_getElem? (i := 210) rfl)))) rfl
theorem k_451 : (Jvm.Cond.code ({ cls := "CharacterSetsModel", name := "clear", desc := "(I)I" } : Jvm.MethodName) prog_6_method_24_code (3 : Nat) (Option.some Jvm.ClassFile.FieldType.int) : Cond) ∈ lw_ok := lw_in (List.mem_append_right _ (List.mem_append_right _ (List.mem_append_left _ (List.mem_of_getElem? (i := 211) rfl)))) rfl
theorem k_452 : (Jvm.Cond.methodLink "CharacterSetsModel" (117 : Nat) ({ cls := "CharacterSetsModel", name := "none", desc := "(I)Z" } : Jvm.MethodName) : Cond) ∈ lw_ok := lw_in (List.mem_append_right _ (List.mem_append_right _ (List.mem_append_left _ (List.mem_of_getElem? (i := 212) rfl)))) rfl
theorem k_453 : (Jvm.Cond.privateMethod ({ cls := "CharacterSetsModel", name := "none", desc := "(I)Z" } : Jvm.MethodName) : Cond) ∈ lw_tbl := List.mem_append_right _ (List.mem_append_right _ (List.mem_append_left _ (List.mem_of_getElem? (i := 213) rfl)))
theorem k_454 : (Jvm.Cond.instanceMethod ({ cls := "CharacterSetsModel", name := "none", desc := "(I)Z" } : Jvm.MethodName) : Cond) ∈ lw_ok := lw_in (List.mem_append_right _ (List.mem_append_right _ (List.mem_append_left _ (List.mem_of_getElem? (i := 214) rfl)))) rfl
theorem k_455 : (Jvm.Cond.code ({ cls := "CharacterSetsModel", name := "none", desc := "(I)Z" } : Jvm.MethodName) prog_6_method_18_code (2 : Nat) (Option.some Jvm.ClassFile.FieldType.boolean) : Cond) ∈ lw_ok := lw_in (List.mem_append_right _ (List.mem_append_right _ (List.mem_append_left _ (List.mem_of_getElem? (i := 215) rfl)))) rfl
theorem k_456 : (Jvm.Cond.methodLink "CharacterSetsLaw" (30 : Nat) ({ cls := "CharacterSetsModel", name := "range", desc := "(III)I" } : Jvm.MethodName) : Cond) ∈ lw_ok := lw_in (List.mem_append_right _ (List.mem_append_right _ (List.mem_append_left _ (List.mem_of_getElem? (i := 216) rfl)))) rfl
theorem k_457 : (Jvm.Cond.instanceMethod ({ cls := "CharacterSetsModel", name := "range", desc := "(III)I" } : Jvm.MethodName) : Cond) ∈ lw_ok := lw_in (List.mem_append_right _ (List.mem_append_right _ (List.mem_append_left _ (List.mem_of_getElem? (i := 217) rfl)))) rfl
theorem k_458 : (Jvm.Cond.selects "CharacterSetsModel" ({ cls := "CharacterSetsModel", name := "range", desc := "(III)I" } : Jvm.MethodName) ({ cls := "CharacterSetsModel", name := "range", desc := "(III)I" } : Jvm.MethodName) : Cond) ∈ lw_ok := lw_in (List.mem_append_right _ (List.mem_append_right _ (List.mem_append_left _ (List.mem_of_getElem? (i := 218) rfl)))) rfl
theorem k_459 : (Jvm.Cond.code ({ cls := "CharacterSetsModel", name := "range", desc := "(III)I" } : Jvm.MethodName) prog_6_method_25_code (4 : Nat) (Option.some Jvm.ClassFile.FieldType.int) : Cond) ∈ lw_ok := lw_in (List.mem_append_right _ (List.mem_append_right _ (List.mem_append_left _ (List.mem_of_getElem? (i := 219) rfl)))) rfl
theorem k_460 : (Jvm.Cond.methodLink "CharacterSetsModel" (121 : Nat) ({ cls := "CharacterSetsModel", name := "fill", desc := "(III)V" } : Jvm.MethodName) : Cond) ∈ lw_ok := lw_in (List.mem_append_right _ (List.mem_append_right _ (List.mem_append_left _ (List.mem_of_getElem? (i := 220) rfl)))) rfl
theorem k_461 : (Jvm.Cond.privateMethod ({ cls := "CharacterSetsModel", name := "fill", desc := "(III)V" } : Jvm.MethodName) : Cond) ∈ lw_tbl := List.mem_append_right _ (List.mem_append_right _ (List.mem_append_left _ (List.mem_of_getElem? (i := 221) rfl)))
theorem k_462 : (Jvm.Cond.instanceMethod ({ cls := "CharacterSetsModel", name := "fill", desc := "(III)V" } : Jvm.MethodName) : Cond) ∈ lw_ok := lw_in (List.mem_append_right _ (List.mem_append_right _ (List.mem_append_left _ (List.mem_of_getElem? (i := 222) rfl)))) rfl
theorem k_463 : (Jvm.Cond.code ({ cls := "CharacterSetsModel", name := "fill", desc := "(III)V" } : Jvm.MethodName) prog_6_method_21_code (5 : Nat) (Option.none : Option Jvm.ClassFile.FieldType) : Cond) ∈ lw_ok := lw_in (List.mem_append_right _ (List.mem_append_right _ (List.mem_append_left _ (List.mem_of_getElem? (i := 223) rfl)))) rfl
theorem k_464 : (Jvm.Cond.constantLong "CharacterSetsModel" (99 : Nat) (-1 : Int64) : Cond) ∈ lw_ok := lw_in (List.mem_append_right _ (List.mem_append_right _ (List.mem_append_left _ (List.mem_of_getElem? (i := 224) rfl)))) rfl
theorem k_465 : (Jvm.Cond.methodLink "CharacterSetsModel" (101 : Nat) ({ cls := "CharacterSetsModel", name := "put", desc := "(II)V" } : Jvm.MethodName) : Cond) ∈ lw_ok := lw_in (List.mem_append_right _ (List.mem_append_right _ (List.mem_append_left _ (List.mem_of_getElem? (i := 225) rfl)))) rfl
theorem k_466 : (Jvm.Cond.privateMethod ({ cls := "CharacterSetsModel", name := "put", desc := "(II)V" } : Jvm.MethodName) : Cond) ∈ lw_tbl := List.mem_append_right _ (List.mem_append_right _ (List.mem_append_left _ (List.mem_of_getElem? (i := 226) rfl)))
theorem k_467 : (Jvm.Cond.instanceMethod ({ cls := "CharacterSetsModel", name := "put", desc := "(II)V" } : Jvm.MethodName) : Cond) ∈ lw_ok := lw_in (List.mem_append_right _ (List.mem_append_right _ (List.mem_append_left _ (List.mem_of_getElem? (i := 227) rfl)))) rfl
theorem k_468 : (Jvm.Cond.code ({ cls := "CharacterSetsModel", name := "put", desc := "(II)V" } : Jvm.MethodName) prog_6_method_20_code (3 : Nat) (Option.none : Option Jvm.ClassFile.FieldType) : Cond) ∈ lw_ok := lw_in (List.mem_append_right _ (List.mem_append_right _ (List.mem_append_left _ (List.mem_of_getElem? (i := 228) rfl)))) rfl
theorem k_469 : (Jvm.Cond.methodLink "CharacterSetsModel" (124 : Nat) ({ cls := "CharacterSetsModel", name := "ranges", desc := "(I)I" } : Jvm.MethodName) : Cond) ∈ lw_ok := lw_in (List.mem_append_right _ (List.mem_append_right _ (List.mem_append_left _ (List.mem_of_getElem? (i := 229) rfl)))) rfl
theorem k_470 : (Jvm.Cond.privateMethod ({ cls := "CharacterSetsModel", name := "ranges", desc := "(I)I" } : Jvm.MethodName) : Cond) ∈ lw_tbl := List.mem_append_right _ (List.mem_append_right _ (List.mem_append_left _ (List.mem_of_getElem? (i := 230) rfl)))
theorem k_471 : (Jvm.Cond.instanceMethod ({ cls := "CharacterSetsModel", name := "ranges", desc := "(I)I" } : Jvm.MethodName) : Cond) ∈ lw_ok := lw_in (List.mem_append_right _ (List.mem_append_right _ (List.mem_append_left _ (List.mem_of_getElem? (i := 231) rfl)))) rfl
theorem k_472 : (Jvm.Cond.code ({ cls := "CharacterSetsModel", name := "ranges", desc := "(I)I" } : Jvm.MethodName) prog_6_method_23_code (8 : Nat) (Option.some Jvm.ClassFile.FieldType.int) : Cond) ∈ lw_ok := lw_in (List.mem_append_right _ (List.mem_append_right _ (List.mem_append_left _ (List.mem_of_getElem? (i := 232) rfl)))) rfl
theorem k_473 : (Jvm.Cond.methodLink "CharacterSetsModel" (113 : Nat) ({ cls := "CharacterSetsModel", name := "ones", desc := "(J)I" } : Jvm.MethodName) : Cond) ∈ lw_ok := lw_in (List.mem_append_right _ (List.mem_append_right _ (List.mem_append_left _ (List.mem_of_getElem? (i := 233) rfl)))) rfl
theorem k_474 : (Jvm.Cond.privateMethod ({ cls := "CharacterSetsModel", name := "ones", desc := "(J)I" } : Jvm.MethodName) : Cond) ∈ lw_tbl := List.mem_append_right _ (List.mem_append_right _ (List.mem_append_left _ (List.mem_of_getElem? (i := 234) rfl)))
theorem k_475 : (Jvm.Cond.instanceMethod ({ cls := "CharacterSetsModel", name := "ones", desc := "(J)I" } : Jvm.MethodName) : Cond) ∈ lw_ok := lw_in (List.mem_append_right _ (List.mem_append_right _ (List.mem_append_left _ (List.mem_of_getElem? (i := 235) rfl)))) rfl
theorem k_476 : (Jvm.Cond.code ({ cls := "CharacterSetsModel", name := "ones", desc := "(J)I" } : Jvm.MethodName) prog_6_method_22_code (5 : Nat) (Option.some Jvm.ClassFile.FieldType.int) : Cond) ∈ lw_ok := lw_in (List.mem_append_right _ (List.mem_append_right _ (List.mem_append_left _ (List.mem_of_getElem? (i := 236) rfl)))) rfl
theorem k_477 : (Jvm.Cond.constantLong "CharacterSetsModel" (105 : Nat) (6148914691236517205 : Int64) : Cond) ∈ lw_ok := lw_in (List.mem_append_right _ (List.mem_append_right _ (List.mem_append_left _ (List.mem_of_getElem? (i := 237) rfl)))) rfl
theorem k_478 : (Jvm.Cond.constantLong "CharacterSetsModel" (107 : Nat) (3689348814741910323 : Int64) : Cond) ∈ lw_ok := lw_in (List.mem_append_right _ (List.mem_append_right _ (List.mem_append_left _ (List.mem_of_getElem? (i := 238) rfl)))) rfl
theorem k_479 : (Jvm.Cond.constantLong "CharacterSetsModel" (109 : Nat) (1085102592571150095 : Int64) : Cond) ∈ lw_ok := lw_in (List.mem_append_right _ (List.mem_append_right _ (List.mem_append_left _ (List.mem_of_getElem? (i := 239) rfl)))) rfl
theorem k_480 : (Jvm.Cond.constantLong "CharacterSetsModel" (111 : Nat) (72340172838076673 : Int64) : Cond) ∈ lw_ok := lw_in (List.mem_append_right _ (List.mem_append_right _ (List.mem_append_right _ (List.mem_of_getElem? (i := 0) rfl)))) rfl
theorem k_481 : (Jvm.Cond.methodLink "CharacterSetsLaw" (35 : Nat) ({ cls := "CharacterSetsModel", name := "property", desc := "(IIZZ)I" } : Jvm.MethodName) : Cond) ∈ lw_ok := lw_in (List.mem_append_right _ (List.mem_append_right _ (List.mem_append_right _ (List.mem_of_getElem? (i := 1) rfl)))) rfl
theorem k_482 : (Jvm.Cond.instanceMethod ({ cls := "CharacterSetsModel", name := "property", desc := "(IIZZ)I" } : Jvm.MethodName) : Cond) ∈ lw_ok := lw_in (List.mem_append_right _ (List.mem_append_right _ (List.mem_append_right _ (List.mem_of_getElem? (i := 2) rfl)))) rfl
theorem k_483 : (Jvm.Cond.selects "CharacterSetsModel" ({ cls := "CharacterSetsModel", name := "property", desc := "(IIZZ)I" } : Jvm.MethodName) ({ cls := "CharacterSetsModel", name := "property", desc := "(IIZZ)I" } : Jvm.MethodName) : Cond) ∈ lw_ok := lw_in (List.mem_append_right _ (List.mem_append_right _ (List.mem_append_right _ (List.mem_of_getElem? (i := 3) rfl)))) rfl
theorem k_484 : (Jvm.Cond.code ({ cls := "CharacterSetsModel", name := "property", desc := "(IIZZ)I" } : Jvm.MethodName) prog_6_method_28_code (8 : Nat) (Option.some Jvm.ClassFile.FieldType.int) : Cond) ∈ lw_ok := lw_in (List.mem_append_right _ (List.mem_append_right _ (List.mem_append_right _ (List.mem_of_getElem? (i := 4) rfl)))) rfl
theorem k_485 : (Jvm.Cond.methodLink "CharacterSetsModel" (134 : Nat) ({ cls := "CharacterSetsModel", name := "holds", desc := "(II)Z" } : Jvm.MethodName) : Cond) ∈ lw_ok := lw_in (List.mem_append_right _ (List.mem_append_right _ (List.mem_append_right _ (List.mem_of_getElem? (i := 5) rfl)))) rfl
theorem k_486 : (Jvm.Cond.privateMethod ({ cls := "CharacterSetsModel", name := "holds", desc := "(II)Z" } : Jvm.MethodName) : Cond) ∈ lw_tbl := List.mem_append_right _ (List.mem_append_right _ (List.mem_append_right _ (List.mem_of_getElem? (i := 6) rfl)))
theorem k_487 : (Jvm.Cond.instanceMethod ({ cls := "CharacterSetsModel", name := "holds", desc := "(II)Z" } : Jvm.MethodName) : Cond) ∈ lw_ok := lw_in (List.mem_append_right _ (List.mem_append_right _ (List.mem_append_right _ (List.mem_of_getElem? (i := 7) rfl)))) rfl
theorem k_488 : (Jvm.Cond.code ({ cls := "CharacterSetsModel", name := "holds", desc := "(II)Z" } : Jvm.MethodName) prog_6_method_26_code (4 : Nat) (Option.some Jvm.ClassFile.FieldType.boolean) : Cond) ∈ lw_ok := lw_in (List.mem_append_right _ (List.mem_append_right _ (List.mem_append_right _ (List.mem_of_getElem? (i := 8) rfl)))) rfl
theorem k_489 : (Jvm.Cond.methodLink "CharacterSetsModel" (75 : Nat) ({ cls := "CharacterSetsModel", name := "category", desc := "(I)I" } : Jvm.MethodName) : Cond) ∈ lw_ok := lw_in (List.mem_append_right _ (List.mem_append_right _ (List.mem_append_right _ (List.mem_of_getElem? (i := 9) rfl)))) rfl
theorem k_490 : (Jvm.Cond.privateMethod ({ cls := "CharacterSetsModel", name := "category", desc := "(I)I" } : Jvm.MethodName) : Cond) ∈ lw_tbl := List.mem_append_right _ (List.mem_append_right _ (List.mem_append_right _ (List.mem_of_getElem? (i := 10) rfl)))
theorem k_491 : (Jvm.Cond.instanceMethod ({ cls := "CharacterSetsModel", name := "category", desc := "(I)I" } : Jvm.MethodName) : Cond) ∈ lw_ok := lw_in (List.mem_append_right _ (List.mem_append_right _ (List.mem_append_right _ (List.mem_of_getElem? (i := 11) rfl)))) rfl
theorem k_492 : (Jvm.Cond.code ({ cls := "CharacterSetsModel", name := "category", desc := "(I)I" } : Jvm.MethodName) prog_6_method_7_code (2 : Nat) (Option.some Jvm.ClassFile.FieldType.int) : Cond) ∈ lw_ok := lw_in (List.mem_append_right _ (List.mem_append_right _ (List.mem_append_right _ (List.mem_of_getElem? (i := 12) rfl)))) rfl
theorem k_493 : (Jvm.Cond.constant "CharacterSetsModel" (71 : Nat) (40959 : Int32) : Cond) ∈ lw_ok := lw_in (List.mem_append_right _ (List.mem_append_right _ (List.mem_append_right _ (List.mem_of_getElem? (i := 13) rfl)))) rfl
theorem k_494 : (Jvm.Cond.constant "CharacterSetsModel" (72 : Nat) (55203 : Int32) : Cond) ∈ lw_ok := lw_in (List.mem_append_right _ (List.mem_append_right _ (List.mem_append_right _ (List.mem_of_getElem? (i := 14) rfl)))) rfl
theorem k_495 : (Jvm.Cond.constant "CharacterSetsModel" (73 : Nat) (63743 : Int32) : Cond) ∈ lw_ok := lw_in (List.mem_append_right _ (List.mem_append_right _ (List.mem_append_right _ (List.mem_of_getElem? (i := 15) rfl)))) rfl
theorem k_496 : (Jvm.Cond.constant "CharacterSetsModel" (74 : Nat) (128591 : Int32) : Cond) ∈ lw_ok := lw_in (List.mem_append_right _ (List.mem_append_right _ (List.mem_append_right _ (List.mem_of_getElem? (i := 16) rfl)))) rfl
theorem k_497 : (Jvm.Cond.methodLink "CharacterSetsModel" (127 : Nat) ({ cls := "CharacterSetsModel", name := "general", desc := "(II)Z" } : Jvm.MethodName) : Cond) ∈ lw_ok := lw_in (List.mem_append_right _ (List.mem_append_right _ (List.mem_append_right _ (List.mem_of_getElem? (i := 17) rfl)))) rfl
theorem k_498 : (Jvm.Cond.privateMethod ({ cls := "CharacterSetsModel", name := "general", desc := "(II)Z" } : Jvm.MethodName) : Cond) ∈ lw_tbl := List.mem_append_right _ (List.mem_append_right _ (List.mem_append_right _ (List.mem_of_getElem? (i := 18) rfl)))
theorem k_499 : (Jvm.Cond.instanceMethod ({ cls := "CharacterSetsModel", name := "general", desc := "(II)Z" } : Jvm.MethodName) : Cond) ∈ lw_ok := lw_in (List.mem_append_right _ (List.mem_append_right _ (List.mem_append_right _ (List.mem_of_getElem? (i := 19) rfl)))) rfl
theorem k_500 : (Jvm.Cond.code ({ cls := "CharacterSetsModel", name := "general", desc := "(II)Z" } : Jvm.MethodName) prog_6_method_27_code (3 : Nat) (Option.some Jvm.ClassFile.FieldType.boolean) : Cond) ∈ lw_ok := lw_in (List.mem_append_right _ (List.mem_append_right _ (List.mem_append_right _ (List.mem_of_getElem? (i := 20) rfl)))) rfl
theorem k_501 : (Jvm.Cond.methodLink "CharacterSetsModel" (131 : Nat) ({ cls := "CharacterSetsModel", name := "script", desc := "(I)I" } : Jvm.MethodName) : Cond) ∈ lw_ok := lw_in (List.mem_append_right _ (List.mem_append_right _ (List.mem_append_right _ (List.mem_of_getElem? (i := 21) rfl)))) rfl
theorem k_502 : (Jvm.Cond.privateMethod ({ cls := "CharacterSetsModel", name := "script", desc := "(I)I" } : Jvm.MethodName) : Cond) ∈ lw_tbl := List.mem_append_right _ (List.mem_append_right _ (List.mem_append_right _ (List.mem_of_getElem? (i := 22) rfl)))
theorem k_503 : (Jvm.Cond.instanceMethod ({ cls := "CharacterSetsModel", name := "script", desc := "(I)I" } : Jvm.MethodName) : Cond) ∈ lw_ok := lw_in (List.mem_append_right _ (List.mem_append_right _ (List.mem_append_right _ (List.mem_of_getElem? (i := 23) rfl)))) rfl
theorem k_504 : (Jvm.Cond.code ({ cls := "CharacterSetsModel", name := "script", desc := "(I)I" } : Jvm.MethodName) prog_6_method_8_code (3 : Nat) (Option.some Jvm.ClassFile.FieldType.int) : Cond) ∈ lw_ok := lw_in (List.mem_append_right _ (List.mem_append_right _ (List.mem_append_right _ (List.mem_of_getElem? (i := 24) rfl)))) rfl
theorem k_505 : (Jvm.Cond.methodLink "CharacterSetsLaw" (39 : Nat) ({ cls := "CharacterSetsModel", name := "named", desc := "(IIZZ)I" } : Jvm.MethodName) : Cond) ∈ lw_ok := lw_in (List.mem_append_right _ (List.mem_append_right _ (List.mem_append_right _ (List.mem_of_getElem? (i := 25) rfl)))) rfl
theorem k_506 : (Jvm.Cond.instanceMethod ({ cls := "CharacterSetsModel", name := "named", desc := "(IIZZ)I" } : Jvm.MethodName) : Cond) ∈ lw_ok := lw_in (List.mem_append_right _ (List.mem_append_right _ (List.mem_append_right _ (List.mem_of_getElem? (i := 26) rfl)))) rfl
theorem k_507 : (Jvm.Cond.selects "CharacterSetsModel" ({ cls := "CharacterSetsModel", name := "named", desc := "(IIZZ)I" } : Jvm.MethodName) ({ cls := "CharacterSetsModel", name := "named", desc := "(IIZZ)I" } : Jvm.MethodName) : Cond) ∈ lw_ok := lw_in (List.mem_append_right _ (List.mem_append_right _ (List.mem_append_right _ (List.mem_of_getElem? (i := 27) rfl)))) rfl
theorem k_508 : (Jvm.Cond.code ({ cls := "CharacterSetsModel", name := "named", desc := "(IIZZ)I" } : Jvm.MethodName) prog_6_method_35_code (8 : Nat) (Option.some Jvm.ClassFile.FieldType.int) : Cond) ∈ lw_ok := lw_in (List.mem_append_right _ (List.mem_append_right _ (List.mem_append_right _ (List.mem_of_getElem? (i := 28) rfl)))) rfl
theorem k_509 : (Jvm.Cond.methodLink "CharacterSetsModel" (152 : Nat) ({ cls := "CharacterSetsModel", name := "names", desc := "(II)Z" } : Jvm.MethodName) : Cond) ∈ lw_ok := lw_in (List.mem_append_right _ (List.mem_append_right _ (List.mem_append_right _ (List.mem_of_getElem? (i := 29) rfl)))) rfl
theorem k_510 : (Jvm.Cond.privateMethod ({ cls := "CharacterSetsModel", name := "names", desc := "(II)Z" } : Jvm.MethodName) : Cond) ∈ lw_tbl := List.mem_append_right _ (List.mem_append_right _ (List.mem_append_right _ (List.mem_of_getElem? (i := 30) rfl)))
theorem k_511 : (Jvm.Cond.instanceMethod ({ cls := "CharacterSetsModel", name := "names", desc := "(II)Z" } : Jvm.MethodName) : Cond) ∈ lw_ok := lw_in (List.mem_append_right _ (List.mem_append_right _ (List.mem_append_right _ (List.mem_of_getElem? (i := 31) rfl)))) rfl
theorem k_512 : (Jvm.Cond.code ({ cls := "CharacterSetsModel", name := "names", desc := "(II)Z" } : Jvm.MethodName) prog_6_method_34_code (3 : Nat) (Option.some Jvm.ClassFile.FieldType.boolean) : Cond) ∈ lw_ok := lw_in (List.mem_append_right _ (List.mem_append_right _ (List.mem_append_right _ (List.mem_of_getElem? (i := 32) rfl)))) rfl
theorem k_513 : (Jvm.Cond.methodLink "CharacterSetsModel" (149 : Nat) ({ cls := "CharacterSetsModel", name := "widely", desc := "(II)Z" } : Jvm.MethodName) : Cond) ∈ lw_ok := lw_in (List.mem_append_right _ (List.mem_append_right _ (List.mem_append_right _ (List.mem_of_getElem? (i := 33) rfl)))) rfl
theorem k_514 : (Jvm.Cond.privateMethod ({ cls := "CharacterSetsModel", name := "widely", desc := "(II)Z" } : Jvm.MethodName) : Cond) ∈ lw_tbl := List.mem_append_right _ (List.mem_append_right _ (List.mem_append_right _ (List.mem_of_getElem? (i := 34) rfl)))
theorem k_515 : (Jvm.Cond.instanceMethod ({ cls := "CharacterSetsModel", name := "widely", desc := "(II)Z" } : Jvm.MethodName) : Cond) ∈ lw_ok := lw_in (List.mem_append_right _ (List.mem_append_right _ (List.mem_append_right _ (List.mem_of_getElem? (i := 35) rfl)))) rfl
theorem k_516 : (Jvm.Cond.code ({ cls := "CharacterSetsModel", name := "widely", desc := "(II)Z" } : Jvm.MethodName) prog_6_method_33_code (5 : Nat) (Option.some Jvm.ClassFile.FieldType.boolean) : Cond) ∈ lw_ok := lw_in (List.mem_append_right _ (List.mem_append_right _ (List.mem_append_right _ (List.mem_of_getElem? (i := 36) rfl)))) rfl
theorem k_517 : (Jvm.Cond.methodLink "CharacterSetsModel" (143 : Nat) ({ cls := "CharacterSetsModel", name := "blank", desc := "(I)Z" } : Jvm.MethodName) : Cond) ∈ lw_ok := lw_in (List.mem_append_right _ (List.mem_append_right _ (List.mem_append_right _ (List.mem_of_getElem? (i := 37) rfl)))) rfl
theorem k_518 : (Jvm.Cond.privateMethod ({ cls := "CharacterSetsModel", name := "blank", desc := "(I)Z" } : Jvm.MethodName) : Cond) ∈ lw_tbl := List.mem_append_right _ (List.mem_append_right _ (List.mem_append_right _ (List.mem_of_getElem? (i := 38) rfl)))
theorem k_519 : (Jvm.Cond.instanceMethod ({ cls := "CharacterSetsModel", name := "blank", desc := "(I)Z" } : Jvm.MethodName) : Cond) ∈ lw_ok := lw_in (List.mem_append_right _ (List.mem_append_right _ (List.mem_append_right _ (List.mem_of_getElem? (i := 39) rfl)))) rfl
theorem k_520 : (Jvm.Cond.code ({ cls := "CharacterSetsModel", name := "blank", desc := "(I)Z" } : Jvm.MethodName) prog_6_method_31_code (2 : Nat) (Option.some Jvm.ClassFile.FieldType.boolean) : Cond) ∈ lw_ok := lw_in (List.mem_append_right _ (List.mem_append_right _ (List.mem_append_right _ (List.mem_of_getElem? (i := 40) rfl)))) rfl
theorem k_521 : (Jvm.Cond.methodLink "CharacterSetsModel" (146 : Nat) ({ cls := "CharacterSetsModel", name := "plainly", desc := "(II)Z" } : Jvm.MethodName) : Cond) ∈ lw_ok := lw_in (List.mem_append_right _ (List.mem_append_right _ (List.mem_append_right _ (List.mem_of_getElem? (i := 41) rfl)))) rfl
theorem k_522 : (Jvm.Cond.privateMethod ({ cls := "CharacterSetsModel", name := "plainly", desc := "(II)Z" } : Jvm.MethodName) : Cond) ∈ lw_tbl := List.mem_append_right _ (List.mem_append_right _ (List.mem_append_right _ (List.mem_of_getElem? (i := 42) rfl)))
theorem k_523 : (Jvm.Cond.instanceMethod ({ cls := "CharacterSetsModel", name := "plainly", desc := "(II)Z" } : Jvm.MethodName) : Cond) ∈ lw_ok := lw_in (List.mem_append_right _ (List.mem_append_right _ (List.mem_append_right _ (List.mem_of_getElem? (i := 43) rfl)))) rfl
theorem k_524 : (Jvm.Cond.code ({ cls := "CharacterSetsModel", name := "plainly", desc := "(II)Z" } : Jvm.MethodName) prog_6_method_32_code (4 : Nat) (Option.some Jvm.ClassFile.FieldType.boolean) : Cond) ∈ lw_ok := lw_in (List.mem_append_right _ (List.mem_append_right _ (List.mem_append_right _ (List.mem_of_getElem? (i := 44) rfl)))) rfl
theorem k_525 : (Jvm.Cond.methodLink "CharacterSetsModel" (137 : Nat) ({ cls := "CharacterSetsModel", name := "digit", desc := "(I)Z" } : Jvm.MethodName) : Cond) ∈ lw_ok := lw_in (List.mem_append_right _ (List.mem_append_right _ (List.mem_append_right _ (List.mem_of_getElem? (i := 45) rfl)))) rfl
theorem k_526 : (Jvm.Cond.privateMethod ({ cls := "CharacterSetsModel", name := "digit", desc := "(I)Z" } : Jvm.MethodName) : Cond) ∈ lw_tbl := List.mem_append_right _ (List.mem_append_right _ (List.mem_append_right _ (List.mem_of_getElem? (i := 46) rfl)))
theorem k_527 : (Jvm.Cond.instanceMethod ({ cls := "CharacterSetsModel", name := "digit", desc := "(I)Z" } : Jvm.MethodName) : Cond) ∈ lw_ok := lw_in (List.mem_append_right _ (List.mem_append_right _ (List.mem_append_right _ (List.mem_of_getElem? (i := 47) rfl)))) rfl
theorem k_528 : (Jvm.Cond.code ({ cls := "CharacterSetsModel", name := "digit", desc := "(I)Z" } : Jvm.MethodName) prog_6_method_30_code (2 : Nat) (Option.some Jvm.ClassFile.FieldType.boolean) : Cond) ∈ lw_ok := lw_in (List.mem_append_right _ (List.mem_append_right _ (List.mem_append_right _ (List.mem_of_getElem? (i := 48) rfl)))) rfl
theorem k_529 : (Jvm.Cond.methodLink "CharacterSetsModel" (140 : Nat) ({ cls := "CharacterSetsModel", name := "alpha", desc := "(I)Z" } : Jvm.MethodName) : Cond) ∈ lw_ok := lw_in (List.mem_append_right _ (List.mem_append_right _ (List.mem_append_right _ (List.mem_of_getElem? (i := 49) rfl)))) rfl
theorem k_530 : (Jvm.Cond.privateMethod ({ cls := "CharacterSetsModel", name := "alpha", desc := "(I)Z" } : Jvm.MethodName) : Cond) ∈ lw_tbl := List.mem_append_right _ (List.mem_append_right _ (List.mem_append_right _ (List.mem_of_getElem? (i := 50) rfl)))
theorem k_531 : (Jvm.Cond.instanceMethod ({ cls := "CharacterSetsModel", name := "alpha", desc := "(I)Z" } : Jvm.MethodName) : Cond) ∈ lw_ok := lw_in (List.mem_append_right _ (List.mem_append_right _ (List.mem_append_right _ (List.mem_of_getElem? (i := 51) rfl)))) rfl
theorem k_532 : (Jvm.Cond.code ({ cls := "CharacterSetsModel", name := "alpha", desc := "(I)Z" } : Jvm.MethodName) prog_6_method_29_code (2 : Nat) (Option.some Jvm.ClassFile.FieldType.boolean) : Cond) ∈ lw_ok := lw_in (List.mem_append_right _ (List.mem_append_right _ (List.mem_append_right _ (List.mem_of_getElem? (i := 52) rfl)))) rfl
theorem k_533 : (Jvm.Cond.methodLink "CharacterSetsLaw" (43 : Nat) ({ cls := "CharacterSetsModel", name := "close", desc := "(I)I" } : Jvm.MethodName) : Cond) ∈ lw_ok := lw_in (List.mem_append_right _ (List.mem_append_right _ (List.mem_append_right _ (List.mem_of_getElem? (i := 53) rfl)))) rfl
theorem k_534 : (Jvm.Cond.instanceMethod ({ cls := "CharacterSetsModel", name := "close", desc := "(I)I" } : Jvm.MethodName) : Cond) ∈ lw_ok := lw_in (List.mem_append_right _ (List.mem_append_right _ (List.mem_append_right _ (List.mem_of_getElem? (i := 54) rfl)))) rfl
theorem k_535 : (Jvm.Cond.selects "CharacterSetsModel" ({ cls := "CharacterSetsModel", name := "close", desc := "(I)I" } : Jvm.MethodName) ({ cls := "CharacterSetsModel", name := "close", desc := "(I)I" } : Jvm.MethodName) : Cond) ∈ lw_ok := lw_in (List.mem_append_right _ (List.mem_append_right _ (List.mem_append_right _ (List.mem_of_getElem? (i := 55) rfl)))) rfl
theorem k_536 : (Jvm.Cond.code ({ cls := "CharacterSetsModel", name := "close", desc := "(I)I" } : Jvm.MethodName) prog_6_method_37_code (6 : Nat) (Option.some Jvm.ClassFile.FieldType.int) : Cond) ∈ lw_ok := lw_in (List.mem_append_right _ (List.mem_append_right _ (List.mem_append_right _ (List.mem_of_getElem? (i := 56) rfl)))) rfl
theorem k_537 : (Jvm.Cond.methodLink "CharacterSetsModel" (155 : Nat) ({ cls := "CharacterSetsModel", name := "count", desc := "(I)I" } : Jvm.MethodName) : Cond) ∈ lw_ok := lw_in (List.mem_append_right _ (List.mem_append_right _ (List.mem_append_right _ (List.mem_of_getElem? (i := 57) rfl)))) rfl
theorem k_538 : (Jvm.Cond.privateMethod ({ cls := "CharacterSetsModel", name := "count", desc := "(I)I" } : Jvm.MethodName) : Cond) ∈ lw_tbl := List.mem_append_right _ (List.mem_append_right _ (List.mem_append_right _ (List.mem_of_getElem? (i := 58) rfl)))
theorem k_539 : (Jvm.Cond.instanceMethod ({ cls := "CharacterSetsModel", name := "count", desc := "(I)I" } : Jvm.MethodName) : Cond) ∈ lw_ok := lw_in (List.mem_append_right _ (List.mem_append_right _ (List.mem_append_right _ (List.mem_of_getElem? (i := 59) rfl)))) rfl
theorem k_540 : (Jvm.Cond.code ({ cls := "CharacterSetsModel", name := "count", desc := "(I)I" } : Jvm.MethodName) prog_6_method_36_code (4 : Nat) (Option.some Jvm.ClassFile.FieldType.int) : Cond) ∈ lw_ok := lw_in (List.mem_append_right _ (List.mem_append_right _ (List.mem_append_right _ (List.mem_of_getElem? (i := 60) rfl)))) rfl
theorem k_541 : (Jvm.Cond.methodLink "CharacterSetsModel" (158 : Nat) ({ cls := "CharacterSetsModel", name := "in", desc := "(II)Z" } : Jvm.MethodName) : Cond) ∈ lw_ok := lw_in (List.mem_append_right _ (List.mem_append_right _ (List.mem_append_right _ (List.mem_of_getElem? (i := 61) rfl)))) rfl
theorem k_542 : (Jvm.Cond.privateMethod ({ cls := "CharacterSetsModel", name := "in", desc := "(II)Z" } : Jvm.MethodName) : Cond) ∈ lw_tbl := List.mem_append_right _ (List.mem_append_right _ (List.mem_append_right _ (List.mem_of_getElem? (i := 62) rfl)))
theorem k_543 : (Jvm.Cond.instanceMethod ({ cls := "CharacterSetsModel", name := "in", desc := "(II)Z" } : Jvm.MethodName) : Cond) ∈ lw_ok := lw_in (List.mem_append_right _ (List.mem_append_right _ (List.mem_append_right _ (List.mem_of_getElem? (i := 63) rfl)))) rfl
theorem k_544 : (Jvm.Cond.code ({ cls := "CharacterSetsModel", name := "in", desc := "(II)Z" } : Jvm.MethodName) prog_6_method_19_code (3 : Nat) (Option.some Jvm.ClassFile.FieldType.boolean) : Cond) ∈ lw_ok := lw_in (List.mem_append_right _ (List.mem_append_right _ (List.mem_append_right _ (List.mem_of_getElem? (i := 64) rfl)))) rfl
theorem k_545 : (Jvm.Cond.methodLink "CharacterSetsModel" (96 : Nat) ({ cls := "CharacterSetsModel", name := "caseOf", desc := "(I)V" } : Jvm.MethodName) : Cond) ∈ lw_ok := lw_in (List.mem_append_right _ (List.mem_append_right _ (List.mem_append_right _ (List.mem_of_getElem? (i := 65) rfl)))) rfl
theorem k_546 : (Jvm.Cond.privateMethod ({ cls := "CharacterSetsModel", name := "caseOf", desc := "(I)V" } : Jvm.MethodName) : Cond) ∈ lw_tbl := List.mem_append_right _ (List.mem_append_right _ (List.mem_append_right _ (List.mem_of_getElem? (i := 66) rfl)))
theorem k_547 : (Jvm.Cond.instanceMethod ({ cls := "CharacterSetsModel", name := "caseOf", desc := "(I)V" } : Jvm.MethodName) : Cond) ∈ lw_ok := lw_in (List.mem_append_right _ (List.mem_append_right _ (List.mem_append_right _ (List.mem_of_getElem? (i := 67) rfl)))) rfl
theorem k_548 : (Jvm.Cond.code ({ cls := "CharacterSetsModel", name := "caseOf", desc := "(I)V" } : Jvm.MethodName) prog_6_method_14_code (4 : Nat) (Option.none : Option Jvm.ClassFile.FieldType) : Cond) ∈ lw_ok := lw_in (List.mem_append_right _ (List.mem_append_right _ (List.mem_append_right _ (List.mem_of_getElem? (i := 68) rfl)))) rfl
theorem k_549 : (Jvm.Cond.methodLink "CharacterSetsModel" (89 : Nat) ({ cls := "CharacterSetsModel", name := "first", desc := "(I)I" } : Jvm.MethodName) : Cond) ∈ lw_ok := lw_in (List.mem_append_right _ (List.mem_append_right _ (List.mem_append_right _ (List.mem_of_getElem? (i := 69) rfl)))) rfl
theorem k_550 : (Jvm.Cond.privateMethod ({ cls := "CharacterSetsModel", name := "first", desc := "(I)I" } : Jvm.MethodName) : Cond) ∈ lw_tbl := List.mem_append_right _ (List.mem_append_right _ (List.mem_append_right _ (List.mem_of_getElem? (i := 70) rfl)))
theorem k_551 : (Jvm.Cond.instanceMethod ({ cls := "CharacterSetsModel", name := "first", desc := "(I)I" } : Jvm.MethodName) : Cond) ∈ lw_ok := lw_in (List.mem_append_right _ (List.mem_append_right _ (List.mem_append_right _ (List.mem_of_getElem? (i := 71) rfl)))) rfl
theorem k_552 : (Jvm.Cond.code ({ cls := "CharacterSetsModel", name := "first", desc := "(I)I" } : Jvm.MethodName) prog_6_method_13_code (2 : Nat) (Option.some Jvm.ClassFile.FieldType.int) : Cond) ∈ lw_ok := lw_in (List.mem_append_right _ (List.mem_append_right _ (List.mem_append_right _ (List.mem_of_getElem? (i := 72) rfl)))) rfl
theorem k_553 : (Jvm.Cond.methodLink "CharacterSetsModel" (83 : Nat) ({ cls := "CharacterSetsModel", name := "third", desc := "(I)I" } : Jvm.MethodName) : Cond) ∈ lw_ok := lw_in (List.mem_append_right _ (List.mem_append_right _ (List.mem_append_right _ (List.mem_of_getElem? (i := 73) rfl)))) rfl
theorem k_554 : (Jvm.Cond.privateMethod ({ cls := "CharacterSetsModel", name := "third", desc := "(I)I" } : Jvm.MethodName) : Cond) ∈ lw_tbl := List.mem_append_right _ (List.mem_append_right _ (List.mem_append_right _ (List.mem_of_getElem? (i := 74) rfl)))
theorem k_555 : (Jvm.Cond.instanceMethod ({ cls := "CharacterSetsModel", name := "third", desc := "(I)I" } : Jvm.MethodName) : Cond) ∈ lw_ok := lw_in (List.mem_append_right _ (List.mem_append_right _ (List.mem_append_right _ (List.mem_of_getElem? (i := 75) rfl)))) rfl
theorem k_556 : (Jvm.Cond.code ({ cls := "CharacterSetsModel", name := "third", desc := "(I)I" } : Jvm.MethodName) prog_6_method_12_code (2 : Nat) (Option.some Jvm.ClassFile.FieldType.int) : Cond) ∈ lw_ok := lw_in (List.mem_append_right _ (List.mem_append_right _ (List.mem_append_right _ (List.mem_of_getElem? (i := 76) rfl)))) rfl
theorem k_557 : (Jvm.Cond.methodLink "CharacterSetsModel" (86 : Nat) ({ cls := "CharacterSetsModel", name := "pair", desc := "(I)I" } : Jvm.MethodName) : Cond) ∈ lw_ok := lw_in (List.mem_append_right _ (List.mem_append_right _ (List.mem_append_right _ (List.mem_of_getElem? (i := 77) rfl)))) rfl
theorem k_558 : (Jvm.Cond.privateMethod ({ cls := "CharacterSetsModel", name := "pair", desc := "(I)I" } : Jvm.MethodName) : Cond) ∈ lw_tbl := List.mem_append_right _ (List.mem_append_right _ (List.mem_append_right _ (List.mem_of_getElem? (i := 78) rfl)))
theorem k_559 : (Jvm.Cond.instanceMethod ({ cls := "CharacterSetsModel", name := "pair", desc := "(I)I" } : Jvm.MethodName) : Cond) ∈ lw_ok := lw_in (List.mem_append_right _ (List.mem_append_right _ (List.mem_append_right _ (List.mem_of_getElem? (i := 79) rfl)))) rfl
theorem k_560 : (Jvm.Cond.code ({ cls := "CharacterSetsModel", name := "pair", desc := "(I)I" } : Jvm.MethodName) prog_6_method_11_code (3 : Nat) (Option.some Jvm.ClassFile.FieldType.int) : Cond) ∈ lw_ok := lw_in (List.mem_append_right _ (List.mem_append_right _ (List.mem_append_right _ (List.mem_of_getElem? (i := 80) rfl)))) rfl
theorem k_561 : (Jvm.Cond.methodLink "CharacterSetsModel" (79 : Nat) ({ cls := "CharacterSetsModel", name := "inAny", desc := "(III)Z" } : Jvm.MethodName) : Cond) ∈ lw_ok := lw_in (List.mem_append_right _ (List.mem_append_right _ (List.mem_append_right _ (List.mem_of_getElem? (i := 81) rfl)))) rfl
theorem k_562 : (Jvm.Cond.privateMethod ({ cls := "CharacterSetsModel", name := "inAny", desc := "(III)Z" } : Jvm.MethodName) : Cond) ∈ lw_tbl := List.mem_append_right _ (List.mem_append_right _ (List.mem_append_right _ (List.mem_of_getElem? (i := 82) rfl)))
theorem k_563 : (Jvm.Cond.instanceMethod ({ cls := "CharacterSetsModel", name := "inAny", desc := "(III)Z" } : Jvm.MethodName) : Cond) ∈ lw_ok := lw_in (List.mem_append_right _ (List.mem_append_right _ (List.mem_append_right _ (List.mem_of_getElem? (i := 83) rfl)))) rfl
theorem k_564 : (Jvm.Cond.code ({ cls := "CharacterSetsModel", name := "inAny", desc := "(III)Z" } : Jvm.MethodName) prog_6_method_10_code (4 : Nat) (Option.some Jvm.ClassFile.FieldType.boolean) : Cond) ∈ lw_ok := lw_in (List.mem_append_right _ (List.mem_append_right _ (List.mem_append_right _ (List.mem_of_getElem? (i := 84) rfl)))) rfl
theorem k_565 : (Jvm.Cond.methodLink "CharacterSetsModel" (92 : Nat) ({ cls := "CharacterSetsModel", name := "withMate", desc := "(I)V" } : Jvm.MethodName) : Cond) ∈ lw_ok := lw_in (List.mem_append_right _ (List.mem_append_right _ (List.mem_append_right _ (List.mem_of_getElem? (i := 85) rfl)))) rfl
theorem k_566 : (Jvm.Cond.privateMethod ({ cls := "CharacterSetsModel", name := "withMate", desc := "(I)V" } : Jvm.MethodName) : Cond) ∈ lw_tbl := List.mem_append_right _ (List.mem_append_right _ (List.mem_append_right _ (List.mem_of_getElem? (i := 86) rfl)))
theorem k_567 : (Jvm.Cond.instanceMethod ({ cls := "CharacterSetsModel", name := "withMate", desc := "(I)V" } : Jvm.MethodName) : Cond) ∈ lw_ok := lw_in (List.mem_append_right _ (List.mem_append_right _ (List.mem_append_right _ (List.mem_of_getElem? (i := 87) rfl)))) rfl
theorem k_568 : (Jvm.Cond.code ({ cls := "CharacterSetsModel", name := "withMate", desc := "(I)V" } : Jvm.MethodName) prog_6_method_9_code (2 : Nat) (Option.none : Option Jvm.ClassFile.FieldType) : Cond) ∈ lw_ok := lw_in (List.mem_append_right _ (List.mem_append_right _ (List.mem_append_right _ (List.mem_of_getElem? (i := 88) rfl)))) rfl
theorem k_569 : (Jvm.Cond.methodLink "CharacterSetsLaw" (47 : Nat) ({ cls := "CharacterSetsModel", name := "invert", desc := "(I)I" } : Jvm.MethodName) : Cond) ∈ lw_ok := lw_in (List.mem_append_right _ (List.mem_append_right _ (List.mem_append_right _ (List.mem_of_getElem? (i := 89) rfl)))) rfl
theorem k_570 : (Jvm.Cond.instanceMethod ({ cls := "CharacterSetsModel", name := "invert", desc := "(I)I" } : Jvm.MethodName) : Cond) ∈ lw_ok := lw_in (List.mem_append_right _ (List.mem_append_right _ (List.mem_append_right _ (List.mem_of_getElem? (i := 90) rfl)))) rfl
theorem k_571 : (Jvm.Cond.selects "CharacterSetsModel" ({ cls := "CharacterSetsModel", name := "invert", desc := "(I)I" } : Jvm.MethodName) ({ cls := "CharacterSetsModel", name := "invert", desc := "(I)I" } : Jvm.MethodName) : Cond) ∈ lw_ok := lw_in (List.mem_append_right _ (List.mem_append_right _ (List.mem_append_right _ (List.mem_of_getElem? (i := 91) rfl)))) rfl
theorem k_572 : (Jvm.Cond.code ({ cls := "CharacterSetsModel", name := "invert", desc := "(I)I" } : Jvm.MethodName) prog_6_method_38_code (3 : Nat) (Option.some Jvm.ClassFile.FieldType.int) : Cond) ∈ lw_ok := lw_in (List.mem_append_right _ (List.mem_append_right _ (List.mem_append_right _ (List.mem_of_getElem? (i := 92) rfl)))) rfl
theorem k_573 : (Jvm.Cond.methodLink "CharacterSetsLaw" (52 : Nat) ({ cls := "CharacterSetsModel", name := "join", desc := "(II)I" } : Jvm.MethodName) : Cond) ∈ lw_ok := lw_in (List.mem_append_right _ (List.mem_append_right _ (List.mem_append_right _ (List.mem_of_getElem? (i := 93) rfl)))) rfl
theorem k_574 : (Jvm.Cond.instanceMethod ({ cls := "CharacterSetsModel", name := "join", desc := "(II)I" } : Jvm.MethodName) : Cond) ∈ lw_ok := lw_in (List.mem_append_right _ (List.mem_append_right _ (List.mem_append_right _ (List.mem_of_getElem? (i := 94) rfl)))) rfl
theorem k_575 : (Jvm.Cond.selects "CharacterSetsModel" ({ cls := "CharacterSetsModel", name := "join", desc := "(II)I" } : Jvm.MethodName) ({ cls := "CharacterSetsModel", name := "join", desc := "(II)I" } : Jvm.MethodName) : Cond) ∈ lw_ok := lw_in (List.mem_append_right _ (List.mem_append_right _ (List.mem_append_right _ (List.mem_of_getElem? (i := 95) rfl)))) rfl
theorem k_576 : (Jvm.Cond.code ({ cls := "CharacterSetsModel", name := "join", desc := "(II)I" } : Jvm.MethodName) prog_6_method_39_code (4 : Nat) (Option.some Jvm.ClassFile.FieldType.int) : Cond) ∈ lw_ok := lw_in (List.mem_append_right _ (List.mem_append_right _ (List.mem_append_right _ (List.mem_of_getElem? (i := 96) rfl)))) rfl
theorem k_577 : (Jvm.Cond.methodLink "CharacterSetsLaw" (56 : Nat) ({ cls := "CharacterSetsModel", name := "meets", desc := "(II)I" } : Jvm.MethodName) : Cond) ∈ lw_ok := lw_in (List.mem_append_right _ (List.mem_append_right _ (List.mem_append_right _ (List.mem_of_getElem? (i := 97) rfl)))) rfl
theorem k_578 : (Jvm.Cond.instanceMethod ({ cls := "CharacterSetsModel", name := "meets", desc := "(II)I" } : Jvm.MethodName) : Cond) ∈ lw_ok := lw_in (List.mem_append_right _ (List.mem_append_right _ (List.mem_append_right _ (List.mem_of_getElem? (i := 98) rfl)))) rfl
theorem k_579 : (Jvm.Cond.selects "CharacterSetsModel" ({ cls := "CharacterSetsModel", name := "meets", desc := "(II)I" } : Jvm.MethodName) ({ cls := "CharacterSetsModel", name := "meets", desc := "(II)I" } : Jvm.MethodName) : Cond) ∈ lw_ok := lw_in (List.mem_append_right _ (List.mem_append_right _ (List.mem_append_right _ (List.mem_of_getElem? (i := 99) rfl)))) rfl
theorem k_580 : (Jvm.Cond.code ({ cls := "CharacterSetsModel", name := "meets", desc := "(II)I" } : Jvm.MethodName) prog_6_method_40_code (6 : Nat) (Option.some Jvm.ClassFile.FieldType.int) : Cond) ∈ lw_ok := lw_in (List.mem_append_right _ (List.mem_append_right _ (List.mem_append_right _ (List.mem_of_getElem? (i := 100) rfl)))) rfl
theorem k_581 : (Jvm.Cond.methodLink "CharacterSetsLaw" (60 : Nat) ({ cls := "CharacterSetsModel", name := "same", desc := "(II)I" } : Jvm.MethodName) : Cond) ∈ lw_ok := lw_in (List.mem_append_right _ (List.mem_append_right _ (List.mem_append_right _ (List.mem_of_getElem? (i := 101) rfl)))) rfl
theorem k_582 : (Jvm.Cond.instanceMethod ({ cls := "CharacterSetsModel", name := "same", desc := "(II)I" } : Jvm.MethodName) : Cond) ∈ lw_ok := lw_in (List.mem_append_right _ (List.mem_append_right _ (List.mem_append_right _ (List.mem_of_getElem? (i := 102) rfl)))) rfl
theorem k_583 : (Jvm.Cond.selects "CharacterSetsModel" ({ cls := "CharacterSetsModel", name := "same", desc := "(II)I" } : Jvm.MethodName) ({ cls := "CharacterSetsModel", name := "same", desc := "(II)I" } : Jvm.MethodName) : Cond) ∈ lw_ok := lw_in (List.mem_append_right _ (List.mem_append_right _ (List.mem_append_right _ (List.mem_of_getElem? (i := 103) rfl)))) rfl
theorem k_584 : (Jvm.Cond.code ({ cls := "CharacterSetsModel", name := "same", desc := "(II)I" } : Jvm.MethodName) prog_6_method_41_code (6 : Nat) (Option.some Jvm.ClassFile.FieldType.int) : Cond) ∈ lw_ok := lw_in (List.mem_append_right _ (List.mem_append_right _ (List.mem_append_right _ (List.mem_of_getElem? (i := 104) rfl)))) rfl
theorem k_585 : (Jvm.Cond.methodLink "CharacterSetsLaw" (64 : Nat) ({ cls := "CharacterSetsModel", name := "has", desc := "(II)I" } : Jvm.MethodName) : Cond) ∈ lw_ok := lw_in (List.mem_append_right _ (List.mem_append_right _ (List.mem_append_right _ (List.mem_of_getElem? (i := 105) rfl)))) rfl
theorem k_586 : (Jvm.Cond.instanceMethod ({ cls := "CharacterSetsModel", name := "has", desc := "(II)I" } : Jvm.MethodName) : Cond) ∈ lw_ok := lw_in (List.mem_append_right _ (List.mem_append_right _ (List.mem_append_right _ (List.mem_of_getElem? (i := 106) rfl)))) rfl
theorem k_587 : (Jvm.Cond.selects "CharacterSetsModel" ({ cls := "CharacterSetsModel", name := "has", desc := "(II)I" } : Jvm.MethodName) ({ cls := "CharacterSetsModel", name := "has", desc := "(II)I" } : Jvm.MethodName) : Cond) ∈ lw_ok := lw_in (List.mem_append_right _ (List.mem_append_right _ (List.mem_append_right _ (List.mem_of_getElem? (i := 107) rfl)))) rfl
theorem k_588 : (Jvm.Cond.code ({ cls := "CharacterSetsModel", name := "has", desc := "(II)I" } : Jvm.MethodName) prog_6_method_42_code (3 : Nat) (Option.some Jvm.ClassFile.FieldType.int) : Cond) ∈ lw_ok := lw_in (List.mem_append_right _ (List.mem_append_right _ (List.mem_append_right _ (List.mem_of_getElem? (i := 108) rfl)))) rfl
theorem k_589 : (Jvm.Cond.methodLink "CharacterSetsLaw" (68 : Nat) ({ cls := "CharacterSetsModel", name := "size", desc := "(I)I" } : Jvm.MethodName) : Cond) ∈ lw_ok := lw_in (List.mem_append_right _ (List.mem_append_right _ (List.mem_append_right _ (List.mem_of_getElem? (i := 109) rfl)))) rfl
theorem k_590 : (Jvm.Cond.instanceMethod ({ cls := "CharacterSetsModel", name := "size", desc := "(I)I" } : Jvm.MethodName) : Cond) ∈ lw_ok := lw_in (List.mem_append_right _ (List.mem_append_right _ (List.mem_append_right _ (List.mem_of_getElem? (i := 110) rfl)))) rfl
theorem k_591 : (Jvm.Cond.selects "CharacterSetsModel" ({ cls := "CharacterSetsModel", name := "size", desc := "(I)I" } : Jvm.MethodName) ({ cls := "CharacterSetsModel", name := "size", desc := "(I)I" } : Jvm.MethodName) : Cond) ∈ lw_ok := lw_in (List.mem_append_right _ (List.mem_append_right _ (List.mem_append_right _ (List.mem_of_getElem? (i := 111) rfl)))) rfl
theorem k_592 : (Jvm.Cond.code ({ cls := "CharacterSetsModel", name := "size", desc := "(I)I" } : Jvm.MethodName) prog_6_method_43_code (2 : Nat) (Option.some Jvm.ClassFile.FieldType.int) : Cond) ∈ lw_ok := lw_in (List.mem_append_right _ (List.mem_append_right _ (List.mem_append_right _ (List.mem_of_getElem? (i := 112) rfl)))) rfl
theorem k_593 : (Jvm.Cond.methodLink "CharacterSetsLaw" (72 : Nat) ({ cls := "CharacterSetsModel", name := "least", desc := "(II)I" } : Jvm.MethodName) : Cond) ∈ lw_ok := lw_in (List.mem_append_right _ (List.mem_append_right _ (List.mem_append_right _ (List.mem_of_getElem? (i := 113) rfl)))) rfl
theorem k_594 : (Jvm.Cond.instanceMethod ({ cls := "CharacterSetsModel", name := "least", desc := "(II)I" } : Jvm.MethodName) : Cond) ∈ lw_ok := lw_in (List.mem_append_right _ (List.mem_append_right _ (List.mem_append_right _ (List.mem_of_getElem? (i := 114) rfl)))) rfl
theorem k_595 : (Jvm.Cond.selects "CharacterSetsModel" ({ cls := "CharacterSetsModel", name := "least", desc := "(II)I" } : Jvm.MethodName) ({ cls := "CharacterSetsModel", name := "least", desc := "(II)I" } : Jvm.MethodName) : Cond) ∈ lw_ok := lw_in (List.mem_append_right _ (List.mem_append_right _ (List.mem_append_right _ (List.mem_of_getElem? (i := 115) rfl)))) rfl
theorem k_596 : (Jvm.Cond.code ({ cls := "CharacterSetsModel", name := "least", desc := "(II)I" } : Jvm.MethodName) prog_6_method_44_code (4 : Nat) (Option.some Jvm.ClassFile.FieldType.int) : Cond) ∈ lw_ok := lw_in (List.mem_append_right _ (List.mem_append_right _ (List.mem_append_right _ (List.mem_of_getElem? (i := 116) rfl)))) rfl
theorem k_597 : (Jvm.Cond.methodLink "CharacterSetsLaw" (77 : Nat) ({ cls := "CharacterSetsModel", name := "bound", desc := "(IIZ)I" } : Jvm.MethodName) : Cond) ∈ lw_ok := lw_in (List.mem_append_right _ (List.mem_append_right _ (List.mem_append_right _ (List.mem_of_getElem? (i := 117) rfl)))) rfl
theorem k_598 : (Jvm.Cond.instanceMethod ({ cls := "CharacterSetsModel", name := "bound", desc := "(IIZ)I" } : Jvm.MethodName) : Cond) ∈ lw_ok := lw_in (List.mem_append_right _ (List.mem_append_right _ (List.mem_append_right _ (List.mem_of_getElem? (i := 118) rfl)))) rfl
theorem k_599 : (Jvm.Cond.selects "CharacterSetsModel" ({ cls := "CharacterSetsModel", name := "bound", desc := "(IIZ)I" } : Jvm.MethodName) ({ cls := "CharacterSetsModel", name := "bound", desc := "(IIZ)I" } : Jvm.MethodName) : Cond) ∈ lw_ok := lw_in (List.mem_append_right _ (List.mem_append_right _ (List.mem_append_right _ (List.mem_of_getElem? (i := 119) rfl)))) rfl
theorem k_600 : (Jvm.Cond.code ({ cls := "CharacterSetsModel", name := "bound", desc := "(IIZ)I" } : Jvm.MethodName) prog_6_method_45_code (6 : Nat) (Option.some Jvm.ClassFile.FieldType.int) : Cond) ∈ lw_ok := lw_in (List.mem_append_right _ (List.mem_append_right _ (List.mem_append_right _ (List.mem_of_getElem? (i := 120) rfl)))) rfl
theorem k_601 : (Jvm.Cond.methodLink "CharacterSetsModel" (161 : Nat) ({ cls := "CharacterSetsModel", name := "least", desc := "(II)I" } : Jvm.MethodName) : Cond) ∈ lw_ok := lw_in (List.mem_append_right _ (List.mem_append_right _ (List.mem_append_right _ (List.mem_of_getElem? (i := 121) rfl)))) rfl
theorem k_602 : (Jvm.Cond.methodLink "CharacterSetsModel" (165 : Nat) ({ cls := "CharacterSetsModel", name := "after", desc := "(II)I" } : Jvm.MethodName) : Cond) ∈ lw_ok := lw_in (List.mem_append_right _ (List.mem_append_right _ (List.mem_append_right _ (List.mem_of_getElem? (i := 122) rfl)))) rfl
theorem k_603 : (Jvm.Cond.privateMethod ({ cls := "CharacterSetsModel", name := "after", desc := "(II)I" } : Jvm.MethodName) : Cond) ∈ lw_tbl := List.mem_append_right _ (List.mem_append_right _ (List.mem_append_right _ (List.mem_of_getElem? (i := 123) rfl)))
theorem k_604 : (Jvm.Cond.instanceMethod ({ cls := "CharacterSetsModel", name := "after", desc := "(II)I" } : Jvm.MethodName) : Cond) ∈ lw_ok := lw_in (List.mem_append_right _ (List.mem_append_right _ (List.mem_append_right _ (List.mem_of_getElem? (i := 124) rfl)))) rfl
theorem k_605 : (Jvm.Cond.code ({ cls := "CharacterSetsModel", name := "after", desc := "(II)I" } : Jvm.MethodName) prog_6_method_46_code (4 : Nat) (Option.some Jvm.ClassFile.FieldType.int) : Cond) ∈ lw_ok := lw_in (List.mem_append_right _ (List.mem_append_right _ (List.mem_append_right _ (List.mem_of_getElem? (i := 125) rfl)))) rfl
theorem k_606 : (Jvm.Cond.methodLink "CharacterSetsLaw" (81 : Nat) ({ cls := "CharacterSetsModel", name := "about", desc := "(II)I" } : Jvm.MethodName) : Cond) ∈ lw_ok := lw_in (List.mem_append_right _ (List.mem_append_right _ (List.mem_append_right _ (List.mem_of_getElem? (i := 126) rfl)))) rfl
theorem k_607 : (Jvm.Cond.instanceMethod ({ cls := "CharacterSetsModel", name := "about", desc := "(II)I" } : Jvm.MethodName) : Cond) ∈ lw_ok := lw_in (List.mem_append_right _ (List.mem_append_right _ (List.mem_append_right _ (List.mem_of_getElem? (i := 127) rfl)))) rfl
theorem k_608 : (Jvm.Cond.selects "CharacterSetsModel" ({ cls := "CharacterSetsModel", name := "about", desc := "(II)I" } : Jvm.MethodName) ({ cls := "CharacterSetsModel", name := "about", desc := "(II)I" } : Jvm.MethodName) : Cond) ∈ lw_ok := lw_in (List.mem_append_right _ (List.mem_append_right _ (List.mem_append_right _ (List.mem_of_getElem? (i := 128) rfl)))) rfl
theorem k_609 : (Jvm.Cond.code ({ cls := "CharacterSetsModel", name := "about", desc := "(II)I" } : Jvm.MethodName) prog_6_method_47_code (3 : Nat) (Option.some Jvm.ClassFile.FieldType.int) : Cond) ∈ lw_ok := lw_in (List.mem_append_right _ (List.mem_append_right _ (List.mem_append_right _ (List.mem_of_getElem? (i := 129) rfl)))) rfl
theorem k_610 : (Jvm.Cond.methodLink "CharacterSetsModel" (168 : Nat) ({ cls := "CharacterSetsModel", name := "upper", desc := "(I)I" } : Jvm.MethodName) : Cond) ∈ lw_ok := lw_in (List.mem_append_right _ (List.mem_append_right _ (List.mem_append_right _ (List.mem_of_getElem? (i := 130) rfl)))) rfl
theorem k_611 : (Jvm.Cond.privateMethod ({ cls := "CharacterSetsModel", name := "upper", desc := "(I)I" } : Jvm.MethodName) : Cond) ∈ lw_tbl := List.mem_append_right _ (List.mem_append_right _ (List.mem_append_right _ (List.mem_of_getElem? (i := 131) rfl)))
theorem k_612 : (Jvm.Cond.instanceMethod ({ cls := "CharacterSetsModel", name := "upper", desc := "(I)I" } : Jvm.MethodName) : Cond) ∈ lw_ok := lw_in (List.mem_append_right _ (List.mem_append_right _ (List.mem_append_right _ (List.mem_of_getElem? (i := 132) rfl)))) rfl
theorem k_613 : (Jvm.Cond.code ({ cls := "CharacterSetsModel", name := "upper", desc := "(I)I" } : Jvm.MethodName) prog_6_method_15_code (4 : Nat) (Option.some Jvm.ClassFile.FieldType.int) : Cond) ∈ lw_ok := lw_in (List.mem_append_right _ (List.mem_append_right _ (List.mem_append_right _ (List.mem_of_getElem? (i := 133) rfl)))) rfl
theorem k_614 : (Jvm.Cond.methodLink "CharacterSetsModel" (171 : Nat) ({ cls := "CharacterSetsModel", name := "lower", desc := "(I)I" } : Jvm.MethodName) : Cond) ∈ lw_ok := lw_in (List.mem_append_right _ (List.mem_append_right _ (List.mem_append_right _ (List.mem_of_getElem? (i := 134) rfl)))) rfl
theorem k_615 : (Jvm.Cond.privateMethod ({ cls := "CharacterSetsModel", name := "lower", desc := "(I)I" } : Jvm.MethodName) : Cond) ∈ lw_tbl := List.mem_append_right _ (List.mem_append_right _ (List.mem_append_right _ (List.mem_of_getElem? (i := 135) rfl)))
theorem k_616 : (Jvm.Cond.instanceMethod ({ cls := "CharacterSetsModel", name := "lower", desc := "(I)I" } : Jvm.MethodName) : Cond) ∈ lw_ok := lw_in (List.mem_append_right _ (List.mem_append_right _ (List.mem_append_right _ (List.mem_of_getElem? (i := 136) rfl)))) rfl
theorem k_617 : (Jvm.Cond.code ({ cls := "CharacterSetsModel", name := "lower", desc := "(I)I" } : Jvm.MethodName) prog_6_method_16_code (3 : Nat) (Option.some Jvm.ClassFile.FieldType.int) : Cond) ∈ lw_ok := lw_in (List.mem_append_right _ (List.mem_append_right _ (List.mem_append_right _ (List.mem_of_getElem? (i := 137) rfl)))) rfl
theorem k_618 : (Jvm.Cond.methodLink "CharacterSetsModel" (174 : Nat) ({ cls := "CharacterSetsModel", name := "next", desc := "(I)I" } : Jvm.MethodName) : Cond) ∈ lw_ok := lw_in (List.mem_append_right _ (List.mem_append_right _ (List.mem_append_right _ (List.mem_of_getElem? (i := 138) rfl)))) rfl
theorem k_619 : (Jvm.Cond.privateMethod ({ cls := "CharacterSetsModel", name := "next", desc := "(I)I" } : Jvm.MethodName) : Cond) ∈ lw_tbl := List.mem_append_right _ (List.mem_append_right _ (List.mem_append_right _ (List.mem_of_getElem? (i := 139) rfl)))
theorem k_620 : (Jvm.Cond.instanceMethod ({ cls := "CharacterSetsModel", name := "next", desc := "(I)I" } : Jvm.MethodName) : Cond) ∈ lw_ok := lw_in (List.mem_append_right _ (List.mem_append_right _ (List.mem_append_right _ (List.mem_of_getElem? (i := 140) rfl)))) rfl
theorem k_621 : (Jvm.Cond.code ({ cls := "CharacterSetsModel", name := "next", desc := "(I)I" } : Jvm.MethodName) prog_6_method_17_code (5 : Nat) (Option.some Jvm.ClassFile.FieldType.int) : Cond) ∈ lw_ok := lw_in (List.mem_append_right _ (List.mem_append_right _ (List.mem_append_right _ (List.mem_of_getElem? (i := 141) rfl)))) rfl
theorem i_CS : ∀ w ∈ w_CS, w ∈ lw_ok := by
  intro w hw
  obtain ⟨k, hk, rfl⟩ := List.mem_map.mp hw
  have hk := List.mem_range.mp hk
  match k, hk with
  | 0, _ => exact k_107
  | 1, _ => exact k_109
  | 2, _ => exact k_111
  | 3, _ => exact k_113
  | 4, _ => exact k_115
  | 5, _ => exact k_117
  | k + 6, hk => exact absurd hk (by omega)
theorem i_RG : ∀ w ∈ w_RG, w ∈ lw_ok := by
  intro w hw
  obtain ⟨k, hk, rfl⟩ := List.mem_map.mp hw
  have hk := List.mem_range.mp hk
  match k, hk with
  | 0, _ => exact k_95
  | 1, _ => exact k_97
  | k + 2, hk => exact absurd hk (by omega)
theorem i_TB : ∀ w ∈ w_TB, w ∈ lw_ok := by
  intro w hw
  obtain ⟨k, hk, rfl⟩ := List.mem_map.mp hw
  have hk := List.mem_range.mp hk
  match k, hk with
  | 0, _ => exact k_42
  | 1, _ => exact k_44
  | 2, _ => exact k_46
  | 3, _ => exact k_48
  | k + 4, hk => exact absurd hk (by omega)
theorem i_CR : ∀ w ∈ w_CR, w ∈ lw_ok := by
  intro w hw
  obtain ⟨k, hk, rfl⟩ := List.mem_map.mp hw
  have hk := List.mem_range.mp hk
  match k, hk with
  | 0, _ => exact k_82
  | 1, _ => exact k_84
  | k + 2, hk => exact absurd hk (by omega)
theorem i_MO : ∀ w ∈ w_MO, w ∈ lw_ok := by
  intro w hw
  obtain ⟨k, hk, rfl⟩ := List.mem_map.mp hw
  have hk := List.mem_range.mp hk
  match k, hk with
  | 0, _ => exact k_427
  | 1, _ => exact k_429
  | 2, _ => exact k_431
  | 3, _ => exact k_433
  | 4, _ => exact k_435
  | 5, _ => exact k_437
  | 6, _ => exact k_439
  | 7, _ => exact k_441
  | 8, _ => exact k_443
  | k + 9, hk => exact absurd hk (by omega)
end
section
theorem d_CS_init_0 : decode b_CS_init 0 = .ok (.aload_n 0, 1) := by decide +kernel
theorem d_CS_init_1 : decode b_CS_init 1 = .ok (.invokespecial 3, 3) := by decide +kernel
theorem d_CS_init_4 : decode b_CS_init 4 = .ok (.iload_n 1, 1) := by decide +kernel
theorem d_CS_init_5 : decode b_CS_init 5 = .ok (.iconst 1, 1) := by decide +kernel
theorem d_CS_init_6 : decode b_CS_init 6 = .ok (.iand, 1) := by decide +kernel
theorem d_CS_init_7 : decode b_CS_init 7 = .ok (.ifCond .eq 7, 3) := by decide +kernel
theorem d_CS_init_10 : decode b_CS_init 10 = .ok (.iconst 1, 1) := by decide +kernel
theorem d_CS_init_11 : decode b_CS_init 11 = .ok (.goto 4, 3) := by decide +kernel
theorem d_CS_init_14 : decode b_CS_init 14 = .ok (.iconst 0, 1) := by decide +kernel
theorem d_CS_init_15 : decode b_CS_init 15 = .ok (.istore_n 2, 1) := by decide +kernel
theorem d_CS_init_16 : decode b_CS_init 16 = .ok (.aload_n 0, 1) := by decide +kernel
theorem d_CS_init_17 : decode b_CS_init 17 = .ok (.iload_n 1, 1) := by decide +kernel
theorem d_CS_init_18 : decode b_CS_init 18 = .ok (.iconst 2, 1) := by decide +kernel
theorem d_CS_init_19 : decode b_CS_init 19 = .ok (.iand, 1) := by decide +kernel
theorem d_CS_init_20 : decode b_CS_init 20 = .ok (.ifCond .eq 7, 3) := by decide +kernel
theorem d_CS_init_23 : decode b_CS_init 23 = .ok (.iconst 1, 1) := by decide +kernel
theorem d_CS_init_24 : decode b_CS_init 24 = .ok (.goto 4, 3) := by decide +kernel
theorem d_CS_init_27 : decode b_CS_init 27 = .ok (.iconst 0, 1) := by decide +kernel
theorem d_CS_init_28 : decode b_CS_init 28 = .ok (.putfield 9, 3) := by decide +kernel
theorem d_CS_init_31 : decode b_CS_init 31 = .ok (.aload_n 0, 1) := by decide +kernel
theorem d_CS_init_32 : decode b_CS_init 32 = .ok (.iload_n 2, 1) := by decide +kernel
theorem d_CS_init_33 : decode b_CS_init 33 = .ok (.ifCond .eq 8, 3) := by decide +kernel
theorem d_CS_init_36 : decode b_CS_init 36 = .ok (.ldc 13, 2) := by decide +kernel
theorem d_CS_init_38 : decode b_CS_init 38 = .ok (.goto 6, 3) := by decide +kernel
theorem d_CS_init_41 : decode b_CS_init 41 = .ok (.sipush 255, 3) := by decide +kernel
theorem d_CS_init_44 : decode b_CS_init 44 = .ok (.putfield 14, 3) := by decide +kernel
theorem d_CS_init_47 : decode b_CS_init 47 = .ok (.aload_n 0, 1) := by decide +kernel
theorem d_CS_init_48 : decode b_CS_init 48 = .ok (.new 18, 3) := by decide +kernel
theorem d_CS_init_51 : decode b_CS_init 51 = .ok (.dup, 1) := by decide +kernel
theorem d_CS_init_52 : decode b_CS_init 52 = .ok (.invokespecial 20, 3) := by decide +kernel
theorem d_CS_init_55 : decode b_CS_init 55 = .ok (.putfield 21, 3) := by decide +kernel
theorem d_CS_init_58 : decode b_CS_init 58 = .ok (.aload_n 0, 1) := by decide +kernel
theorem d_CS_init_59 : decode b_CS_init 59 = .ok (.new 25, 3) := by decide +kernel
theorem d_CS_init_62 : decode b_CS_init 62 = .ok (.dup, 1) := by decide +kernel
theorem d_CS_init_63 : decode b_CS_init 63 = .ok (.iload_n 2, 1) := by decide +kernel
theorem d_CS_init_64 : decode b_CS_init 64 = .ok (.ifCond .ne 10, 3) := by decide +kernel
theorem d_CS_init_67 : decode b_CS_init 67 = .ok (.aload_n 0, 1) := by decide +kernel
theorem d_CS_init_68 : decode b_CS_init 68 = .ok (.getfield 9, 3) := by decide +kernel
theorem d_CS_init_71 : decode b_CS_init 71 = .ok (.ifCond .eq 7, 3) := by decide +kernel
theorem d_CS_init_74 : decode b_CS_init 74 = .ok (.iconst 1, 1) := by decide +kernel
theorem d_CS_init_75 : decode b_CS_init 75 = .ok (.goto 4, 3) := by decide +kernel
theorem d_CS_init_78 : decode b_CS_init 78 = .ok (.iconst 0, 1) := by decide +kernel
theorem d_CS_init_79 : decode b_CS_init 79 = .ok (.aload_n 0, 1) := by decide +kernel
theorem d_CS_init_80 : decode b_CS_init 80 = .ok (.getfield 14, 3) := by decide +kernel
theorem d_CS_init_83 : decode b_CS_init 83 = .ok (.invokespecial 27, 3) := by decide +kernel
theorem d_CS_init_86 : decode b_CS_init 86 = .ok (.putfield 30, 3) := by decide +kernel
theorem d_CS_init_89 : decode b_CS_init 89 = .ok (.aload_n 0, 1) := by decide +kernel
theorem d_CS_init_90 : decode b_CS_init 90 = .ok (.new 34, 3) := by decide +kernel
theorem d_CS_init_93 : decode b_CS_init 93 = .ok (.dup, 1) := by decide +kernel
theorem d_CS_init_94 : decode b_CS_init 94 = .ok (.invokespecial 36, 3) := by decide +kernel
theorem d_CS_init_97 : decode b_CS_init 97 = .ok (.putfield 37, 3) := by decide +kernel
theorem d_CS_init_100 : decode b_CS_init 100 = .ok (.aload_n 0, 1) := by decide +kernel
theorem d_CS_init_101 : decode b_CS_init 101 = .ok (.bipush 8, 2) := by decide +kernel
theorem d_CS_init_103 : decode b_CS_init 103 = .ok (.anewarray 34, 3) := by decide +kernel
theorem d_CS_init_106 : decode b_CS_init 106 = .ok (.putfield 41, 3) := by decide +kernel
theorem d_CS_init_109 : decode b_CS_init 109 = .ok (.iconst 0, 1) := by decide +kernel
theorem d_CS_init_110 : decode b_CS_init 110 = .ok (.istore_n 3, 1) := by decide +kernel
theorem d_CS_init_111 : decode b_CS_init 111 = .ok (.iload_n 3, 1) := by decide +kernel
theorem d_CS_init_112 : decode b_CS_init 112 = .ok (.bipush 8, 2) := by decide +kernel
theorem d_CS_init_114 : decode b_CS_init 114 = .ok (.if_icmp .ge 22, 3) := by decide +kernel
theorem d_CS_init_117 : decode b_CS_init 117 = .ok (.aload_n 0, 1) := by decide +kernel
theorem d_CS_init_118 : decode b_CS_init 118 = .ok (.getfield 41, 3) := by decide +kernel
theorem d_CS_init_121 : decode b_CS_init 121 = .ok (.iload_n 3, 1) := by decide +kernel
theorem d_CS_init_122 : decode b_CS_init 122 = .ok (.new 34, 3) := by decide +kernel
theorem d_CS_init_125 : decode b_CS_init 125 = .ok (.dup, 1) := by decide +kernel
theorem d_CS_init_126 : decode b_CS_init 126 = .ok (.invokespecial 36, 3) := by decide +kernel
theorem d_CS_init_129 : decode b_CS_init 129 = .ok (.aastore, 1) := by decide +kernel
theorem d_CS_init_130 : decode b_CS_init 130 = .ok (.iinc 3 1, 3) := by decide +kernel
theorem d_CS_init_133 : decode b_CS_init 133 = .ok (.goto (-22), 3) := by decide +kernel
theorem d_CS_init_136 : decode b_CS_init 136 = .ok (.return_, 1) := by decide +kernel
theorem d_CS_clear_0 : decode b_CS_clear 0 = .ok (.iload_n 1, 1) := by decide +kernel
theorem d_CS_clear_1 : decode b_CS_clear 1 = .ok (.invokestatic 45, 3) := by decide +kernel
theorem d_CS_clear_4 : decode b_CS_clear 4 = .ok (.ifCond .ne 6, 3) := by decide +kernel
theorem d_CS_clear_7 : decode b_CS_clear 7 = .ok (.bipush (-2), 2) := by decide +kernel
theorem d_CS_clear_9 : decode b_CS_clear 9 = .ok (.ireturn, 1) := by decide +kernel
theorem d_CS_clear_10 : decode b_CS_clear 10 = .ok (.aload_n 0, 1) := by decide +kernel
theorem d_CS_clear_11 : decode b_CS_clear 11 = .ok (.getfield 41, 3) := by decide +kernel
theorem d_CS_clear_14 : decode b_CS_clear 14 = .ok (.iload_n 1, 1) := by decide +kernel
theorem d_CS_clear_15 : decode b_CS_clear 15 = .ok (.aaload, 1) := by decide +kernel
theorem d_CS_clear_16 : decode b_CS_clear 16 = .ok (.invokevirtual 49, 3) := by decide +kernel
theorem d_CS_clear_19 : decode b_CS_clear 19 = .ok (.iconst 0, 1) := by decide +kernel
theorem d_CS_clear_20 : decode b_CS_clear 20 = .ok (.ireturn, 1) := by decide +kernel
theorem d_CS_range_0 : decode b_CS_range 0 = .ok (.iload_n 1, 1) := by decide +kernel
theorem d_CS_range_1 : decode b_CS_range 1 = .ok (.invokestatic 45, 3) := by decide +kernel
theorem d_CS_range_4 : decode b_CS_range 4 = .ok (.ifCond .eq 24, 3) := by decide +kernel
theorem d_CS_range_7 : decode b_CS_range 7 = .ok (.aload_n 0, 1) := by decide +kernel
theorem d_CS_range_8 : decode b_CS_range 8 = .ok (.iload_n 2, 1) := by decide +kernel
theorem d_CS_range_9 : decode b_CS_range 9 = .ok (.invokevirtual 52, 3) := by decide +kernel
theorem d_CS_range_12 : decode b_CS_range 12 = .ok (.ifCond .eq 16, 3) := by decide +kernel
theorem d_CS_range_15 : decode b_CS_range 15 = .ok (.aload_n 0, 1) := by decide +kernel
theorem d_CS_range_16 : decode b_CS_range 16 = .ok (.iload_n 3, 1) := by decide +kernel
theorem d_CS_range_17 : decode b_CS_range 17 = .ok (.invokevirtual 52, 3) := by decide +kernel
theorem d_CS_range_20 : decode b_CS_range 20 = .ok (.ifCond .eq 8, 3) := by decide +kernel
theorem d_CS_range_23 : decode b_CS_range 23 = .ok (.iload_n 2, 1) := by decide +kernel
theorem d_CS_range_24 : decode b_CS_range 24 = .ok (.iload_n 3, 1) := by decide +kernel
theorem d_CS_range_25 : decode b_CS_range 25 = .ok (.if_icmp .le 6, 3) := by decide +kernel
theorem d_CS_range_28 : decode b_CS_range 28 = .ok (.bipush (-2), 2) := by decide +kernel
theorem d_CS_range_30 : decode b_CS_range 30 = .ok (.ireturn, 1) := by decide +kernel
theorem d_CS_range_31 : decode b_CS_range 31 = .ok (.aload_n 0, 1) := by decide +kernel
theorem d_CS_range_32 : decode b_CS_range 32 = .ok (.getfield 41, 3) := by decide +kernel
theorem d_CS_range_35 : decode b_CS_range 35 = .ok (.iload_n 1, 1) := by decide +kernel
theorem d_CS_range_36 : decode b_CS_range 36 = .ok (.aaload, 1) := by decide +kernel
theorem d_CS_range_37 : decode b_CS_range 37 = .ok (.iload_n 2, 1) := by decide +kernel
theorem d_CS_range_38 : decode b_CS_range 38 = .ok (.iload_n 3, 1) := by decide +kernel
theorem d_CS_range_39 : decode b_CS_range 39 = .ok (.invokevirtual 55, 3) := by decide +kernel
theorem d_CS_range_42 : decode b_CS_range 42 = .ok (.aload_n 0, 1) := by decide +kernel
theorem d_CS_range_43 : decode b_CS_range 43 = .ok (.getfield 41, 3) := by decide +kernel
theorem d_CS_range_46 : decode b_CS_range 46 = .ok (.iload_n 1, 1) := by decide +kernel
theorem d_CS_range_47 : decode b_CS_range 47 = .ok (.aaload, 1) := by decide +kernel
theorem d_CS_range_48 : decode b_CS_range 48 = .ok (.invokevirtual 59, 3) := by decide +kernel
theorem d_CS_range_51 : decode b_CS_range 51 = .ok (.ireturn, 1) := by decide +kernel
theorem d_CS_property_0 : decode b_CS_property 0 = .ok (.iload_n 1, 1) := by decide +kernel
theorem d_CS_property_1 : decode b_CS_property 1 = .ok (.invokestatic 45, 3) := by decide +kernel
theorem d_CS_property_4 : decode b_CS_property 4 = .ok (.ifCond .eq 13, 3) := by decide +kernel
theorem d_CS_property_7 : decode b_CS_property 7 = .ok (.iload_n 2, 1) := by decide +kernel
theorem d_CS_property_8 : decode b_CS_property 8 = .ok (.ifCond .lt 9, 3) := by decide +kernel
theorem d_CS_property_11 : decode b_CS_property 11 = .ok (.iload_n 2, 1) := by decide +kernel
theorem d_CS_property_12 : decode b_CS_property 12 = .ok (.bipush 48, 2) := by decide +kernel
theorem d_CS_property_14 : decode b_CS_property 14 = .ok (.if_icmp .le 6, 3) := by decide +kernel
theorem d_CS_property_17 : decode b_CS_property 17 = .ok (.bipush (-2), 2) := by decide +kernel
theorem d_CS_property_19 : decode b_CS_property 19 = .ok (.ireturn, 1) := by decide +kernel
theorem d_CS_property_20 : decode b_CS_property 20 = .ok (.iload 4, 2) := by decide +kernel
theorem d_CS_property_22 : decode b_CS_property 22 = .ok (.ifCond .eq 18, 3) := by decide +kernel
theorem d_CS_property_25 : decode b_CS_property 25 = .ok (.iload_n 2, 1) := by decide +kernel
theorem d_CS_property_26 : decode b_CS_property 26 = .ok (.iconst 4, 1) := by decide +kernel
theorem d_CS_property_27 : decode b_CS_property 27 = .ok (.if_icmp .eq 9, 3) := by decide +kernel
theorem d_CS_property_30 : decode b_CS_property 30 = .ok (.iload_n 2, 1) := by decide +kernel
theorem d_CS_property_31 : decode b_CS_property 31 = .ok (.bipush 6, 2) := by decide +kernel
theorem d_CS_property_33 : decode b_CS_property 33 = .ok (.if_icmp .ne 7, 3) := by decide +kernel
theorem d_CS_property_36 : decode b_CS_property 36 = .ok (.iconst 1, 1) := by decide +kernel
theorem d_CS_property_37 : decode b_CS_property 37 = .ok (.goto 4, 3) := by decide +kernel
theorem d_CS_property_40 : decode b_CS_property 40 = .ok (.iconst 0, 1) := by decide +kernel
theorem d_CS_property_41 : decode b_CS_property 41 = .ok (.istore 5, 2) := by decide +kernel
theorem d_CS_property_43 : decode b_CS_property 43 = .ok (.aload_n 0, 1) := by decide +kernel
theorem d_CS_property_44 : decode b_CS_property 44 = .ok (.getfield 37, 3) := by decide +kernel
theorem d_CS_property_47 : decode b_CS_property 47 = .ok (.invokevirtual 49, 3) := by decide +kernel
theorem d_CS_property_50 : decode b_CS_property 50 = .ok (.aload_n 0, 1) := by decide +kernel
theorem d_CS_property_51 : decode b_CS_property 51 = .ok (.iload 5, 2) := by decide +kernel
theorem d_CS_property_53 : decode b_CS_property 53 = .ok (.ifCond .eq 8, 3) := by decide +kernel
theorem d_CS_property_56 : decode b_CS_property 56 = .ok (.bipush 45, 2) := by decide +kernel
theorem d_CS_property_58 : decode b_CS_property 58 = .ok (.goto 4, 3) := by decide +kernel
theorem d_CS_property_61 : decode b_CS_property 61 = .ok (.iload_n 2, 1) := by decide +kernel
theorem d_CS_property_62 : decode b_CS_property 62 = .ok (.invokevirtual 63, 3) := by decide +kernel
theorem d_CS_property_65 : decode b_CS_property 65 = .ok (.aload_n 0, 1) := by decide +kernel
theorem d_CS_property_66 : decode b_CS_property 66 = .ok (.aload_n 0, 1) := by decide +kernel
theorem d_CS_property_67 : decode b_CS_property 67 = .ok (.getfield 41, 3) := by decide +kernel
theorem d_CS_property_70 : decode b_CS_property 70 = .ok (.iload_n 1, 1) := by decide +kernel
theorem d_CS_property_71 : decode b_CS_property 71 = .ok (.aaload, 1) := by decide +kernel
theorem d_CS_property_72 : decode b_CS_property 72 = .ok (.iload_n 3, 1) := by decide +kernel
theorem d_CS_property_73 : decode b_CS_property 73 = .ok (.invokevirtual 67, 3) := by decide +kernel
theorem d_CS_property_76 : decode b_CS_property 76 = .ok (.ireturn, 1) := by decide +kernel
theorem d_CS_named_0 : decode b_CS_named 0 = .ok (.iload_n 1, 1) := by decide +kernel
theorem d_CS_named_1 : decode b_CS_named 1 = .ok (.invokestatic 45, 3) := by decide +kernel
theorem d_CS_named_4 : decode b_CS_named 4 = .ok (.ifCond .eq 13, 3) := by decide +kernel
theorem d_CS_named_7 : decode b_CS_named 7 = .ok (.iload_n 2, 1) := by decide +kernel
theorem d_CS_named_8 : decode b_CS_named 8 = .ok (.ifCond .lt 9, 3) := by decide +kernel
theorem d_CS_named_11 : decode b_CS_named 11 = .ok (.iload_n 2, 1) := by decide +kernel
theorem d_CS_named_12 : decode b_CS_named 12 = .ok (.bipush 18, 2) := by decide +kernel
theorem d_CS_named_14 : decode b_CS_named 14 = .ok (.if_icmp .le 6, 3) := by decide +kernel
theorem d_CS_named_17 : decode b_CS_named 17 = .ok (.bipush (-2), 2) := by decide +kernel
theorem d_CS_named_19 : decode b_CS_named 19 = .ok (.ireturn, 1) := by decide +kernel
theorem d_CS_named_20 : decode b_CS_named 20 = .ok (.iload 4, 2) := by decide +kernel
theorem d_CS_named_22 : decode b_CS_named 22 = .ok (.ifCond .eq 19, 3) := by decide +kernel
theorem d_CS_named_25 : decode b_CS_named 25 = .ok (.iload_n 2, 1) := by decide +kernel
theorem d_CS_named_26 : decode b_CS_named 26 = .ok (.bipush 6, 2) := by decide +kernel
theorem d_CS_named_28 : decode b_CS_named 28 = .ok (.if_icmp .eq 9, 3) := by decide +kernel
theorem d_CS_named_31 : decode b_CS_named 31 = .ok (.iload_n 2, 1) := by decide +kernel
theorem d_CS_named_32 : decode b_CS_named 32 = .ok (.bipush 7, 2) := by decide +kernel
theorem d_CS_named_34 : decode b_CS_named 34 = .ok (.if_icmp .ne 7, 3) := by decide +kernel
theorem d_CS_named_37 : decode b_CS_named 37 = .ok (.iconst 1, 1) := by decide +kernel
theorem d_CS_named_38 : decode b_CS_named 38 = .ok (.goto 4, 3) := by decide +kernel
theorem d_CS_named_41 : decode b_CS_named 41 = .ok (.iconst 0, 1) := by decide +kernel
theorem d_CS_named_42 : decode b_CS_named 42 = .ok (.istore 5, 2) := by decide +kernel
theorem d_CS_named_44 : decode b_CS_named 44 = .ok (.aload_n 0, 1) := by decide +kernel
theorem d_CS_named_45 : decode b_CS_named 45 = .ok (.getfield 37, 3) := by decide +kernel
theorem d_CS_named_48 : decode b_CS_named 48 = .ok (.invokevirtual 49, 3) := by decide +kernel
theorem d_CS_named_51 : decode b_CS_named 51 = .ok (.aload_n 0, 1) := by decide +kernel
theorem d_CS_named_52 : decode b_CS_named 52 = .ok (.iload 5, 2) := by decide +kernel
theorem d_CS_named_54 : decode b_CS_named 54 = .ok (.ifCond .eq 7, 3) := by decide +kernel
theorem d_CS_named_57 : decode b_CS_named 57 = .ok (.iconst 5, 1) := by decide +kernel
theorem d_CS_named_58 : decode b_CS_named 58 = .ok (.goto 4, 3) := by decide +kernel
theorem d_CS_named_61 : decode b_CS_named 61 = .ok (.iload_n 2, 1) := by decide +kernel
theorem d_CS_named_62 : decode b_CS_named 62 = .ok (.invokevirtual 71, 3) := by decide +kernel
theorem d_CS_named_65 : decode b_CS_named 65 = .ok (.aload_n 0, 1) := by decide +kernel
theorem d_CS_named_66 : decode b_CS_named 66 = .ok (.aload_n 0, 1) := by decide +kernel
theorem d_CS_named_67 : decode b_CS_named 67 = .ok (.getfield 41, 3) := by decide +kernel
theorem d_CS_named_70 : decode b_CS_named 70 = .ok (.iload_n 1, 1) := by decide +kernel
theorem d_CS_named_71 : decode b_CS_named 71 = .ok (.aaload, 1) := by decide +kernel
theorem d_CS_named_72 : decode b_CS_named 72 = .ok (.iload_n 3, 1) := by decide +kernel
theorem d_CS_named_73 : decode b_CS_named 73 = .ok (.invokevirtual 67, 3) := by decide +kernel
theorem d_CS_named_76 : decode b_CS_named 76 = .ok (.ireturn, 1) := by decide +kernel
theorem d_CS_close_0 : decode b_CS_close 0 = .ok (.iload_n 1, 1) := by decide +kernel
theorem d_CS_close_1 : decode b_CS_close 1 = .ok (.invokestatic 45, 3) := by decide +kernel
theorem d_CS_close_4 : decode b_CS_close 4 = .ok (.ifCond .ne 6, 3) := by decide +kernel
theorem d_CS_close_7 : decode b_CS_close 7 = .ok (.bipush (-2), 2) := by decide +kernel
theorem d_CS_close_9 : decode b_CS_close 9 = .ok (.ireturn, 1) := by decide +kernel
theorem d_CS_close_10 : decode b_CS_close 10 = .ok (.iconst 0, 1) := by decide +kernel
theorem d_CS_close_11 : decode b_CS_close 11 = .ok (.istore_n 2, 1) := by decide +kernel
theorem d_CS_close_12 : decode b_CS_close 12 = .ok (.iconst 0, 1) := by decide +kernel
theorem d_CS_close_13 : decode b_CS_close 13 = .ok (.istore_n 3, 1) := by decide +kernel
theorem d_CS_close_14 : decode b_CS_close 14 = .ok (.iload_n 3, 1) := by decide +kernel
theorem d_CS_close_15 : decode b_CS_close 15 = .ok (.sipush 1122, 3) := by decide +kernel
theorem d_CS_close_18 : decode b_CS_close 18 = .ok (.if_icmp .ge 46, 3) := by decide +kernel
theorem d_CS_close_21 : decode b_CS_close 21 = .ok (.iload_n 3, 1) := by decide +kernel
theorem d_CS_close_22 : decode b_CS_close 22 = .ok (.invokestatic 74, 3) := by decide +kernel
theorem d_CS_close_25 : decode b_CS_close 25 = .ok (.istore 4, 2) := by decide +kernel
theorem d_CS_close_27 : decode b_CS_close 27 = .ok (.aload_n 0, 1) := by decide +kernel
theorem d_CS_close_28 : decode b_CS_close 28 = .ok (.aload_n 0, 1) := by decide +kernel
theorem d_CS_close_29 : decode b_CS_close 29 = .ok (.getfield 41, 3) := by decide +kernel
theorem d_CS_close_32 : decode b_CS_close 32 = .ok (.iload_n 1, 1) := by decide +kernel
theorem d_CS_close_33 : decode b_CS_close 33 = .ok (.aaload, 1) := by decide +kernel
theorem d_CS_close_34 : decode b_CS_close 34 = .ok (.iload 4, 2) := by decide +kernel
theorem d_CS_close_36 : decode b_CS_close 36 = .ok (.invokevirtual 78, 3) := by decide +kernel
theorem d_CS_close_39 : decode b_CS_close 39 = .ok (.ifCond .eq 19, 3) := by decide +kernel
theorem d_CS_close_42 : decode b_CS_close 42 = .ok (.aload_n 0, 1) := by decide +kernel
theorem d_CS_close_43 : decode b_CS_close 43 = .ok (.getfield 41, 3) := by decide +kernel
theorem d_CS_close_46 : decode b_CS_close 46 = .ok (.iload_n 1, 1) := by decide +kernel
theorem d_CS_close_47 : decode b_CS_close 47 = .ok (.aaload, 1) := by decide +kernel
theorem d_CS_close_48 : decode b_CS_close 48 = .ok (.iload 4, 2) := by decide +kernel
theorem d_CS_close_50 : decode b_CS_close 50 = .ok (.iload 4, 2) := by decide +kernel
theorem d_CS_close_52 : decode b_CS_close 52 = .ok (.invokevirtual 55, 3) := by decide +kernel
theorem d_CS_close_55 : decode b_CS_close 55 = .ok (.iinc 2 1, 3) := by decide +kernel
theorem d_CS_close_58 : decode b_CS_close 58 = .ok (.iinc 3 1, 3) := by decide +kernel
theorem d_CS_close_61 : decode b_CS_close 61 = .ok (.goto (-47), 3) := by decide +kernel
theorem d_CS_close_64 : decode b_CS_close 64 = .ok (.iload_n 2, 1) := by decide +kernel
theorem d_CS_close_65 : decode b_CS_close 65 = .ok (.ireturn, 1) := by decide +kernel
theorem d_CS_invert_0 : decode b_CS_invert 0 = .ok (.iload_n 1, 1) := by decide +kernel
theorem d_CS_invert_1 : decode b_CS_invert 1 = .ok (.invokestatic 45, 3) := by decide +kernel
theorem d_CS_invert_4 : decode b_CS_invert 4 = .ok (.ifCond .ne 6, 3) := by decide +kernel
theorem d_CS_invert_7 : decode b_CS_invert 7 = .ok (.bipush (-2), 2) := by decide +kernel
theorem d_CS_invert_9 : decode b_CS_invert 9 = .ok (.ireturn, 1) := by decide +kernel
theorem d_CS_invert_10 : decode b_CS_invert 10 = .ok (.aload_n 0, 1) := by decide +kernel
theorem d_CS_invert_11 : decode b_CS_invert 11 = .ok (.getfield 41, 3) := by decide +kernel
theorem d_CS_invert_14 : decode b_CS_invert 14 = .ok (.iload_n 1, 1) := by decide +kernel
theorem d_CS_invert_15 : decode b_CS_invert 15 = .ok (.aaload, 1) := by decide +kernel
theorem d_CS_invert_16 : decode b_CS_invert 16 = .ok (.aload_n 0, 1) := by decide +kernel
theorem d_CS_invert_17 : decode b_CS_invert 17 = .ok (.getfield 14, 3) := by decide +kernel
theorem d_CS_invert_20 : decode b_CS_invert 20 = .ok (.invokevirtual 82, 3) := by decide +kernel
theorem d_CS_invert_23 : decode b_CS_invert 23 = .ok (.aload_n 0, 1) := by decide +kernel
theorem d_CS_invert_24 : decode b_CS_invert 24 = .ok (.getfield 41, 3) := by decide +kernel
theorem d_CS_invert_27 : decode b_CS_invert 27 = .ok (.iload_n 1, 1) := by decide +kernel
theorem d_CS_invert_28 : decode b_CS_invert 28 = .ok (.aaload, 1) := by decide +kernel
theorem d_CS_invert_29 : decode b_CS_invert 29 = .ok (.invokevirtual 59, 3) := by decide +kernel
theorem d_CS_invert_32 : decode b_CS_invert 32 = .ok (.ireturn, 1) := by decide +kernel
theorem d_CS_join_0 : decode b_CS_join 0 = .ok (.iload_n 1, 1) := by decide +kernel
theorem d_CS_join_1 : decode b_CS_join 1 = .ok (.invokestatic 45, 3) := by decide +kernel
theorem d_CS_join_4 : decode b_CS_join 4 = .ok (.ifCond .eq 10, 3) := by decide +kernel
theorem d_CS_join_7 : decode b_CS_join 7 = .ok (.iload_n 2, 1) := by decide +kernel
theorem d_CS_join_8 : decode b_CS_join 8 = .ok (.invokestatic 45, 3) := by decide +kernel
theorem d_CS_join_11 : decode b_CS_join 11 = .ok (.ifCond .ne 6, 3) := by decide +kernel
theorem d_CS_join_14 : decode b_CS_join 14 = .ok (.bipush (-2), 2) := by decide +kernel
theorem d_CS_join_16 : decode b_CS_join 16 = .ok (.ireturn, 1) := by decide +kernel
theorem d_CS_join_17 : decode b_CS_join 17 = .ok (.aload_n 0, 1) := by decide +kernel
theorem d_CS_join_18 : decode b_CS_join 18 = .ok (.getfield 41, 3) := by decide +kernel
theorem d_CS_join_21 : decode b_CS_join 21 = .ok (.iload_n 1, 1) := by decide +kernel
theorem d_CS_join_22 : decode b_CS_join 22 = .ok (.aaload, 1) := by decide +kernel
theorem d_CS_join_23 : decode b_CS_join 23 = .ok (.aload_n 0, 1) := by decide +kernel
theorem d_CS_join_24 : decode b_CS_join 24 = .ok (.getfield 41, 3) := by decide +kernel
theorem d_CS_join_27 : decode b_CS_join 27 = .ok (.iload_n 2, 1) := by decide +kernel
theorem d_CS_join_28 : decode b_CS_join 28 = .ok (.aaload, 1) := by decide +kernel
theorem d_CS_join_29 : decode b_CS_join 29 = .ok (.invokevirtual 85, 3) := by decide +kernel
theorem d_CS_join_32 : decode b_CS_join 32 = .ok (.aload_n 0, 1) := by decide +kernel
theorem d_CS_join_33 : decode b_CS_join 33 = .ok (.getfield 41, 3) := by decide +kernel
theorem d_CS_join_36 : decode b_CS_join 36 = .ok (.iload_n 1, 1) := by decide +kernel
theorem d_CS_join_37 : decode b_CS_join 37 = .ok (.aaload, 1) := by decide +kernel
theorem d_CS_join_38 : decode b_CS_join 38 = .ok (.invokevirtual 59, 3) := by decide +kernel
theorem d_CS_join_41 : decode b_CS_join 41 = .ok (.ireturn, 1) := by decide +kernel
theorem d_CS_meets_0 : decode b_CS_meets 0 = .ok (.iload_n 1, 1) := by decide +kernel
theorem d_CS_meets_1 : decode b_CS_meets 1 = .ok (.invokestatic 45, 3) := by decide +kernel
theorem d_CS_meets_4 : decode b_CS_meets 4 = .ok (.ifCond .eq 10, 3) := by decide +kernel
theorem d_CS_meets_7 : decode b_CS_meets 7 = .ok (.iload_n 2, 1) := by decide +kernel
theorem d_CS_meets_8 : decode b_CS_meets 8 = .ok (.invokestatic 45, 3) := by decide +kernel
theorem d_CS_meets_11 : decode b_CS_meets 11 = .ok (.ifCond .ne 6, 3) := by decide +kernel
theorem d_CS_meets_14 : decode b_CS_meets 14 = .ok (.bipush (-2), 2) := by decide +kernel
theorem d_CS_meets_16 : decode b_CS_meets 16 = .ok (.ireturn, 1) := by decide +kernel
theorem d_CS_meets_17 : decode b_CS_meets 17 = .ok (.aload_n 0, 1) := by decide +kernel
theorem d_CS_meets_18 : decode b_CS_meets 18 = .ok (.getfield 41, 3) := by decide +kernel
theorem d_CS_meets_21 : decode b_CS_meets 21 = .ok (.iload_n 1, 1) := by decide +kernel
theorem d_CS_meets_22 : decode b_CS_meets 22 = .ok (.aaload, 1) := by decide +kernel
theorem d_CS_meets_23 : decode b_CS_meets 23 = .ok (.aload_n 0, 1) := by decide +kernel
theorem d_CS_meets_24 : decode b_CS_meets 24 = .ok (.getfield 41, 3) := by decide +kernel
theorem d_CS_meets_27 : decode b_CS_meets 27 = .ok (.iload_n 2, 1) := by decide +kernel
theorem d_CS_meets_28 : decode b_CS_meets 28 = .ok (.aaload, 1) := by decide +kernel
theorem d_CS_meets_29 : decode b_CS_meets 29 = .ok (.invokevirtual 89, 3) := by decide +kernel
theorem d_CS_meets_32 : decode b_CS_meets 32 = .ok (.ifCond .eq 7, 3) := by decide +kernel
theorem d_CS_meets_35 : decode b_CS_meets 35 = .ok (.iconst 1, 1) := by decide +kernel
theorem d_CS_meets_36 : decode b_CS_meets 36 = .ok (.goto 4, 3) := by decide +kernel
theorem d_CS_meets_39 : decode b_CS_meets 39 = .ok (.iconst 0, 1) := by decide +kernel
theorem d_CS_meets_40 : decode b_CS_meets 40 = .ok (.ireturn, 1) := by decide +kernel
theorem d_CS_same_0 : decode b_CS_same 0 = .ok (.iload_n 1, 1) := by decide +kernel
theorem d_CS_same_1 : decode b_CS_same 1 = .ok (.invokestatic 45, 3) := by decide +kernel
theorem d_CS_same_4 : decode b_CS_same 4 = .ok (.ifCond .eq 10, 3) := by decide +kernel
theorem d_CS_same_7 : decode b_CS_same 7 = .ok (.iload_n 2, 1) := by decide +kernel
theorem d_CS_same_8 : decode b_CS_same 8 = .ok (.invokestatic 45, 3) := by decide +kernel
theorem d_CS_same_11 : decode b_CS_same 11 = .ok (.ifCond .ne 6, 3) := by decide +kernel
theorem d_CS_same_14 : decode b_CS_same 14 = .ok (.bipush (-2), 2) := by decide +kernel
theorem d_CS_same_16 : decode b_CS_same 16 = .ok (.ireturn, 1) := by decide +kernel
theorem d_CS_same_17 : decode b_CS_same 17 = .ok (.aload_n 0, 1) := by decide +kernel
theorem d_CS_same_18 : decode b_CS_same 18 = .ok (.getfield 41, 3) := by decide +kernel
theorem d_CS_same_21 : decode b_CS_same 21 = .ok (.iload_n 1, 1) := by decide +kernel
theorem d_CS_same_22 : decode b_CS_same 22 = .ok (.aaload, 1) := by decide +kernel
theorem d_CS_same_23 : decode b_CS_same 23 = .ok (.aload_n 0, 1) := by decide +kernel
theorem d_CS_same_24 : decode b_CS_same 24 = .ok (.getfield 41, 3) := by decide +kernel
theorem d_CS_same_27 : decode b_CS_same 27 = .ok (.iload_n 2, 1) := by decide +kernel
theorem d_CS_same_28 : decode b_CS_same 28 = .ok (.aaload, 1) := by decide +kernel
theorem d_CS_same_29 : decode b_CS_same 29 = .ok (.invokevirtual 93, 3) := by decide +kernel
theorem d_CS_same_32 : decode b_CS_same 32 = .ok (.ifCond .eq 7, 3) := by decide +kernel
theorem d_CS_same_35 : decode b_CS_same 35 = .ok (.iconst 1, 1) := by decide +kernel
theorem d_CS_same_36 : decode b_CS_same 36 = .ok (.goto 4, 3) := by decide +kernel
theorem d_CS_same_39 : decode b_CS_same 39 = .ok (.iconst 0, 1) := by decide +kernel
theorem d_CS_same_40 : decode b_CS_same 40 = .ok (.ireturn, 1) := by decide +kernel
theorem d_CS_has_0 : decode b_CS_has 0 = .ok (.iload_n 1, 1) := by decide +kernel
theorem d_CS_has_1 : decode b_CS_has 1 = .ok (.invokestatic 45, 3) := by decide +kernel
theorem d_CS_has_4 : decode b_CS_has 4 = .ok (.ifCond .ne 6, 3) := by decide +kernel
theorem d_CS_has_7 : decode b_CS_has 7 = .ok (.bipush (-2), 2) := by decide +kernel
theorem d_CS_has_9 : decode b_CS_has 9 = .ok (.ireturn, 1) := by decide +kernel
theorem d_CS_has_10 : decode b_CS_has 10 = .ok (.aload_n 0, 1) := by decide +kernel
theorem d_CS_has_11 : decode b_CS_has 11 = .ok (.getfield 41, 3) := by decide +kernel
theorem d_CS_has_14 : decode b_CS_has 14 = .ok (.iload_n 1, 1) := by decide +kernel
theorem d_CS_has_15 : decode b_CS_has 15 = .ok (.aaload, 1) := by decide +kernel
theorem d_CS_has_16 : decode b_CS_has 16 = .ok (.iload_n 2, 1) := by decide +kernel
theorem d_CS_has_17 : decode b_CS_has 17 = .ok (.invokevirtual 96, 3) := by decide +kernel
theorem d_CS_has_20 : decode b_CS_has 20 = .ok (.ifCond .eq 7, 3) := by decide +kernel
theorem d_CS_has_23 : decode b_CS_has 23 = .ok (.iconst 1, 1) := by decide +kernel
theorem d_CS_has_24 : decode b_CS_has 24 = .ok (.goto 4, 3) := by decide +kernel
theorem d_CS_has_27 : decode b_CS_has 27 = .ok (.iconst 0, 1) := by decide +kernel
theorem d_CS_has_28 : decode b_CS_has 28 = .ok (.ireturn, 1) := by decide +kernel
theorem d_CS_size_0 : decode b_CS_size 0 = .ok (.iload_n 1, 1) := by decide +kernel
theorem d_CS_size_1 : decode b_CS_size 1 = .ok (.invokestatic 45, 3) := by decide +kernel
theorem d_CS_size_4 : decode b_CS_size 4 = .ok (.ifCond .ne 6, 3) := by decide +kernel
theorem d_CS_size_7 : decode b_CS_size 7 = .ok (.bipush (-2), 2) := by decide +kernel
theorem d_CS_size_9 : decode b_CS_size 9 = .ok (.ireturn, 1) := by decide +kernel
theorem d_CS_size_10 : decode b_CS_size 10 = .ok (.aload_n 0, 1) := by decide +kernel
theorem d_CS_size_11 : decode b_CS_size 11 = .ok (.getfield 41, 3) := by decide +kernel
theorem d_CS_size_14 : decode b_CS_size 14 = .ok (.iload_n 1, 1) := by decide +kernel
theorem d_CS_size_15 : decode b_CS_size 15 = .ok (.aaload, 1) := by decide +kernel
theorem d_CS_size_16 : decode b_CS_size 16 = .ok (.invokevirtual 99, 3) := by decide +kernel
theorem d_CS_size_19 : decode b_CS_size 19 = .ok (.ireturn, 1) := by decide +kernel
theorem d_CS_least_0 : decode b_CS_least 0 = .ok (.iload_n 1, 1) := by decide +kernel
theorem d_CS_least_1 : decode b_CS_least 1 = .ok (.invokestatic 45, 3) := by decide +kernel
theorem d_CS_least_4 : decode b_CS_least 4 = .ok (.ifCond .ne 6, 3) := by decide +kernel
theorem d_CS_least_7 : decode b_CS_least 7 = .ok (.bipush (-2), 2) := by decide +kernel
theorem d_CS_least_9 : decode b_CS_least 9 = .ok (.ireturn, 1) := by decide +kernel
theorem d_CS_least_10 : decode b_CS_least 10 = .ok (.aload_n 0, 1) := by decide +kernel
theorem d_CS_least_11 : decode b_CS_least 11 = .ok (.getfield 41, 3) := by decide +kernel
theorem d_CS_least_14 : decode b_CS_least 14 = .ok (.iload_n 1, 1) := by decide +kernel
theorem d_CS_least_15 : decode b_CS_least 15 = .ok (.aaload, 1) := by decide +kernel
theorem d_CS_least_16 : decode b_CS_least 16 = .ok (.iload_n 2, 1) := by decide +kernel
theorem d_CS_least_17 : decode b_CS_least 17 = .ok (.invokevirtual 102, 3) := by decide +kernel
theorem d_CS_least_20 : decode b_CS_least 20 = .ok (.ireturn, 1) := by decide +kernel
theorem d_CS_bound_0 : decode b_CS_bound 0 = .ok (.iload_n 1, 1) := by decide +kernel
theorem d_CS_bound_1 : decode b_CS_bound 1 = .ok (.invokestatic 45, 3) := by decide +kernel
theorem d_CS_bound_4 : decode b_CS_bound 4 = .ok (.ifCond .eq 20, 3) := by decide +kernel
theorem d_CS_bound_7 : decode b_CS_bound 7 = .ok (.iload_n 2, 1) := by decide +kernel
theorem d_CS_bound_8 : decode b_CS_bound 8 = .ok (.ifCond .lt 16, 3) := by decide +kernel
theorem d_CS_bound_11 : decode b_CS_bound 11 = .ok (.iload_n 2, 1) := by decide +kernel
theorem d_CS_bound_12 : decode b_CS_bound 12 = .ok (.aload_n 0, 1) := by decide +kernel
theorem d_CS_bound_13 : decode b_CS_bound 13 = .ok (.getfield 41, 3) := by decide +kernel
theorem d_CS_bound_16 : decode b_CS_bound 16 = .ok (.iload_n 1, 1) := by decide +kernel
theorem d_CS_bound_17 : decode b_CS_bound 17 = .ok (.aaload, 1) := by decide +kernel
theorem d_CS_bound_18 : decode b_CS_bound 18 = .ok (.invokevirtual 59, 3) := by decide +kernel
theorem d_CS_bound_21 : decode b_CS_bound 21 = .ok (.if_icmp .lt 6, 3) := by decide +kernel
theorem d_CS_bound_24 : decode b_CS_bound 24 = .ok (.bipush (-2), 2) := by decide +kernel
theorem d_CS_bound_26 : decode b_CS_bound 26 = .ok (.ireturn, 1) := by decide +kernel
theorem d_CS_bound_27 : decode b_CS_bound 27 = .ok (.iload_n 3, 1) := by decide +kernel
theorem d_CS_bound_28 : decode b_CS_bound 28 = .ok (.ifCond .eq 16, 3) := by decide +kernel
theorem d_CS_bound_31 : decode b_CS_bound 31 = .ok (.aload_n 0, 1) := by decide +kernel
theorem d_CS_bound_32 : decode b_CS_bound 32 = .ok (.getfield 41, 3) := by decide +kernel
theorem d_CS_bound_35 : decode b_CS_bound 35 = .ok (.iload_n 1, 1) := by decide +kernel
theorem d_CS_bound_36 : decode b_CS_bound 36 = .ok (.aaload, 1) := by decide +kernel
theorem d_CS_bound_37 : decode b_CS_bound 37 = .ok (.iload_n 2, 1) := by decide +kernel
theorem d_CS_bound_38 : decode b_CS_bound 38 = .ok (.invokevirtual 105, 3) := by decide +kernel
theorem d_CS_bound_41 : decode b_CS_bound 41 = .ok (.goto 13, 3) := by decide +kernel
theorem d_CS_bound_44 : decode b_CS_bound 44 = .ok (.aload_n 0, 1) := by decide +kernel
theorem d_CS_bound_45 : decode b_CS_bound 45 = .ok (.getfield 41, 3) := by decide +kernel
theorem d_CS_bound_48 : decode b_CS_bound 48 = .ok (.iload_n 1, 1) := by decide +kernel
theorem d_CS_bound_49 : decode b_CS_bound 49 = .ok (.aaload, 1) := by decide +kernel
theorem d_CS_bound_50 : decode b_CS_bound 50 = .ok (.iload_n 2, 1) := by decide +kernel
theorem d_CS_bound_51 : decode b_CS_bound 51 = .ok (.invokevirtual 108, 3) := by decide +kernel
theorem d_CS_bound_54 : decode b_CS_bound 54 = .ok (.ireturn, 1) := by decide +kernel
theorem d_CS_about_0 : decode b_CS_about 0 = .ok (.iload_n 1, 1) := by decide +kernel
theorem d_CS_about_1 : decode b_CS_about 1 = .ok (.ifCond .lt 18, 3) := by decide +kernel
theorem d_CS_about_4 : decode b_CS_about 4 = .ok (.iload_n 1, 1) := by decide +kernel
theorem d_CS_about_5 : decode b_CS_about 5 = .ok (.ldc 13, 2) := by decide +kernel
theorem d_CS_about_7 : decode b_CS_about 7 = .ok (.if_icmp .gt 12, 3) := by decide +kernel
theorem d_CS_about_10 : decode b_CS_about 10 = .ok (.iload_n 2, 1) := by decide +kernel
theorem d_CS_about_11 : decode b_CS_about 11 = .ok (.ifCond .lt 8, 3) := by decide +kernel
theorem d_CS_about_14 : decode b_CS_about 14 = .ok (.iload_n 2, 1) := by decide +kernel
theorem d_CS_about_15 : decode b_CS_about 15 = .ok (.iconst 4, 1) := by decide +kernel
theorem d_CS_about_16 : decode b_CS_about 16 = .ok (.if_icmp .le 6, 3) := by decide +kernel
theorem d_CS_about_19 : decode b_CS_about 19 = .ok (.bipush (-2), 2) := by decide +kernel
theorem d_CS_about_21 : decode b_CS_about 21 = .ok (.ireturn, 1) := by decide +kernel
theorem d_CS_about_22 : decode b_CS_about 22 = .ok (.iload_n 2, 1) := by decide +kernel
theorem d_CS_about_23 : decode b_CS_about 23 = .ok (.ifCond .ne 12, 3) := by decide +kernel
theorem d_CS_about_26 : decode b_CS_about 26 = .ok (.aload_n 0, 1) := by decide +kernel
theorem d_CS_about_27 : decode b_CS_about 27 = .ok (.getfield 21, 3) := by decide +kernel
theorem d_CS_about_30 : decode b_CS_about 30 = .ok (.iload_n 1, 1) := by decide +kernel
theorem d_CS_about_31 : decode b_CS_about 31 = .ok (.invokevirtual 111, 3) := by decide +kernel
theorem d_CS_about_34 : decode b_CS_about 34 = .ok (.ireturn, 1) := by decide +kernel
theorem d_CS_about_35 : decode b_CS_about 35 = .ok (.iload_n 2, 1) := by decide +kernel
theorem d_CS_about_36 : decode b_CS_about 36 = .ok (.iconst 1, 1) := by decide +kernel
theorem d_CS_about_37 : decode b_CS_about 37 = .ok (.if_icmp .ne 12, 3) := by decide +kernel
theorem d_CS_about_40 : decode b_CS_about 40 = .ok (.aload_n 0, 1) := by decide +kernel
theorem d_CS_about_41 : decode b_CS_about 41 = .ok (.getfield 21, 3) := by decide +kernel
theorem d_CS_about_44 : decode b_CS_about 44 = .ok (.iload_n 1, 1) := by decide +kernel
theorem d_CS_about_45 : decode b_CS_about 45 = .ok (.invokevirtual 114, 3) := by decide +kernel
theorem d_CS_about_48 : decode b_CS_about 48 = .ok (.ireturn, 1) := by decide +kernel
theorem d_CS_about_49 : decode b_CS_about 49 = .ok (.aload_n 0, 1) := by decide +kernel
theorem d_CS_about_50 : decode b_CS_about 50 = .ok (.iload_n 1, 1) := by decide +kernel
theorem d_CS_about_51 : decode b_CS_about 51 = .ok (.invokevirtual 52, 3) := by decide +kernel
theorem d_CS_about_54 : decode b_CS_about 54 = .ok (.ifCond .ne 6, 3) := by decide +kernel
theorem d_CS_about_57 : decode b_CS_about 57 = .ok (.bipush (-2), 2) := by decide +kernel
theorem d_CS_about_59 : decode b_CS_about 59 = .ok (.ireturn, 1) := by decide +kernel
theorem d_CS_about_60 : decode b_CS_about 60 = .ok (.iload_n 2, 1) := by decide +kernel
theorem d_CS_about_61 : decode b_CS_about 61 = .ok (.iconst 2, 1) := by decide +kernel
theorem d_CS_about_62 : decode b_CS_about 62 = .ok (.if_icmp .ne 9, 3) := by decide +kernel
theorem d_CS_about_65 : decode b_CS_about 65 = .ok (.aload_n 0, 1) := by decide +kernel
theorem d_CS_about_66 : decode b_CS_about 66 = .ok (.iload_n 1, 1) := by decide +kernel
theorem d_CS_about_67 : decode b_CS_about 67 = .ok (.invokevirtual 117, 3) := by decide +kernel
theorem d_CS_about_70 : decode b_CS_about 70 = .ok (.ireturn, 1) := by decide +kernel
theorem d_CS_about_71 : decode b_CS_about 71 = .ok (.iload_n 2, 1) := by decide +kernel
theorem d_CS_about_72 : decode b_CS_about 72 = .ok (.iconst 3, 1) := by decide +kernel
theorem d_CS_about_73 : decode b_CS_about 73 = .ok (.if_icmp .ne 11, 3) := by decide +kernel
theorem d_CS_about_76 : decode b_CS_about 76 = .ok (.aload_n 0, 1) := by decide +kernel
theorem d_CS_about_77 : decode b_CS_about 77 = .ok (.iload_n 1, 1) := by decide +kernel
theorem d_CS_about_78 : decode b_CS_about 78 = .ok (.invokevirtual 120, 3) := by decide +kernel
theorem d_CS_about_81 : decode b_CS_about 81 = .ok (.goto 11, 3) := by decide +kernel
theorem d_CS_about_84 : decode b_CS_about 84 = .ok (.aload_n 0, 1) := by decide +kernel
theorem d_CS_about_85 : decode b_CS_about 85 = .ok (.getfield 30, 3) := by decide +kernel
theorem d_CS_about_88 : decode b_CS_about 88 = .ok (.iload_n 1, 1) := by decide +kernel
theorem d_CS_about_89 : decode b_CS_about 89 = .ok (.invokevirtual 123, 3) := by decide +kernel
theorem d_CS_about_92 : decode b_CS_about 92 = .ok (.ireturn, 1) := by decide +kernel
theorem d_CS_isSet_0 : decode b_CS_isSet 0 = .ok (.iload_n 0, 1) := by decide +kernel
theorem d_CS_isSet_1 : decode b_CS_isSet 1 = .ok (.ifCond .lt 13, 3) := by decide +kernel
theorem d_CS_isSet_4 : decode b_CS_isSet 4 = .ok (.iload_n 0, 1) := by decide +kernel
theorem d_CS_isSet_5 : decode b_CS_isSet 5 = .ok (.bipush 8, 2) := by decide +kernel
theorem d_CS_isSet_7 : decode b_CS_isSet 7 = .ok (.if_icmp .ge 7, 3) := by decide +kernel
theorem d_CS_isSet_10 : decode b_CS_isSet 10 = .ok (.iconst 1, 1) := by decide +kernel
theorem d_CS_isSet_11 : decode b_CS_isSet 11 = .ok (.goto 4, 3) := by decide +kernel
theorem d_CS_isSet_14 : decode b_CS_isSet 14 = .ok (.iconst 0, 1) := by decide +kernel
theorem d_CS_isSet_15 : decode b_CS_isSet 15 = .ok (.ireturn, 1) := by decide +kernel
theorem d_CS_isThere_0 : decode b_CS_isThere 0 = .ok (.iload_n 1, 1) := by decide +kernel
theorem d_CS_isThere_1 : decode b_CS_isThere 1 = .ok (.ifCond .lt 15, 3) := by decide +kernel
theorem d_CS_isThere_4 : decode b_CS_isThere 4 = .ok (.iload_n 1, 1) := by decide +kernel
theorem d_CS_isThere_5 : decode b_CS_isThere 5 = .ok (.aload_n 0, 1) := by decide +kernel
theorem d_CS_isThere_6 : decode b_CS_isThere 6 = .ok (.getfield 14, 3) := by decide +kernel
theorem d_CS_isThere_9 : decode b_CS_isThere 9 = .ok (.if_icmp .gt 7, 3) := by decide +kernel
theorem d_CS_isThere_12 : decode b_CS_isThere 12 = .ok (.iconst 1, 1) := by decide +kernel
theorem d_CS_isThere_13 : decode b_CS_isThere 13 = .ok (.goto 4, 3) := by decide +kernel
theorem d_CS_isThere_16 : decode b_CS_isThere 16 = .ok (.iconst 0, 1) := by decide +kernel
theorem d_CS_isThere_17 : decode b_CS_isThere 17 = .ok (.ireturn, 1) := by decide +kernel
theorem d_CS_isMissing_0 : decode b_CS_isMissing 0 = .ok (.aload_n 0, 1) := by decide +kernel
theorem d_CS_isMissing_1 : decode b_CS_isMissing 1 = .ok (.getfield 30, 3) := by decide +kernel
theorem d_CS_isMissing_4 : decode b_CS_isMissing 4 = .ok (.iload_n 2, 1) := by decide +kernel
theorem d_CS_isMissing_5 : decode b_CS_isMissing 5 = .ok (.invokevirtual 123, 3) := by decide +kernel
theorem d_CS_isMissing_8 : decode b_CS_isMissing 8 = .ok (.istore_n 3, 1) := by decide +kernel
theorem d_CS_isMissing_9 : decode b_CS_isMissing 9 = .ok (.iload_n 3, 1) := by decide +kernel
theorem d_CS_isMissing_10 : decode b_CS_isMissing 10 = .ok (.iload_n 2, 1) := by decide +kernel
theorem d_CS_isMissing_11 : decode b_CS_isMissing 11 = .ok (.if_icmp .eq 11, 3) := by decide +kernel
theorem d_CS_isMissing_14 : decode b_CS_isMissing 14 = .ok (.aload_n 1, 1) := by decide +kernel
theorem d_CS_isMissing_15 : decode b_CS_isMissing 15 = .ok (.iload_n 2, 1) := by decide +kernel
theorem d_CS_isMissing_16 : decode b_CS_isMissing 16 = .ok (.invokevirtual 96, 3) := by decide +kernel
theorem d_CS_isMissing_19 : decode b_CS_isMissing 19 = .ok (.ifCond .eq 5, 3) := by decide +kernel
theorem d_CS_isMissing_22 : decode b_CS_isMissing 22 = .ok (.iconst 0, 1) := by decide +kernel
theorem d_CS_isMissing_23 : decode b_CS_isMissing 23 = .ok (.ireturn, 1) := by decide +kernel
theorem d_CS_isMissing_24 : decode b_CS_isMissing 24 = .ok (.aload_n 1, 1) := by decide +kernel
theorem d_CS_isMissing_25 : decode b_CS_isMissing 25 = .ok (.iload_n 3, 1) := by decide +kernel
theorem d_CS_isMissing_26 : decode b_CS_isMissing 26 = .ok (.invokevirtual 96, 3) := by decide +kernel
theorem d_CS_isMissing_29 : decode b_CS_isMissing 29 = .ok (.ifCond .ne 18, 3) := by decide +kernel
theorem d_CS_isMissing_32 : decode b_CS_isMissing 32 = .ok (.aload_n 1, 1) := by decide +kernel
theorem d_CS_isMissing_33 : decode b_CS_isMissing 33 = .ok (.aload_n 0, 1) := by decide +kernel
theorem d_CS_isMissing_34 : decode b_CS_isMissing 34 = .ok (.getfield 30, 3) := by decide +kernel
theorem d_CS_isMissing_37 : decode b_CS_isMissing 37 = .ok (.iload_n 3, 1) := by decide +kernel
theorem d_CS_isMissing_38 : decode b_CS_isMissing 38 = .ok (.invokevirtual 123, 3) := by decide +kernel
theorem d_CS_isMissing_41 : decode b_CS_isMissing 41 = .ok (.invokevirtual 96, 3) := by decide +kernel
theorem d_CS_isMissing_44 : decode b_CS_isMissing 44 = .ok (.ifCond .eq 7, 3) := by decide +kernel
theorem d_CS_isMissing_47 : decode b_CS_isMissing 47 = .ok (.iconst 1, 1) := by decide +kernel
theorem d_CS_isMissing_48 : decode b_CS_isMissing 48 = .ok (.goto 4, 3) := by decide +kernel
theorem d_CS_isMissing_51 : decode b_CS_isMissing 51 = .ok (.iconst 0, 1) := by decide +kernel
theorem d_CS_isMissing_52 : decode b_CS_isMissing 52 = .ok (.ireturn, 1) := by decide +kernel
theorem d_CS_upperOf_0 : decode b_CS_upperOf 0 = .ok (.aload_n 0, 1) := by decide +kernel
theorem d_CS_upperOf_1 : decode b_CS_upperOf 1 = .ok (.getfield 21, 3) := by decide +kernel
theorem d_CS_upperOf_4 : decode b_CS_upperOf 4 = .ok (.iload_n 1, 1) := by decide +kernel
theorem d_CS_upperOf_5 : decode b_CS_upperOf 5 = .ok (.invokevirtual 111, 3) := by decide +kernel
theorem d_CS_upperOf_8 : decode b_CS_upperOf 8 = .ok (.iconst 4, 1) := by decide +kernel
theorem d_CS_upperOf_9 : decode b_CS_upperOf 9 = .ok (.if_icmp .eq 5, 3) := by decide +kernel
theorem d_CS_upperOf_12 : decode b_CS_upperOf 12 = .ok (.iload_n 1, 1) := by decide +kernel
theorem d_CS_upperOf_13 : decode b_CS_upperOf 13 = .ok (.ireturn, 1) := by decide +kernel
theorem d_CS_upperOf_14 : decode b_CS_upperOf 14 = .ok (.iload_n 1, 1) := by decide +kernel
theorem d_CS_upperOf_15 : decode b_CS_upperOf 15 = .ok (.istore_n 2, 1) := by decide +kernel
theorem d_CS_upperOf_16 : decode b_CS_upperOf 16 = .ok (.iload_n 1, 1) := by decide +kernel
theorem d_CS_upperOf_17 : decode b_CS_upperOf 17 = .ok (.istore_n 3, 1) := by decide +kernel
theorem d_CS_upperOf_18 : decode b_CS_upperOf 18 = .ok (.iconst 1, 1) := by decide +kernel
theorem d_CS_upperOf_19 : decode b_CS_upperOf 19 = .ok (.istore 4, 2) := by decide +kernel
theorem d_CS_upperOf_21 : decode b_CS_upperOf 21 = .ok (.iload 4, 2) := by decide +kernel
theorem d_CS_upperOf_23 : decode b_CS_upperOf 23 = .ok (.iconst 3, 1) := by decide +kernel
theorem d_CS_upperOf_24 : decode b_CS_upperOf 24 = .ok (.if_icmp .ge 55, 3) := by decide +kernel
theorem d_CS_upperOf_27 : decode b_CS_upperOf 27 = .ok (.aload_n 0, 1) := by decide +kernel
theorem d_CS_upperOf_28 : decode b_CS_upperOf 28 = .ok (.getfield 30, 3) := by decide +kernel
theorem d_CS_upperOf_31 : decode b_CS_upperOf 31 = .ok (.iload_n 3, 1) := by decide +kernel
theorem d_CS_upperOf_32 : decode b_CS_upperOf 32 = .ok (.invokevirtual 123, 3) := by decide +kernel
theorem d_CS_upperOf_35 : decode b_CS_upperOf 35 = .ok (.istore_n 3, 1) := by decide +kernel
theorem d_CS_upperOf_36 : decode b_CS_upperOf 36 = .ok (.iload_n 2, 1) := by decide +kernel
theorem d_CS_upperOf_37 : decode b_CS_upperOf 37 = .ok (.iload_n 1, 1) := by decide +kernel
theorem d_CS_upperOf_38 : decode b_CS_upperOf 38 = .ok (.if_icmp .eq 8, 3) := by decide +kernel
theorem d_CS_upperOf_41 : decode b_CS_upperOf 41 = .ok (.iload_n 3, 1) := by decide +kernel
theorem d_CS_upperOf_42 : decode b_CS_upperOf 42 = .ok (.iload_n 2, 1) := by decide +kernel
theorem d_CS_upperOf_43 : decode b_CS_upperOf 43 = .ok (.if_icmp .ge 7, 3) := by decide +kernel
theorem d_CS_upperOf_46 : decode b_CS_upperOf 46 = .ok (.iconst 1, 1) := by decide +kernel
theorem d_CS_upperOf_47 : decode b_CS_upperOf 47 = .ok (.goto 4, 3) := by decide +kernel
theorem d_CS_upperOf_50 : decode b_CS_upperOf 50 = .ok (.iconst 0, 1) := by decide +kernel
theorem d_CS_upperOf_51 : decode b_CS_upperOf 51 = .ok (.istore 5, 2) := by decide +kernel
theorem d_CS_upperOf_53 : decode b_CS_upperOf 53 = .ok (.iload 5, 2) := by decide +kernel
theorem d_CS_upperOf_55 : decode b_CS_upperOf 55 = .ok (.ifCond .eq 18, 3) := by decide +kernel
theorem d_CS_upperOf_58 : decode b_CS_upperOf 58 = .ok (.aload_n 0, 1) := by decide +kernel
theorem d_CS_upperOf_59 : decode b_CS_upperOf 59 = .ok (.getfield 21, 3) := by decide +kernel
theorem d_CS_upperOf_62 : decode b_CS_upperOf 62 = .ok (.iload_n 3, 1) := by decide +kernel
theorem d_CS_upperOf_63 : decode b_CS_upperOf 63 = .ok (.invokevirtual 111, 3) := by decide +kernel
theorem d_CS_upperOf_66 : decode b_CS_upperOf 66 = .ok (.bipush 6, 2) := by decide +kernel
theorem d_CS_upperOf_68 : decode b_CS_upperOf 68 = .ok (.if_icmp .ne 5, 3) := by decide +kernel
theorem d_CS_upperOf_71 : decode b_CS_upperOf 71 = .ok (.iload_n 3, 1) := by decide +kernel
theorem d_CS_upperOf_72 : decode b_CS_upperOf 72 = .ok (.istore_n 2, 1) := by decide +kernel
theorem d_CS_upperOf_73 : decode b_CS_upperOf 73 = .ok (.iinc 4 1, 3) := by decide +kernel
theorem d_CS_upperOf_76 : decode b_CS_upperOf 76 = .ok (.goto (-55), 3) := by decide +kernel
theorem d_CS_upperOf_79 : decode b_CS_upperOf 79 = .ok (.iload_n 2, 1) := by decide +kernel
theorem d_CS_upperOf_80 : decode b_CS_upperOf 80 = .ok (.ireturn, 1) := by decide +kernel
end
section
theorem d_CS_lowerOf_0 : decode b_CS_lowerOf 0 = .ok (.aload_n 0, 1) := by decide +kernel
theorem d_CS_lowerOf_1 : decode b_CS_lowerOf 1 = .ok (.getfield 21, 3) := by decide +kernel
theorem d_CS_lowerOf_4 : decode b_CS_lowerOf 4 = .ok (.iload_n 1, 1) := by decide +kernel
theorem d_CS_lowerOf_5 : decode b_CS_lowerOf 5 = .ok (.invokevirtual 111, 3) := by decide +kernel
theorem d_CS_lowerOf_8 : decode b_CS_lowerOf 8 = .ok (.bipush 6, 2) := by decide +kernel
theorem d_CS_lowerOf_10 : decode b_CS_lowerOf 10 = .ok (.if_icmp .eq 5, 3) := by decide +kernel
theorem d_CS_lowerOf_13 : decode b_CS_lowerOf 13 = .ok (.iload_n 1, 1) := by decide +kernel
theorem d_CS_lowerOf_14 : decode b_CS_lowerOf 14 = .ok (.ireturn, 1) := by decide +kernel
theorem d_CS_lowerOf_15 : decode b_CS_lowerOf 15 = .ok (.iload_n 1, 1) := by decide +kernel
theorem d_CS_lowerOf_16 : decode b_CS_lowerOf 16 = .ok (.istore_n 2, 1) := by decide +kernel
theorem d_CS_lowerOf_17 : decode b_CS_lowerOf 17 = .ok (.iconst 1, 1) := by decide +kernel
theorem d_CS_lowerOf_18 : decode b_CS_lowerOf 18 = .ok (.istore_n 3, 1) := by decide +kernel
theorem d_CS_lowerOf_19 : decode b_CS_lowerOf 19 = .ok (.iload_n 3, 1) := by decide +kernel
theorem d_CS_lowerOf_20 : decode b_CS_lowerOf 20 = .ok (.iconst 3, 1) := by decide +kernel
theorem d_CS_lowerOf_21 : decode b_CS_lowerOf 21 = .ok (.if_icmp .ge 65, 3) := by decide +kernel
theorem d_CS_lowerOf_24 : decode b_CS_lowerOf 24 = .ok (.aload_n 0, 1) := by decide +kernel
theorem d_CS_lowerOf_25 : decode b_CS_lowerOf 25 = .ok (.getfield 30, 3) := by decide +kernel
theorem d_CS_lowerOf_28 : decode b_CS_lowerOf 28 = .ok (.iload_n 2, 1) := by decide +kernel
theorem d_CS_lowerOf_29 : decode b_CS_lowerOf 29 = .ok (.invokevirtual 123, 3) := by decide +kernel
theorem d_CS_lowerOf_32 : decode b_CS_lowerOf 32 = .ok (.istore_n 2, 1) := by decide +kernel
theorem d_CS_lowerOf_33 : decode b_CS_lowerOf 33 = .ok (.iload_n 2, 1) := by decide +kernel
theorem d_CS_lowerOf_34 : decode b_CS_lowerOf 34 = .ok (.sipush 383, 3) := by decide +kernel
theorem d_CS_lowerOf_37 : decode b_CS_lowerOf 37 = .ok (.if_icmp .eq 17, 3) := by decide +kernel
theorem d_CS_lowerOf_40 : decode b_CS_lowerOf 40 = .ok (.iload_n 2, 1) := by decide +kernel
theorem d_CS_lowerOf_41 : decode b_CS_lowerOf 41 = .ok (.sipush 181, 3) := by decide +kernel
theorem d_CS_lowerOf_44 : decode b_CS_lowerOf 44 = .ok (.if_icmp .eq 10, 3) := by decide +kernel
theorem d_CS_lowerOf_47 : decode b_CS_lowerOf 47 = .ok (.iload_n 2, 1) := by decide +kernel
theorem d_CS_lowerOf_48 : decode b_CS_lowerOf 48 = .ok (.sipush 962, 3) := by decide +kernel
theorem d_CS_lowerOf_51 : decode b_CS_lowerOf 51 = .ok (.if_icmp .ne 7, 3) := by decide +kernel
theorem d_CS_lowerOf_54 : decode b_CS_lowerOf 54 = .ok (.iconst 1, 1) := by decide +kernel
theorem d_CS_lowerOf_55 : decode b_CS_lowerOf 55 = .ok (.goto 4, 3) := by decide +kernel
theorem d_CS_lowerOf_58 : decode b_CS_lowerOf 58 = .ok (.iconst 0, 1) := by decide +kernel
theorem d_CS_lowerOf_59 : decode b_CS_lowerOf 59 = .ok (.istore 4, 2) := by decide +kernel
theorem d_CS_lowerOf_61 : decode b_CS_lowerOf 61 = .ok (.iload 4, 2) := by decide +kernel
theorem d_CS_lowerOf_63 : decode b_CS_lowerOf 63 = .ok (.ifCond .ne 17, 3) := by decide +kernel
theorem d_CS_lowerOf_66 : decode b_CS_lowerOf 66 = .ok (.aload_n 0, 1) := by decide +kernel
theorem d_CS_lowerOf_67 : decode b_CS_lowerOf 67 = .ok (.getfield 21, 3) := by decide +kernel
theorem d_CS_lowerOf_70 : decode b_CS_lowerOf 70 = .ok (.iload_n 2, 1) := by decide +kernel
theorem d_CS_lowerOf_71 : decode b_CS_lowerOf 71 = .ok (.invokevirtual 111, 3) := by decide +kernel
theorem d_CS_lowerOf_74 : decode b_CS_lowerOf 74 = .ok (.iconst 4, 1) := by decide +kernel
theorem d_CS_lowerOf_75 : decode b_CS_lowerOf 75 = .ok (.if_icmp .ne 5, 3) := by decide +kernel
theorem d_CS_lowerOf_78 : decode b_CS_lowerOf 78 = .ok (.iload_n 2, 1) := by decide +kernel
theorem d_CS_lowerOf_79 : decode b_CS_lowerOf 79 = .ok (.ireturn, 1) := by decide +kernel
theorem d_CS_lowerOf_80 : decode b_CS_lowerOf 80 = .ok (.iinc 3 1, 3) := by decide +kernel
theorem d_CS_lowerOf_83 : decode b_CS_lowerOf 83 = .ok (.goto (-64), 3) := by decide +kernel
theorem d_CS_lowerOf_86 : decode b_CS_lowerOf 86 = .ok (.iload_n 1, 1) := by decide +kernel
theorem d_CS_lowerOf_87 : decode b_CS_lowerOf 87 = .ok (.ireturn, 1) := by decide +kernel
theorem d_CS_addGathered_0 : decode b_CS_addGathered 0 = .ok (.iload_n 2, 1) := by decide +kernel
theorem d_CS_addGathered_1 : decode b_CS_addGathered 1 = .ok (.ifCond .eq 14, 3) := by decide +kernel
theorem d_CS_addGathered_4 : decode b_CS_addGathered 4 = .ok (.aload_n 0, 1) := by decide +kernel
theorem d_CS_addGathered_5 : decode b_CS_addGathered 5 = .ok (.getfield 37, 3) := by decide +kernel
theorem d_CS_addGathered_8 : decode b_CS_addGathered 8 = .ok (.aload_n 0, 1) := by decide +kernel
theorem d_CS_addGathered_9 : decode b_CS_addGathered 9 = .ok (.getfield 14, 3) := by decide +kernel
theorem d_CS_addGathered_12 : decode b_CS_addGathered 12 = .ok (.invokevirtual 82, 3) := by decide +kernel
theorem d_CS_addGathered_15 : decode b_CS_addGathered 15 = .ok (.aload_n 1, 1) := by decide +kernel
theorem d_CS_addGathered_16 : decode b_CS_addGathered 16 = .ok (.aload_n 0, 1) := by decide +kernel
theorem d_CS_addGathered_17 : decode b_CS_addGathered 17 = .ok (.getfield 37, 3) := by decide +kernel
theorem d_CS_addGathered_20 : decode b_CS_addGathered 20 = .ok (.invokevirtual 85, 3) := by decide +kernel
theorem d_CS_addGathered_23 : decode b_CS_addGathered 23 = .ok (.aload_n 1, 1) := by decide +kernel
theorem d_CS_addGathered_24 : decode b_CS_addGathered 24 = .ok (.invokevirtual 59, 3) := by decide +kernel
theorem d_CS_addGathered_27 : decode b_CS_addGathered 27 = .ok (.ireturn, 1) := by decide +kernel
theorem d_CS_gatherProperty_0 : decode b_CS_gatherProperty 0 = .ok (.iload_n 1, 1) := by decide +kernel
theorem d_CS_gatherProperty_1 : decode b_CS_gatherProperty 1 = .ok (.bipush 32, 2) := by decide +kernel
theorem d_CS_gatherProperty_3 : decode b_CS_gatherProperty 3 = .ok (.if_icmp .lt 18, 3) := by decide +kernel
theorem d_CS_gatherProperty_6 : decode b_CS_gatherProperty 6 = .ok (.iload_n 1, 1) := by decide +kernel
theorem d_CS_gatherProperty_7 : decode b_CS_gatherProperty 7 = .ok (.bipush 44, 2) := by decide +kernel
theorem d_CS_gatherProperty_9 : decode b_CS_gatherProperty 9 = .ok (.if_icmp .ge 12, 3) := by decide +kernel
theorem d_CS_gatherProperty_12 : decode b_CS_gatherProperty 12 = .ok (.aload_n 0, 1) := by decide +kernel
theorem d_CS_gatherProperty_13 : decode b_CS_gatherProperty 13 = .ok (.iload_n 1, 1) := by decide +kernel
theorem d_CS_gatherProperty_14 : decode b_CS_gatherProperty 14 = .ok (.bipush 32, 2) := by decide +kernel
theorem d_CS_gatherProperty_16 : decode b_CS_gatherProperty 16 = .ok (.isub, 1) := by decide +kernel
theorem d_CS_gatherProperty_17 : decode b_CS_gatherProperty 17 = .ok (.invokevirtual 126, 3) := by decide +kernel
theorem d_CS_gatherProperty_20 : decode b_CS_gatherProperty 20 = .ok (.return_, 1) := by decide +kernel
theorem d_CS_gatherProperty_21 : decode b_CS_gatherProperty 21 = .ok (.aload_n 0, 1) := by decide +kernel
theorem d_CS_gatherProperty_22 : decode b_CS_gatherProperty 22 = .ok (.iload_n 1, 1) := by decide +kernel
theorem d_CS_gatherProperty_23 : decode b_CS_gatherProperty 23 = .ok (.invokestatic 129, 3) := by decide +kernel
theorem d_CS_gatherProperty_26 : decode b_CS_gatherProperty 26 = .ok (.aload_n 0, 1) := by decide +kernel
theorem d_CS_gatherProperty_27 : decode b_CS_gatherProperty 27 = .ok (.getfield 14, 3) := by decide +kernel
theorem d_CS_gatherProperty_30 : decode b_CS_gatherProperty 30 = .ok (.invokevirtual 132, 3) := by decide +kernel
theorem d_CS_gatherProperty_33 : decode b_CS_gatherProperty 33 = .ok (.iload_n 1, 1) := by decide +kernel
theorem d_CS_gatherProperty_34 : decode b_CS_gatherProperty 34 = .ok (.bipush 47, 2) := by decide +kernel
theorem d_CS_gatherProperty_36 : decode b_CS_gatherProperty 36 = .ok (.if_icmp .ne 11, 3) := by decide +kernel
theorem d_CS_gatherProperty_39 : decode b_CS_gatherProperty 39 = .ok (.aload_n 0, 1) := by decide +kernel
theorem d_CS_gatherProperty_40 : decode b_CS_gatherProperty 40 = .ok (.bipush 95, 2) := by decide +kernel
theorem d_CS_gatherProperty_42 : decode b_CS_gatherProperty 42 = .ok (.bipush 95, 2) := by decide +kernel
theorem d_CS_gatherProperty_44 : decode b_CS_gatherProperty 44 = .ok (.invokevirtual 135, 3) := by decide +kernel
theorem d_CS_gatherProperty_47 : decode b_CS_gatherProperty 47 = .ok (.iload_n 1, 1) := by decide +kernel
theorem d_CS_gatherProperty_48 : decode b_CS_gatherProperty 48 = .ok (.bipush 48, 2) := by decide +kernel
theorem d_CS_gatherProperty_50 : decode b_CS_gatherProperty 50 = .ok (.if_icmp .ne 21, 3) := by decide +kernel
theorem d_CS_gatherProperty_53 : decode b_CS_gatherProperty 53 = .ok (.aload_n 0, 1) := by decide +kernel
theorem d_CS_gatherProperty_54 : decode b_CS_gatherProperty 54 = .ok (.bipush 9, 2) := by decide +kernel
theorem d_CS_gatherProperty_56 : decode b_CS_gatherProperty 56 = .ok (.bipush 13, 2) := by decide +kernel
theorem d_CS_gatherProperty_58 : decode b_CS_gatherProperty 58 = .ok (.invokevirtual 135, 3) := by decide +kernel
theorem d_CS_gatherProperty_61 : decode b_CS_gatherProperty 61 = .ok (.aload_n 0, 1) := by decide +kernel
theorem d_CS_gatherProperty_62 : decode b_CS_gatherProperty 62 = .ok (.sipush 133, 3) := by decide +kernel
theorem d_CS_gatherProperty_65 : decode b_CS_gatherProperty 65 = .ok (.sipush 133, 3) := by decide +kernel
theorem d_CS_gatherProperty_68 : decode b_CS_gatherProperty 68 = .ok (.invokevirtual 135, 3) := by decide +kernel
theorem d_CS_gatherProperty_71 : decode b_CS_gatherProperty 71 = .ok (.return_, 1) := by decide +kernel
theorem d_CS_categoriesOf_0 : decode b_CS_categoriesOf 0 = .ok (.iload_n 0, 1) := by decide +kernel
theorem d_CS_categoriesOf_1 : decode b_CS_categoriesOf 1 = .ok (.ifCond .lt 13, 3) := by decide +kernel
theorem d_CS_categoriesOf_4 : decode b_CS_categoriesOf 4 = .ok (.iload_n 0, 1) := by decide +kernel
theorem d_CS_categoriesOf_5 : decode b_CS_categoriesOf 5 = .ok (.bipush 25, 2) := by decide +kernel
theorem d_CS_categoriesOf_7 : decode b_CS_categoriesOf 7 = .ok (.if_icmp .ge 7, 3) := by decide +kernel
theorem d_CS_categoriesOf_10 : decode b_CS_categoriesOf 10 = .ok (.iconst 1, 1) := by decide +kernel
theorem d_CS_categoriesOf_11 : decode b_CS_categoriesOf 11 = .ok (.iload_n 0, 1) := by decide +kernel
theorem d_CS_categoriesOf_12 : decode b_CS_categoriesOf 12 = .ok (.ishl, 1) := by decide +kernel
theorem d_CS_categoriesOf_13 : decode b_CS_categoriesOf 13 = .ok (.ireturn, 1) := by decide +kernel
theorem d_CS_categoriesOf_14 : decode b_CS_categoriesOf 14 = .ok (.iload_n 0, 1) := by decide +kernel
theorem d_CS_categoriesOf_15 : decode b_CS_categoriesOf 15 = .ok (.bipush 25, 2) := by decide +kernel
theorem d_CS_categoriesOf_17 : decode b_CS_categoriesOf 17 = .ok (.if_icmp .lt 18, 3) := by decide +kernel
theorem d_CS_categoriesOf_20 : decode b_CS_categoriesOf 20 = .ok (.iload_n 0, 1) := by decide +kernel
theorem d_CS_categoriesOf_21 : decode b_CS_categoriesOf 21 = .ok (.bipush 32, 2) := by decide +kernel
theorem d_CS_categoriesOf_23 : decode b_CS_categoriesOf 23 = .ok (.if_icmp .ge 12, 3) := by decide +kernel
theorem d_CS_categoriesOf_26 : decode b_CS_categoriesOf 26 = .ok (.getstatic 138, 3) := by decide +kernel
theorem d_CS_categoriesOf_29 : decode b_CS_categoriesOf 29 = .ok (.iload_n 0, 1) := by decide +kernel
theorem d_CS_categoriesOf_30 : decode b_CS_categoriesOf 30 = .ok (.bipush 25, 2) := by decide +kernel
theorem d_CS_categoriesOf_32 : decode b_CS_categoriesOf 32 = .ok (.isub, 1) := by decide +kernel
theorem d_CS_categoriesOf_33 : decode b_CS_categoriesOf 33 = .ok (.iaload, 1) := by decide +kernel
theorem d_CS_categoriesOf_34 : decode b_CS_categoriesOf 34 = .ok (.ireturn, 1) := by decide +kernel
theorem d_CS_categoriesOf_35 : decode b_CS_categoriesOf 35 = .ok (.iload_n 0, 1) := by decide +kernel
theorem d_CS_categoriesOf_36 : decode b_CS_categoriesOf 36 = .ok (.tableswitch 49 44 48 #[36, 39, 42, 42, 46], 36) := by decide +kernel
theorem d_CS_categoriesOf_72 : decode b_CS_categoriesOf 72 = .ok (.ldc 142, 2) := by decide +kernel
theorem d_CS_categoriesOf_74 : decode b_CS_categoriesOf 74 = .ok (.ireturn, 1) := by decide +kernel
theorem d_CS_categoriesOf_75 : decode b_CS_categoriesOf 75 = .ok (.bipush 80, 2) := by decide +kernel
theorem d_CS_categoriesOf_77 : decode b_CS_categoriesOf 77 = .ok (.ireturn, 1) := by decide +kernel
theorem d_CS_categoriesOf_78 : decode b_CS_categoriesOf 78 = .ok (.sipush 1904, 3) := by decide +kernel
theorem d_CS_categoriesOf_81 : decode b_CS_categoriesOf 81 = .ok (.ireturn, 1) := by decide +kernel
theorem d_CS_categoriesOf_82 : decode b_CS_categoriesOf 82 = .ok (.ldc 143, 2) := by decide +kernel
theorem d_CS_categoriesOf_84 : decode b_CS_categoriesOf 84 = .ok (.ireturn, 1) := by decide +kernel
theorem d_CS_categoriesOf_85 : decode b_CS_categoriesOf 85 = .ok (.iconst 0, 1) := by decide +kernel
theorem d_CS_categoriesOf_86 : decode b_CS_categoriesOf 86 = .ok (.ireturn, 1) := by decide +kernel
theorem d_CS_gatherNamed_0 : decode b_CS_gatherNamed 0 = .ok (.aload_n 0, 1) := by decide +kernel
theorem d_CS_gatherNamed_1 : decode b_CS_gatherNamed 1 = .ok (.getfield 9, 3) := by decide +kernel
theorem d_CS_gatherNamed_4 : decode b_CS_gatherNamed 4 = .ok (.ifCond .ne 12, 3) := by decide +kernel
theorem d_CS_gatherNamed_7 : decode b_CS_gatherNamed 7 = .ok (.aload_n 0, 1) := by decide +kernel
theorem d_CS_gatherNamed_8 : decode b_CS_gatherNamed 8 = .ok (.iload_n 1, 1) := by decide +kernel
theorem d_CS_gatherNamed_9 : decode b_CS_gatherNamed 9 = .ok (.invokestatic 144, 3) := by decide +kernel
theorem d_CS_gatherNamed_12 : decode b_CS_gatherNamed 12 = .ok (.invokevirtual 148, 3) := by decide +kernel
theorem d_CS_gatherNamed_15 : decode b_CS_gatherNamed 15 = .ok (.return_, 1) := by decide +kernel
theorem d_CS_gatherNamed_16 : decode b_CS_gatherNamed 16 = .ok (.iload_n 1, 1) := by decide +kernel
theorem d_CS_gatherNamed_17 : decode b_CS_gatherNamed 17 = .ok (.invokestatic 152, 3) := by decide +kernel
theorem d_CS_gatherNamed_20 : decode b_CS_gatherNamed 20 = .ok (.istore_n 2, 1) := by decide +kernel
theorem d_CS_gatherNamed_21 : decode b_CS_gatherNamed 21 = .ok (.iload_n 2, 1) := by decide +kernel
theorem d_CS_gatherNamed_22 : decode b_CS_gatherNamed 22 = .ok (.iconst (-1), 1) := by decide +kernel
theorem d_CS_gatherNamed_23 : decode b_CS_gatherNamed 23 = .ok (.if_icmp .eq 9, 3) := by decide +kernel
theorem d_CS_gatherNamed_26 : decode b_CS_gatherNamed 26 = .ok (.aload_n 0, 1) := by decide +kernel
theorem d_CS_gatherNamed_27 : decode b_CS_gatherNamed 27 = .ok (.iload_n 2, 1) := by decide +kernel
theorem d_CS_gatherNamed_28 : decode b_CS_gatherNamed 28 = .ok (.invokevirtual 63, 3) := by decide +kernel
theorem d_CS_gatherNamed_31 : decode b_CS_gatherNamed 31 = .ok (.return_, 1) := by decide +kernel
theorem d_CS_gatherNamed_32 : decode b_CS_gatherNamed 32 = .ok (.iload_n 1, 1) := by decide +kernel
theorem d_CS_gatherNamed_33 : decode b_CS_gatherNamed 33 = .ok (.tableswitch 92 12 16 #[35, 92, 45, 58, 71], 35) := by decide +kernel
theorem d_CS_gatherNamed_68 : decode b_CS_gatherNamed 68 = .ok (.aload_n 0, 1) := by decide +kernel
theorem d_CS_gatherNamed_69 : decode b_CS_gatherNamed 69 = .ok (.getstatic 155, 3) := by decide +kernel
theorem d_CS_gatherNamed_72 : decode b_CS_gatherNamed 72 = .ok (.invokevirtual 148, 3) := by decide +kernel
theorem d_CS_gatherNamed_75 : decode b_CS_gatherNamed 75 = .ok (.goto 58, 3) := by decide +kernel
theorem d_CS_gatherNamed_78 : decode b_CS_gatherNamed 78 = .ok (.aload_n 0, 1) := by decide +kernel
theorem d_CS_gatherNamed_79 : decode b_CS_gatherNamed 79 = .ok (.ldc 158, 2) := by decide +kernel
theorem d_CS_gatherNamed_81 : decode b_CS_gatherNamed 81 = .ok (.aload_n 0, 1) := by decide +kernel
theorem d_CS_gatherNamed_82 : decode b_CS_gatherNamed 82 = .ok (.getfield 14, 3) := by decide +kernel
theorem d_CS_gatherNamed_85 : decode b_CS_gatherNamed 85 = .ok (.invokevirtual 132, 3) := by decide +kernel
theorem d_CS_gatherNamed_88 : decode b_CS_gatherNamed 88 = .ok (.goto 45, 3) := by decide +kernel
theorem d_CS_gatherNamed_91 : decode b_CS_gatherNamed 91 = .ok (.aload_n 0, 1) := by decide +kernel
theorem d_CS_gatherNamed_92 : decode b_CS_gatherNamed 92 = .ok (.ldc 159, 2) := by decide +kernel
theorem d_CS_gatherNamed_94 : decode b_CS_gatherNamed 94 = .ok (.aload_n 0, 1) := by decide +kernel
theorem d_CS_gatherNamed_95 : decode b_CS_gatherNamed 95 = .ok (.getfield 14, 3) := by decide +kernel
theorem d_CS_gatherNamed_98 : decode b_CS_gatherNamed 98 = .ok (.invokevirtual 132, 3) := by decide +kernel
theorem d_CS_gatherNamed_101 : decode b_CS_gatherNamed 101 = .ok (.goto 32, 3) := by decide +kernel
theorem d_CS_gatherNamed_104 : decode b_CS_gatherNamed 104 = .ok (.aload_n 0, 1) := by decide +kernel
theorem d_CS_gatherNamed_105 : decode b_CS_gatherNamed 105 = .ok (.ldc 160, 2) := by decide +kernel
theorem d_CS_gatherNamed_107 : decode b_CS_gatherNamed 107 = .ok (.aload_n 0, 1) := by decide +kernel
theorem d_CS_gatherNamed_108 : decode b_CS_gatherNamed 108 = .ok (.getfield 14, 3) := by decide +kernel
theorem d_CS_gatherNamed_111 : decode b_CS_gatherNamed 111 = .ok (.invokevirtual 132, 3) := by decide +kernel
theorem d_CS_gatherNamed_114 : decode b_CS_gatherNamed 114 = .ok (.aload_n 0, 1) := by decide +kernel
theorem d_CS_gatherNamed_115 : decode b_CS_gatherNamed 115 = .ok (.ldc 161, 2) := by decide +kernel
theorem d_CS_gatherNamed_117 : decode b_CS_gatherNamed 117 = .ok (.bipush 127, 2) := by decide +kernel
theorem d_CS_gatherNamed_119 : decode b_CS_gatherNamed 119 = .ok (.invokevirtual 132, 3) := by decide +kernel
theorem d_CS_gatherNamed_122 : decode b_CS_gatherNamed 122 = .ok (.goto 11, 3) := by decide +kernel
theorem d_CS_gatherNamed_125 : decode b_CS_gatherNamed 125 = .ok (.aload_n 0, 1) := by decide +kernel
theorem d_CS_gatherNamed_126 : decode b_CS_gatherNamed 126 = .ok (.iload_n 1, 1) := by decide +kernel
theorem d_CS_gatherNamed_127 : decode b_CS_gatherNamed 127 = .ok (.invokestatic 144, 3) := by decide +kernel
theorem d_CS_gatherNamed_130 : decode b_CS_gatherNamed 130 = .ok (.invokevirtual 148, 3) := by decide +kernel
theorem d_CS_gatherNamed_133 : decode b_CS_gatherNamed 133 = .ok (.return_, 1) := by decide +kernel
theorem d_CS_propertyOf_0 : decode b_CS_propertyOf 0 = .ok (.iload_n 0, 1) := by decide +kernel
theorem d_CS_propertyOf_1 : decode b_CS_propertyOf 1 = .ok (.tableswitch 93 0 13 #[71, 74, 77, 93, 93, 80, 83, 85, 71, 88, 74, 77, 93, 91], 71) := by decide +kernel
theorem d_CS_propertyOf_72 : decode b_CS_propertyOf 72 = .ok (.bipush 8, 2) := by decide +kernel
theorem d_CS_propertyOf_74 : decode b_CS_propertyOf 74 = .ok (.ireturn, 1) := by decide +kernel
theorem d_CS_propertyOf_75 : decode b_CS_propertyOf 75 = .ok (.bipush 47, 2) := by decide +kernel
theorem d_CS_propertyOf_77 : decode b_CS_propertyOf 77 = .ok (.ireturn, 1) := by decide +kernel
theorem d_CS_propertyOf_78 : decode b_CS_propertyOf 78 = .ok (.bipush 48, 2) := by decide +kernel
theorem d_CS_propertyOf_80 : decode b_CS_propertyOf 80 = .ok (.ireturn, 1) := by decide +kernel
theorem d_CS_propertyOf_81 : decode b_CS_propertyOf 81 = .ok (.bipush 26, 2) := by decide +kernel
theorem d_CS_propertyOf_83 : decode b_CS_propertyOf 83 = .ok (.ireturn, 1) := by decide +kernel
theorem d_CS_propertyOf_84 : decode b_CS_propertyOf 84 = .ok (.iconst 4, 1) := by decide +kernel
theorem d_CS_propertyOf_85 : decode b_CS_propertyOf 85 = .ok (.ireturn, 1) := by decide +kernel
theorem d_CS_propertyOf_86 : decode b_CS_propertyOf 86 = .ok (.bipush 6, 2) := by decide +kernel
theorem d_CS_propertyOf_88 : decode b_CS_propertyOf 88 = .ok (.ireturn, 1) := by decide +kernel
theorem d_CS_propertyOf_89 : decode b_CS_propertyOf 89 = .ok (.bipush 46, 2) := by decide +kernel
theorem d_CS_propertyOf_91 : decode b_CS_propertyOf 91 = .ok (.ireturn, 1) := by decide +kernel
theorem d_CS_propertyOf_92 : decode b_CS_propertyOf 92 = .ok (.iconst 1, 1) := by decide +kernel
theorem d_CS_propertyOf_93 : decode b_CS_propertyOf 93 = .ok (.ireturn, 1) := by decide +kernel
theorem d_CS_propertyOf_94 : decode b_CS_propertyOf 94 = .ok (.iconst (-1), 1) := by decide +kernel
theorem d_CS_propertyOf_95 : decode b_CS_propertyOf 95 = .ok (.ireturn, 1) := by decide +kernel
theorem d_CS_listOf_0 : decode b_CS_listOf 0 = .ok (.iload_n 0, 1) := by decide +kernel
theorem d_CS_listOf_1 : decode b_CS_listOf 1 = .ok (.tableswitch 155 0 18 #[91, 95, 99, 103, 107, 111, 115, 119, 91, 123, 95, 99, 127, 131, 135, 139, 143, 147, 151], 91) := by decide +kernel
theorem d_CS_listOf_92 : decode b_CS_listOf 92 = .ok (.getstatic 162, 3) := by decide +kernel
theorem d_CS_listOf_95 : decode b_CS_listOf 95 = .ok (.areturn, 1) := by decide +kernel
theorem d_CS_listOf_96 : decode b_CS_listOf 96 = .ok (.getstatic 165, 3) := by decide +kernel
theorem d_CS_listOf_99 : decode b_CS_listOf 99 = .ok (.areturn, 1) := by decide +kernel
theorem d_CS_listOf_100 : decode b_CS_listOf 100 = .ok (.getstatic 168, 3) := by decide +kernel
theorem d_CS_listOf_103 : decode b_CS_listOf 103 = .ok (.areturn, 1) := by decide +kernel
theorem d_CS_listOf_104 : decode b_CS_listOf 104 = .ok (.getstatic 155, 3) := by decide +kernel
theorem d_CS_listOf_107 : decode b_CS_listOf 107 = .ok (.areturn, 1) := by decide +kernel
theorem d_CS_listOf_108 : decode b_CS_listOf 108 = .ok (.getstatic 171, 3) := by decide +kernel
theorem d_CS_listOf_111 : decode b_CS_listOf 111 = .ok (.areturn, 1) := by decide +kernel
theorem d_CS_listOf_112 : decode b_CS_listOf 112 = .ok (.getstatic 174, 3) := by decide +kernel
theorem d_CS_listOf_115 : decode b_CS_listOf 115 = .ok (.areturn, 1) := by decide +kernel
theorem d_CS_listOf_116 : decode b_CS_listOf 116 = .ok (.getstatic 177, 3) := by decide +kernel
theorem d_CS_listOf_119 : decode b_CS_listOf 119 = .ok (.areturn, 1) := by decide +kernel
theorem d_CS_listOf_120 : decode b_CS_listOf 120 = .ok (.getstatic 180, 3) := by decide +kernel
theorem d_CS_listOf_123 : decode b_CS_listOf 123 = .ok (.areturn, 1) := by decide +kernel
theorem d_CS_listOf_124 : decode b_CS_listOf 124 = .ok (.getstatic 183, 3) := by decide +kernel
theorem d_CS_listOf_127 : decode b_CS_listOf 127 = .ok (.areturn, 1) := by decide +kernel
theorem d_CS_listOf_128 : decode b_CS_listOf 128 = .ok (.getstatic 186, 3) := by decide +kernel
theorem d_CS_listOf_131 : decode b_CS_listOf 131 = .ok (.areturn, 1) := by decide +kernel
theorem d_CS_listOf_132 : decode b_CS_listOf 132 = .ok (.getstatic 189, 3) := by decide +kernel
theorem d_CS_listOf_135 : decode b_CS_listOf 135 = .ok (.areturn, 1) := by decide +kernel
theorem d_CS_listOf_136 : decode b_CS_listOf 136 = .ok (.getstatic 192, 3) := by decide +kernel
theorem d_CS_listOf_139 : decode b_CS_listOf 139 = .ok (.areturn, 1) := by decide +kernel
theorem d_CS_listOf_140 : decode b_CS_listOf 140 = .ok (.getstatic 195, 3) := by decide +kernel
theorem d_CS_listOf_143 : decode b_CS_listOf 143 = .ok (.areturn, 1) := by decide +kernel
theorem d_CS_listOf_144 : decode b_CS_listOf 144 = .ok (.getstatic 198, 3) := by decide +kernel
theorem d_CS_listOf_147 : decode b_CS_listOf 147 = .ok (.areturn, 1) := by decide +kernel
theorem d_CS_listOf_148 : decode b_CS_listOf 148 = .ok (.getstatic 201, 3) := by decide +kernel
theorem d_CS_listOf_151 : decode b_CS_listOf 151 = .ok (.areturn, 1) := by decide +kernel
theorem d_CS_listOf_152 : decode b_CS_listOf 152 = .ok (.getstatic 204, 3) := by decide +kernel
theorem d_CS_listOf_155 : decode b_CS_listOf 155 = .ok (.areturn, 1) := by decide +kernel
theorem d_CS_listOf_156 : decode b_CS_listOf 156 = .ok (.getstatic 207, 3) := by decide +kernel
theorem d_CS_listOf_159 : decode b_CS_listOf 159 = .ok (.areturn, 1) := by decide +kernel
theorem d_CS_gatherList_0 : decode b_CS_gatherList 0 = .ok (.iconst 0, 1) := by decide +kernel
theorem d_CS_gatherList_1 : decode b_CS_gatherList 1 = .ok (.istore_n 2, 1) := by decide +kernel
theorem d_CS_gatherList_2 : decode b_CS_gatherList 2 = .ok (.iload_n 2, 1) := by decide +kernel
theorem d_CS_gatherList_3 : decode b_CS_gatherList 3 = .ok (.iconst 1, 1) := by decide +kernel
theorem d_CS_gatherList_4 : decode b_CS_gatherList 4 = .ok (.iadd, 1) := by decide +kernel
theorem d_CS_gatherList_5 : decode b_CS_gatherList 5 = .ok (.aload_n 1, 1) := by decide +kernel
theorem d_CS_gatherList_6 : decode b_CS_gatherList 6 = .ok (.arraylength, 1) := by decide +kernel
theorem d_CS_gatherList_7 : decode b_CS_gatherList 7 = .ok (.if_icmp .ge 21, 3) := by decide +kernel
theorem d_CS_gatherList_10 : decode b_CS_gatherList 10 = .ok (.aload_n 0, 1) := by decide +kernel
theorem d_CS_gatherList_11 : decode b_CS_gatherList 11 = .ok (.aload_n 1, 1) := by decide +kernel
theorem d_CS_gatherList_12 : decode b_CS_gatherList 12 = .ok (.iload_n 2, 1) := by decide +kernel
theorem d_CS_gatherList_13 : decode b_CS_gatherList 13 = .ok (.iaload, 1) := by decide +kernel
theorem d_CS_gatherList_14 : decode b_CS_gatherList 14 = .ok (.aload_n 1, 1) := by decide +kernel
theorem d_CS_gatherList_15 : decode b_CS_gatherList 15 = .ok (.iload_n 2, 1) := by decide +kernel
theorem d_CS_gatherList_16 : decode b_CS_gatherList 16 = .ok (.iconst 1, 1) := by decide +kernel
theorem d_CS_gatherList_17 : decode b_CS_gatherList 17 = .ok (.iadd, 1) := by decide +kernel
theorem d_CS_gatherList_18 : decode b_CS_gatherList 18 = .ok (.iaload, 1) := by decide +kernel
theorem d_CS_gatherList_19 : decode b_CS_gatherList 19 = .ok (.invokevirtual 135, 3) := by decide +kernel
theorem d_CS_gatherList_22 : decode b_CS_gatherList 22 = .ok (.iinc 2 2, 3) := by decide +kernel
theorem d_CS_gatherList_25 : decode b_CS_gatherList 25 = .ok (.goto (-23), 3) := by decide +kernel
theorem d_CS_gatherList_28 : decode b_CS_gatherList 28 = .ok (.return_, 1) := by decide +kernel
theorem d_CS_gatherCategories_0 : decode b_CS_gatherCategories 0 = .ok (.iconst 0, 1) := by decide +kernel
theorem d_CS_gatherCategories_1 : decode b_CS_gatherCategories 1 = .ok (.istore_n 3, 1) := by decide +kernel
theorem d_CS_gatherCategories_2 : decode b_CS_gatherCategories 2 = .ok (.iload_n 3, 1) := by decide +kernel
theorem d_CS_gatherCategories_3 : decode b_CS_gatherCategories 3 = .ok (.aload_n 0, 1) := by decide +kernel
theorem d_CS_gatherCategories_4 : decode b_CS_gatherCategories 4 = .ok (.getfield 21, 3) := by decide +kernel
theorem d_CS_gatherCategories_7 : decode b_CS_gatherCategories 7 = .ok (.invokevirtual 210, 3) := by decide +kernel
theorem d_CS_gatherCategories_10 : decode b_CS_gatherCategories 10 = .ok (.if_icmp .ge 48, 3) := by decide +kernel
theorem d_CS_gatherCategories_13 : decode b_CS_gatherCategories 13 = .ok (.iload_n 1, 1) := by decide +kernel
theorem d_CS_gatherCategories_14 : decode b_CS_gatherCategories 14 = .ok (.aload_n 0, 1) := by decide +kernel
theorem d_CS_gatherCategories_15 : decode b_CS_gatherCategories 15 = .ok (.getfield 21, 3) := by decide +kernel
theorem d_CS_gatherCategories_18 : decode b_CS_gatherCategories 18 = .ok (.iload_n 3, 1) := by decide +kernel
theorem d_CS_gatherCategories_19 : decode b_CS_gatherCategories 19 = .ok (.invokevirtual 213, 3) := by decide +kernel
theorem d_CS_gatherCategories_22 : decode b_CS_gatherCategories 22 = .ok (.ishr, 1) := by decide +kernel
theorem d_CS_gatherCategories_23 : decode b_CS_gatherCategories 23 = .ok (.iconst 1, 1) := by decide +kernel
theorem d_CS_gatherCategories_24 : decode b_CS_gatherCategories 24 = .ok (.iand, 1) := by decide +kernel
theorem d_CS_gatherCategories_25 : decode b_CS_gatherCategories 25 = .ok (.ifCond .eq 27, 3) := by decide +kernel
theorem d_CS_gatherCategories_28 : decode b_CS_gatherCategories 28 = .ok (.aload_n 0, 1) := by decide +kernel
theorem d_CS_gatherCategories_29 : decode b_CS_gatherCategories 29 = .ok (.aload_n 0, 1) := by decide +kernel
theorem d_CS_gatherCategories_30 : decode b_CS_gatherCategories 30 = .ok (.getfield 21, 3) := by decide +kernel
theorem d_CS_gatherCategories_33 : decode b_CS_gatherCategories 33 = .ok (.iload_n 3, 1) := by decide +kernel
theorem d_CS_gatherCategories_34 : decode b_CS_gatherCategories 34 = .ok (.invokevirtual 216, 3) := by decide +kernel
theorem d_CS_gatherCategories_37 : decode b_CS_gatherCategories 37 = .ok (.aload_n 0, 1) := by decide +kernel
theorem d_CS_gatherCategories_38 : decode b_CS_gatherCategories 38 = .ok (.getfield 21, 3) := by decide +kernel
theorem d_CS_gatherCategories_41 : decode b_CS_gatherCategories 41 = .ok (.iload_n 3, 1) := by decide +kernel
theorem d_CS_gatherCategories_42 : decode b_CS_gatherCategories 42 = .ok (.invokevirtual 219, 3) := by decide +kernel
theorem d_CS_gatherCategories_45 : decode b_CS_gatherCategories 45 = .ok (.iload_n 2, 1) := by decide +kernel
theorem d_CS_gatherCategories_46 : decode b_CS_gatherCategories 46 = .ok (.invokestatic 222, 3) := by decide +kernel
theorem d_CS_gatherCategories_49 : decode b_CS_gatherCategories 49 = .ok (.invokevirtual 135, 3) := by decide +kernel
theorem d_CS_gatherCategories_52 : decode b_CS_gatherCategories 52 = .ok (.iinc 3 1, 3) := by decide +kernel
theorem d_CS_gatherCategories_55 : decode b_CS_gatherCategories 55 = .ok (.goto (-53), 3) := by decide +kernel
theorem d_CS_gatherCategories_58 : decode b_CS_gatherCategories 58 = .ok (.return_, 1) := by decide +kernel
theorem d_CS_gatherScript_0 : decode b_CS_gatherScript 0 = .ok (.iconst 0, 1) := by decide +kernel
theorem d_CS_gatherScript_1 : decode b_CS_gatherScript 1 = .ok (.istore_n 2, 1) := by decide +kernel
theorem d_CS_gatherScript_2 : decode b_CS_gatherScript 2 = .ok (.iload_n 2, 1) := by decide +kernel
theorem d_CS_gatherScript_3 : decode b_CS_gatherScript 3 = .ok (.aload_n 0, 1) := by decide +kernel
theorem d_CS_gatherScript_4 : decode b_CS_gatherScript 4 = .ok (.getfield 21, 3) := by decide +kernel
theorem d_CS_gatherScript_7 : decode b_CS_gatherScript 7 = .ok (.invokevirtual 210, 3) := by decide +kernel
theorem d_CS_gatherScript_10 : decode b_CS_gatherScript 10 = .ok (.if_icmp .ge 41, 3) := by decide +kernel
theorem d_CS_gatherScript_13 : decode b_CS_gatherScript 13 = .ok (.aload_n 0, 1) := by decide +kernel
theorem d_CS_gatherScript_14 : decode b_CS_gatherScript 14 = .ok (.getfield 21, 3) := by decide +kernel
theorem d_CS_gatherScript_17 : decode b_CS_gatherScript 17 = .ok (.iload_n 2, 1) := by decide +kernel
theorem d_CS_gatherScript_18 : decode b_CS_gatherScript 18 = .ok (.invokevirtual 228, 3) := by decide +kernel
theorem d_CS_gatherScript_21 : decode b_CS_gatherScript 21 = .ok (.iload_n 1, 1) := by decide +kernel
theorem d_CS_gatherScript_22 : decode b_CS_gatherScript 22 = .ok (.if_icmp .ne 23, 3) := by decide +kernel
theorem d_CS_gatherScript_25 : decode b_CS_gatherScript 25 = .ok (.aload_n 0, 1) := by decide +kernel
theorem d_CS_gatherScript_26 : decode b_CS_gatherScript 26 = .ok (.aload_n 0, 1) := by decide +kernel
theorem d_CS_gatherScript_27 : decode b_CS_gatherScript 27 = .ok (.getfield 21, 3) := by decide +kernel
theorem d_CS_gatherScript_30 : decode b_CS_gatherScript 30 = .ok (.iload_n 2, 1) := by decide +kernel
theorem d_CS_gatherScript_31 : decode b_CS_gatherScript 31 = .ok (.invokevirtual 216, 3) := by decide +kernel
theorem d_CS_gatherScript_34 : decode b_CS_gatherScript 34 = .ok (.aload_n 0, 1) := by decide +kernel
theorem d_CS_gatherScript_35 : decode b_CS_gatherScript 35 = .ok (.getfield 21, 3) := by decide +kernel
theorem d_CS_gatherScript_38 : decode b_CS_gatherScript 38 = .ok (.iload_n 2, 1) := by decide +kernel
theorem d_CS_gatherScript_39 : decode b_CS_gatherScript 39 = .ok (.invokevirtual 219, 3) := by decide +kernel
theorem d_CS_gatherScript_42 : decode b_CS_gatherScript 42 = .ok (.invokevirtual 135, 3) := by decide +kernel
theorem d_CS_gatherScript_45 : decode b_CS_gatherScript 45 = .ok (.iinc 2 1, 3) := by decide +kernel
theorem d_CS_gatherScript_48 : decode b_CS_gatherScript 48 = .ok (.goto (-46), 3) := by decide +kernel
theorem d_CS_gatherScript_51 : decode b_CS_gatherScript 51 = .ok (.return_, 1) := by decide +kernel
theorem d_CS_gather_0 : decode b_CS_gather 0 = .ok (.iload_n 2, 1) := by decide +kernel
theorem d_CS_gather_1 : decode b_CS_gather 1 = .ok (.aload_n 0, 1) := by decide +kernel
theorem d_CS_gather_2 : decode b_CS_gather 2 = .ok (.getfield 14, 3) := by decide +kernel
theorem d_CS_gather_5 : decode b_CS_gather 5 = .ok (.invokestatic 222, 3) := by decide +kernel
theorem d_CS_gather_8 : decode b_CS_gather 8 = .ok (.istore_n 3, 1) := by decide +kernel
theorem d_CS_gather_9 : decode b_CS_gather 9 = .ok (.iload_n 1, 1) := by decide +kernel
theorem d_CS_gather_10 : decode b_CS_gather 10 = .ok (.iload_n 3, 1) := by decide +kernel
theorem d_CS_gather_11 : decode b_CS_gather 11 = .ok (.if_icmp .gt 12, 3) := by decide +kernel
theorem d_CS_gather_14 : decode b_CS_gather 14 = .ok (.aload_n 0, 1) := by decide +kernel
theorem d_CS_gather_15 : decode b_CS_gather 15 = .ok (.getfield 37, 3) := by decide +kernel
theorem d_CS_gather_18 : decode b_CS_gather 18 = .ok (.iload_n 1, 1) := by decide +kernel
theorem d_CS_gather_19 : decode b_CS_gather 19 = .ok (.iload_n 3, 1) := by decide +kernel
theorem d_CS_gather_20 : decode b_CS_gather 20 = .ok (.invokevirtual 55, 3) := by decide +kernel
theorem d_CS_gather_23 : decode b_CS_gather 23 = .ok (.return_, 1) := by decide +kernel
theorem d_MO_init_0 : decode b_MO_init 0 = .ok (.aload_n 0, 1) := by decide +kernel
theorem d_MO_init_1 : decode b_MO_init 1 = .ok (.invokespecial 1, 3) := by decide +kernel
theorem d_MO_init_4 : decode b_MO_init 4 = .ok (.aload_n 0, 1) := by decide +kernel
theorem d_MO_init_5 : decode b_MO_init 5 = .ok (.ldc 7, 2) := by decide +kernel
theorem d_MO_init_7 : decode b_MO_init 7 = .ok (.newarray .long, 2) := by decide +kernel
theorem d_MO_init_9 : decode b_MO_init 9 = .ok (.putfield 8, 3) := by decide +kernel
theorem d_MO_init_12 : decode b_MO_init 12 = .ok (.aload_n 0, 1) := by decide +kernel
theorem d_MO_init_13 : decode b_MO_init 13 = .ok (.sipush 12544, 3) := by decide +kernel
theorem d_MO_init_16 : decode b_MO_init 16 = .ok (.newarray .byte, 2) := by decide +kernel
theorem d_MO_init_18 : decode b_MO_init 18 = .ok (.putfield 14, 3) := by decide +kernel
theorem d_MO_init_21 : decode b_MO_init 21 = .ok (.aload_n 0, 1) := by decide +kernel
theorem d_MO_init_22 : decode b_MO_init 22 = .ok (.iconst 4, 1) := by decide +kernel
theorem d_MO_init_23 : decode b_MO_init 23 = .ok (.newarray .int, 2) := by decide +kernel
theorem d_MO_init_25 : decode b_MO_init 25 = .ok (.putfield 18, 3) := by decide +kernel
theorem d_MO_init_28 : decode b_MO_init 28 = .ok (.aload_n 0, 1) := by decide +kernel
theorem d_MO_init_29 : decode b_MO_init 29 = .ok (.iconst 0, 1) := by decide +kernel
theorem d_MO_init_30 : decode b_MO_init 30 = .ok (.putfield 22, 3) := by decide +kernel
theorem d_MO_init_33 : decode b_MO_init 33 = .ok (.aload_n 0, 1) := by decide +kernel
theorem d_MO_init_34 : decode b_MO_init 34 = .ok (.bipush 14, 2) := by decide +kernel
theorem d_MO_init_36 : decode b_MO_init 36 = .ok (.newarray .int, 2) := by decide +kernel
theorem d_MO_init_38 : decode b_MO_init 38 = .ok (.dup, 1) := by decide +kernel
theorem d_MO_init_39 : decode b_MO_init 39 = .ok (.iconst 0, 1) := by decide +kernel
theorem d_MO_init_40 : decode b_MO_init 40 = .ok (.sipush 12544, 3) := by decide +kernel
theorem d_MO_init_43 : decode b_MO_init 43 = .ok (.iastore, 1) := by decide +kernel
theorem d_MO_init_44 : decode b_MO_init 44 = .ok (.dup, 1) := by decide +kernel
theorem d_MO_init_45 : decode b_MO_init 45 = .ok (.iconst 1, 1) := by decide +kernel
theorem d_MO_init_46 : decode b_MO_init 46 = .ok (.sipush 19968, 3) := by decide +kernel
theorem d_MO_init_49 : decode b_MO_init 49 = .ok (.iastore, 1) := by decide +kernel
theorem d_MO_init_50 : decode b_MO_init 50 = .ok (.dup, 1) := by decide +kernel
theorem d_MO_init_51 : decode b_MO_init 51 = .ok (.iconst 2, 1) := by decide +kernel
theorem d_MO_init_52 : decode b_MO_init 52 = .ok (.ldc 26, 2) := by decide +kernel
theorem d_MO_init_54 : decode b_MO_init 54 = .ok (.iastore, 1) := by decide +kernel
theorem d_MO_init_55 : decode b_MO_init 55 = .ok (.dup, 1) := by decide +kernel
theorem d_MO_init_56 : decode b_MO_init 56 = .ok (.iconst 3, 1) := by decide +kernel
theorem d_MO_init_57 : decode b_MO_init 57 = .ok (.ldc 27, 2) := by decide +kernel
theorem d_MO_init_59 : decode b_MO_init 59 = .ok (.iastore, 1) := by decide +kernel
theorem d_MO_init_60 : decode b_MO_init 60 = .ok (.dup, 1) := by decide +kernel
theorem d_MO_init_61 : decode b_MO_init 61 = .ok (.iconst 4, 1) := by decide +kernel
theorem d_MO_init_62 : decode b_MO_init 62 = .ok (.ldc 28, 2) := by decide +kernel
theorem d_MO_init_64 : decode b_MO_init 64 = .ok (.iastore, 1) := by decide +kernel
theorem d_MO_init_65 : decode b_MO_init 65 = .ok (.dup, 1) := by decide +kernel
theorem d_MO_init_66 : decode b_MO_init 66 = .ok (.iconst 5, 1) := by decide +kernel
theorem d_MO_init_67 : decode b_MO_init 67 = .ok (.ldc 29, 2) := by decide +kernel
theorem d_MO_init_69 : decode b_MO_init 69 = .ok (.iastore, 1) := by decide +kernel
theorem d_MO_init_70 : decode b_MO_init 70 = .ok (.dup, 1) := by decide +kernel
theorem d_MO_init_71 : decode b_MO_init 71 = .ok (.bipush 6, 2) := by decide +kernel
theorem d_MO_init_73 : decode b_MO_init 73 = .ok (.ldc 30, 2) := by decide +kernel
theorem d_MO_init_75 : decode b_MO_init 75 = .ok (.iastore, 1) := by decide +kernel
theorem d_MO_init_76 : decode b_MO_init 76 = .ok (.dup, 1) := by decide +kernel
theorem d_MO_init_77 : decode b_MO_init 77 = .ok (.bipush 7, 2) := by decide +kernel
theorem d_MO_init_79 : decode b_MO_init 79 = .ok (.ldc 31, 2) := by decide +kernel
theorem d_MO_init_81 : decode b_MO_init 81 = .ok (.iastore, 1) := by decide +kernel
theorem d_MO_init_82 : decode b_MO_init 82 = .ok (.dup, 1) := by decide +kernel
theorem d_MO_init_83 : decode b_MO_init 83 = .ok (.bipush 8, 2) := by decide +kernel
theorem d_MO_init_85 : decode b_MO_init 85 = .ok (.ldc 32, 2) := by decide +kernel
theorem d_MO_init_87 : decode b_MO_init 87 = .ok (.iastore, 1) := by decide +kernel
theorem d_MO_init_88 : decode b_MO_init 88 = .ok (.dup, 1) := by decide +kernel
theorem d_MO_init_89 : decode b_MO_init 89 = .ok (.bipush 9, 2) := by decide +kernel
theorem d_MO_init_91 : decode b_MO_init 91 = .ok (.ldc 33, 2) := by decide +kernel
theorem d_MO_init_93 : decode b_MO_init 93 = .ok (.iastore, 1) := by decide +kernel
theorem d_MO_init_94 : decode b_MO_init 94 = .ok (.dup, 1) := by decide +kernel
theorem d_MO_init_95 : decode b_MO_init 95 = .ok (.bipush 10, 2) := by decide +kernel
theorem d_MO_init_97 : decode b_MO_init 97 = .ok (.ldc 34, 2) := by decide +kernel
theorem d_MO_init_99 : decode b_MO_init 99 = .ok (.iastore, 1) := by decide +kernel
theorem d_MO_init_100 : decode b_MO_init 100 = .ok (.dup, 1) := by decide +kernel
theorem d_MO_init_101 : decode b_MO_init 101 = .ok (.bipush 11, 2) := by decide +kernel
theorem d_MO_init_103 : decode b_MO_init 103 = .ok (.ldc 35, 2) := by decide +kernel
theorem d_MO_init_105 : decode b_MO_init 105 = .ok (.iastore, 1) := by decide +kernel
theorem d_MO_init_106 : decode b_MO_init 106 = .ok (.dup, 1) := by decide +kernel
theorem d_MO_init_107 : decode b_MO_init 107 = .ok (.bipush 12, 2) := by decide +kernel
theorem d_MO_init_109 : decode b_MO_init 109 = .ok (.ldc 36, 2) := by decide +kernel
theorem d_MO_init_111 : decode b_MO_init 111 = .ok (.iastore, 1) := by decide +kernel
theorem d_MO_init_112 : decode b_MO_init 112 = .ok (.dup, 1) := by decide +kernel
theorem d_MO_init_113 : decode b_MO_init 113 = .ok (.bipush 13, 2) := by decide +kernel
theorem d_MO_init_115 : decode b_MO_init 115 = .ok (.ldc 37, 2) := by decide +kernel
theorem d_MO_init_117 : decode b_MO_init 117 = .ok (.iastore, 1) := by decide +kernel
theorem d_MO_init_118 : decode b_MO_init 118 = .ok (.putfield 38, 3) := by decide +kernel
theorem d_MO_init_121 : decode b_MO_init 121 = .ok (.aload_n 0, 1) := by decide +kernel
theorem d_MO_init_122 : decode b_MO_init 122 = .ok (.iload_n 1, 1) := by decide +kernel
theorem d_MO_init_123 : decode b_MO_init 123 = .ok (.iconst 1, 1) := by decide +kernel
theorem d_MO_init_124 : decode b_MO_init 124 = .ok (.iand, 1) := by decide +kernel
theorem d_MO_init_125 : decode b_MO_init 125 = .ok (.ifCond .eq 7, 3) := by decide +kernel
theorem d_MO_init_128 : decode b_MO_init 128 = .ok (.iconst 1, 1) := by decide +kernel
theorem d_MO_init_129 : decode b_MO_init 129 = .ok (.goto 4, 3) := by decide +kernel
theorem d_MO_init_132 : decode b_MO_init 132 = .ok (.iconst 0, 1) := by decide +kernel
theorem d_MO_init_133 : decode b_MO_init 133 = .ok (.putfield 41, 3) := by decide +kernel
theorem d_MO_init_136 : decode b_MO_init 136 = .ok (.aload_n 0, 1) := by decide +kernel
theorem d_MO_init_137 : decode b_MO_init 137 = .ok (.iload_n 1, 1) := by decide +kernel
theorem d_MO_init_138 : decode b_MO_init 138 = .ok (.iconst 2, 1) := by decide +kernel
theorem d_MO_init_139 : decode b_MO_init 139 = .ok (.iand, 1) := by decide +kernel
theorem d_MO_init_140 : decode b_MO_init 140 = .ok (.ifCond .eq 7, 3) := by decide +kernel
theorem d_MO_init_143 : decode b_MO_init 143 = .ok (.iconst 1, 1) := by decide +kernel
theorem d_MO_init_144 : decode b_MO_init 144 = .ok (.goto 4, 3) := by decide +kernel
theorem d_MO_init_147 : decode b_MO_init 147 = .ok (.iconst 0, 1) := by decide +kernel
theorem d_MO_init_148 : decode b_MO_init 148 = .ok (.putfield 45, 3) := by decide +kernel
theorem d_MO_init_151 : decode b_MO_init 151 = .ok (.aload_n 0, 1) := by decide +kernel
theorem d_MO_init_152 : decode b_MO_init 152 = .ok (.aload_n 0, 1) := by decide +kernel
theorem d_MO_init_153 : decode b_MO_init 153 = .ok (.getfield 41, 3) := by decide +kernel
theorem d_MO_init_156 : decode b_MO_init 156 = .ok (.ifCond .eq 8, 3) := by decide +kernel
theorem d_MO_init_159 : decode b_MO_init 159 = .ok (.ldc 48, 2) := by decide +kernel
theorem d_MO_init_161 : decode b_MO_init 161 = .ok (.goto 6, 3) := by decide +kernel
theorem d_MO_init_164 : decode b_MO_init 164 = .ok (.sipush 255, 3) := by decide +kernel
theorem d_MO_init_167 : decode b_MO_init 167 = .ok (.putfield 49, 3) := by decide +kernel
theorem d_MO_init_170 : decode b_MO_init 170 = .ok (.aload_n 0, 1) := by decide +kernel
theorem d_MO_init_171 : decode b_MO_init 171 = .ok (.aload_n 0, 1) := by decide +kernel
theorem d_MO_init_172 : decode b_MO_init 172 = .ok (.getfield 41, 3) := by decide +kernel
theorem d_MO_init_175 : decode b_MO_init 175 = .ok (.ifCond .eq 9, 3) := by decide +kernel
theorem d_MO_init_178 : decode b_MO_init 178 = .ok (.sipush 17408, 3) := by decide +kernel
theorem d_MO_init_181 : decode b_MO_init 181 = .ok (.goto 4, 3) := by decide +kernel
theorem d_MO_init_184 : decode b_MO_init 184 = .ok (.iconst 4, 1) := by decide +kernel
theorem d_MO_init_185 : decode b_MO_init 185 = .ok (.putfield 52, 3) := by decide +kernel
theorem d_MO_init_188 : decode b_MO_init 188 = .ok (.aload_n 0, 1) := by decide +kernel
theorem d_MO_init_189 : decode b_MO_init 189 = .ok (.invokevirtual 55, 3) := by decide +kernel
theorem d_MO_init_192 : decode b_MO_init 192 = .ok (.aload_n 0, 1) := by decide +kernel
theorem d_MO_init_193 : decode b_MO_init 193 = .ok (.invokevirtual 58, 3) := by decide +kernel
theorem d_MO_init_196 : decode b_MO_init 196 = .ok (.aload_n 0, 1) := by decide +kernel
theorem d_MO_init_197 : decode b_MO_init 197 = .ok (.invokevirtual 61, 3) := by decide +kernel
theorem d_MO_init_200 : decode b_MO_init 200 = .ok (.aload_n 0, 1) := by decide +kernel
theorem d_MO_init_201 : decode b_MO_init 201 = .ok (.invokevirtual 64, 3) := by decide +kernel
theorem d_MO_init_204 : decode b_MO_init 204 = .ok (.sipush 256, 3) := by decide +kernel
theorem d_MO_init_207 : decode b_MO_init 207 = .ok (.istore_n 2, 1) := by decide +kernel
theorem d_MO_init_208 : decode b_MO_init 208 = .ok (.iload_n 2, 1) := by decide +kernel
theorem d_MO_init_209 : decode b_MO_init 209 = .ok (.sipush 376, 3) := by decide +kernel
theorem d_MO_init_212 : decode b_MO_init 212 = .ok (.if_icmp .ge 24, 3) := by decide +kernel
theorem d_MO_init_215 : decode b_MO_init 215 = .ok (.iload_n 2, 1) := by decide +kernel
theorem d_MO_init_216 : decode b_MO_init 216 = .ok (.sipush 312, 3) := by decide +kernel
theorem d_MO_init_219 : decode b_MO_init 219 = .ok (.if_icmp .ge 11, 3) := by decide +kernel
theorem d_MO_init_222 : decode b_MO_init 222 = .ok (.aload_n 0, 1) := by decide +kernel
theorem d_MO_init_223 : decode b_MO_init 223 = .ok (.getfield 14, 3) := by decide +kernel
theorem d_MO_init_226 : decode b_MO_init 226 = .ok (.iload_n 2, 1) := by decide +kernel
theorem d_MO_init_227 : decode b_MO_init 227 = .ok (.bipush 6, 2) := by decide +kernel
theorem d_MO_init_229 : decode b_MO_init 229 = .ok (.bastore, 1) := by decide +kernel
theorem d_MO_init_230 : decode b_MO_init 230 = .ok (.iinc 2 2, 3) := by decide +kernel
theorem d_MO_init_233 : decode b_MO_init 233 = .ok (.goto (-25), 3) := by decide +kernel
theorem d_MO_init_236 : decode b_MO_init 236 = .ok (.sipush 330, 3) := by decide +kernel
theorem d_MO_init_239 : decode b_MO_init 239 = .ok (.istore_n 2, 1) := by decide +kernel
theorem d_MO_init_240 : decode b_MO_init 240 = .ok (.iload_n 2, 1) := by decide +kernel
theorem d_MO_init_241 : decode b_MO_init 241 = .ok (.sipush 376, 3) := by decide +kernel
theorem d_MO_init_244 : decode b_MO_init 244 = .ok (.if_icmp .ge 17, 3) := by decide +kernel
theorem d_MO_init_247 : decode b_MO_init 247 = .ok (.aload_n 0, 1) := by decide +kernel
theorem d_MO_init_248 : decode b_MO_init 248 = .ok (.getfield 14, 3) := by decide +kernel
theorem d_MO_init_251 : decode b_MO_init 251 = .ok (.iload_n 2, 1) := by decide +kernel
theorem d_MO_init_252 : decode b_MO_init 252 = .ok (.bipush 6, 2) := by decide +kernel
theorem d_MO_init_254 : decode b_MO_init 254 = .ok (.bastore, 1) := by decide +kernel
theorem d_MO_init_255 : decode b_MO_init 255 = .ok (.iinc 2 2, 3) := by decide +kernel
theorem d_MO_init_258 : decode b_MO_init 258 = .ok (.goto (-18), 3) := by decide +kernel
theorem d_MO_init_261 : decode b_MO_init 261 = .ok (.sipush 313, 3) := by decide +kernel
theorem d_MO_init_264 : decode b_MO_init 264 = .ok (.istore_n 2, 1) := by decide +kernel
theorem d_MO_init_265 : decode b_MO_init 265 = .ok (.iload_n 2, 1) := by decide +kernel
theorem d_MO_init_266 : decode b_MO_init 266 = .ok (.sipush 329, 3) := by decide +kernel
theorem d_MO_init_269 : decode b_MO_init 269 = .ok (.if_icmp .ge 17, 3) := by decide +kernel
theorem d_MO_init_272 : decode b_MO_init 272 = .ok (.aload_n 0, 1) := by decide +kernel
theorem d_MO_init_273 : decode b_MO_init 273 = .ok (.getfield 14, 3) := by decide +kernel
theorem d_MO_init_276 : decode b_MO_init 276 = .ok (.iload_n 2, 1) := by decide +kernel
theorem d_MO_init_277 : decode b_MO_init 277 = .ok (.bipush 6, 2) := by decide +kernel
theorem d_MO_init_279 : decode b_MO_init 279 = .ok (.bastore, 1) := by decide +kernel
theorem d_MO_init_280 : decode b_MO_init 280 = .ok (.iinc 2 2, 3) := by decide +kernel
theorem d_MO_init_283 : decode b_MO_init 283 = .ok (.goto (-18), 3) := by decide +kernel
theorem d_MO_init_286 : decode b_MO_init 286 = .ok (.sipush 377, 3) := by decide +kernel
theorem d_MO_init_289 : decode b_MO_init 289 = .ok (.istore_n 2, 1) := by decide +kernel
theorem d_MO_init_290 : decode b_MO_init 290 = .ok (.iload_n 2, 1) := by decide +kernel
theorem d_MO_init_291 : decode b_MO_init 291 = .ok (.sipush 383, 3) := by decide +kernel
theorem d_MO_init_294 : decode b_MO_init 294 = .ok (.if_icmp .ge 17, 3) := by decide +kernel
theorem d_MO_init_297 : decode b_MO_init 297 = .ok (.aload_n 0, 1) := by decide +kernel
theorem d_MO_init_298 : decode b_MO_init 298 = .ok (.getfield 14, 3) := by decide +kernel
theorem d_MO_init_301 : decode b_MO_init 301 = .ok (.iload_n 2, 1) := by decide +kernel
theorem d_MO_init_302 : decode b_MO_init 302 = .ok (.bipush 6, 2) := by decide +kernel
theorem d_MO_init_304 : decode b_MO_init 304 = .ok (.bastore, 1) := by decide +kernel
theorem d_MO_init_305 : decode b_MO_init 305 = .ok (.iinc 2 2, 3) := by decide +kernel
theorem d_MO_init_308 : decode b_MO_init 308 = .ok (.goto (-18), 3) := by decide +kernel
theorem d_MO_init_311 : decode b_MO_init 311 = .ok (.return_, 1) := by decide +kernel
end
section
theorem d_MO_kinds_0 : decode b_MO_kinds 0 = .ok (.iload_n 1, 1) := by decide +kernel
theorem d_MO_kinds_1 : decode b_MO_kinds 1 = .ok (.istore 4, 2) := by decide +kernel
theorem d_MO_kinds_3 : decode b_MO_kinds 3 = .ok (.iload 4, 2) := by decide +kernel
theorem d_MO_kinds_5 : decode b_MO_kinds 5 = .ok (.iload_n 2, 1) := by decide +kernel
theorem d_MO_kinds_6 : decode b_MO_kinds 6 = .ok (.if_icmp .gt 18, 3) := by decide +kernel
theorem d_MO_kinds_9 : decode b_MO_kinds 9 = .ok (.aload_n 0, 1) := by decide +kernel
theorem d_MO_kinds_10 : decode b_MO_kinds 10 = .ok (.getfield 14, 3) := by decide +kernel
theorem d_MO_kinds_13 : decode b_MO_kinds 13 = .ok (.iload 4, 2) := by decide +kernel
theorem d_MO_kinds_15 : decode b_MO_kinds 15 = .ok (.iload_n 3, 1) := by decide +kernel
theorem d_MO_kinds_16 : decode b_MO_kinds 16 = .ok (.i2b, 1) := by decide +kernel
theorem d_MO_kinds_17 : decode b_MO_kinds 17 = .ok (.bastore, 1) := by decide +kernel
theorem d_MO_kinds_18 : decode b_MO_kinds 18 = .ok (.iinc 4 1, 3) := by decide +kernel
theorem d_MO_kinds_21 : decode b_MO_kinds 21 = .ok (.goto (-18), 3) := by decide +kernel
theorem d_MO_kinds_24 : decode b_MO_kinds 24 = .ok (.return_, 1) := by decide +kernel
theorem d_MO_table0_0 : decode b_MO_table0 0 = .ok (.aload_n 0, 1) := by decide +kernel
theorem d_MO_table0_1 : decode b_MO_table0 1 = .ok (.iconst 0, 1) := by decide +kernel
theorem d_MO_table0_2 : decode b_MO_table0 2 = .ok (.bipush 31, 2) := by decide +kernel
theorem d_MO_table0_4 : decode b_MO_table0 4 = .ok (.iconst 1, 1) := by decide +kernel
theorem d_MO_table0_5 : decode b_MO_table0 5 = .ok (.invokevirtual 67, 3) := by decide +kernel
theorem d_MO_table0_8 : decode b_MO_table0 8 = .ok (.aload_n 0, 1) := by decide +kernel
theorem d_MO_table0_9 : decode b_MO_table0 9 = .ok (.bipush 127, 2) := by decide +kernel
theorem d_MO_table0_11 : decode b_MO_table0 11 = .ok (.sipush 159, 3) := by decide +kernel
theorem d_MO_table0_14 : decode b_MO_table0 14 = .ok (.iconst 1, 1) := by decide +kernel
theorem d_MO_table0_15 : decode b_MO_table0 15 = .ok (.invokevirtual 67, 3) := by decide +kernel
theorem d_MO_table0_18 : decode b_MO_table0 18 = .ok (.aload_n 0, 1) := by decide +kernel
theorem d_MO_table0_19 : decode b_MO_table0 19 = .ok (.bipush 32, 2) := by decide +kernel
theorem d_MO_table0_21 : decode b_MO_table0 21 = .ok (.bipush 32, 2) := by decide +kernel
theorem d_MO_table0_23 : decode b_MO_table0 23 = .ok (.bipush 24, 2) := by decide +kernel
theorem d_MO_table0_25 : decode b_MO_table0 25 = .ok (.invokevirtual 67, 3) := by decide +kernel
theorem d_MO_table0_28 : decode b_MO_table0 28 = .ok (.aload_n 0, 1) := by decide +kernel
theorem d_MO_table0_29 : decode b_MO_table0 29 = .ok (.sipush 160, 3) := by decide +kernel
theorem d_MO_table0_32 : decode b_MO_table0 32 = .ok (.sipush 160, 3) := by decide +kernel
theorem d_MO_table0_35 : decode b_MO_table0 35 = .ok (.bipush 24, 2) := by decide +kernel
theorem d_MO_table0_37 : decode b_MO_table0 37 = .ok (.invokevirtual 67, 3) := by decide +kernel
theorem d_MO_table0_40 : decode b_MO_table0 40 = .ok (.aload_n 0, 1) := by decide +kernel
theorem d_MO_table0_41 : decode b_MO_table0 41 = .ok (.sipush 8192, 3) := by decide +kernel
theorem d_MO_table0_44 : decode b_MO_table0 44 = .ok (.sipush 8202, 3) := by decide +kernel
theorem d_MO_table0_47 : decode b_MO_table0 47 = .ok (.bipush 24, 2) := by decide +kernel
theorem d_MO_table0_49 : decode b_MO_table0 49 = .ok (.invokevirtual 67, 3) := by decide +kernel
theorem d_MO_table0_52 : decode b_MO_table0 52 = .ok (.aload_n 0, 1) := by decide +kernel
theorem d_MO_table0_53 : decode b_MO_table0 53 = .ok (.sipush 8239, 3) := by decide +kernel
theorem d_MO_table0_56 : decode b_MO_table0 56 = .ok (.sipush 8239, 3) := by decide +kernel
theorem d_MO_table0_59 : decode b_MO_table0 59 = .ok (.bipush 24, 2) := by decide +kernel
theorem d_MO_table0_61 : decode b_MO_table0 61 = .ok (.invokevirtual 67, 3) := by decide +kernel
theorem d_MO_table0_64 : decode b_MO_table0 64 = .ok (.aload_n 0, 1) := by decide +kernel
theorem d_MO_table0_65 : decode b_MO_table0 65 = .ok (.sipush 8287, 3) := by decide +kernel
theorem d_MO_table0_68 : decode b_MO_table0 68 = .ok (.sipush 8287, 3) := by decide +kernel
theorem d_MO_table0_71 : decode b_MO_table0 71 = .ok (.bipush 24, 2) := by decide +kernel
theorem d_MO_table0_73 : decode b_MO_table0 73 = .ok (.invokevirtual 67, 3) := by decide +kernel
theorem d_MO_table0_76 : decode b_MO_table0 76 = .ok (.aload_n 0, 1) := by decide +kernel
theorem d_MO_table0_77 : decode b_MO_table0 77 = .ok (.sipush 12288, 3) := by decide +kernel
theorem d_MO_table0_80 : decode b_MO_table0 80 = .ok (.sipush 12288, 3) := by decide +kernel
theorem d_MO_table0_83 : decode b_MO_table0 83 = .ok (.bipush 24, 2) := by decide +kernel
theorem d_MO_table0_85 : decode b_MO_table0 85 = .ok (.invokevirtual 67, 3) := by decide +kernel
theorem d_MO_table0_88 : decode b_MO_table0 88 = .ok (.aload_n 0, 1) := by decide +kernel
theorem d_MO_table0_89 : decode b_MO_table0 89 = .ok (.sipush 8232, 3) := by decide +kernel
theorem d_MO_table0_92 : decode b_MO_table0 92 = .ok (.sipush 8232, 3) := by decide +kernel
theorem d_MO_table0_95 : decode b_MO_table0 95 = .ok (.bipush 22, 2) := by decide +kernel
theorem d_MO_table0_97 : decode b_MO_table0 97 = .ok (.invokevirtual 67, 3) := by decide +kernel
theorem d_MO_table0_100 : decode b_MO_table0 100 = .ok (.aload_n 0, 1) := by decide +kernel
theorem d_MO_table0_101 : decode b_MO_table0 101 = .ok (.sipush 8233, 3) := by decide +kernel
theorem d_MO_table0_104 : decode b_MO_table0 104 = .ok (.sipush 8233, 3) := by decide +kernel
theorem d_MO_table0_107 : decode b_MO_table0 107 = .ok (.bipush 23, 2) := by decide +kernel
theorem d_MO_table0_109 : decode b_MO_table0 109 = .ok (.invokevirtual 67, 3) := by decide +kernel
theorem d_MO_table0_112 : decode b_MO_table0 112 = .ok (.aload_n 0, 1) := by decide +kernel
theorem d_MO_table0_113 : decode b_MO_table0 113 = .ok (.bipush 33, 2) := by decide +kernel
theorem d_MO_table0_115 : decode b_MO_table0 115 = .ok (.bipush 35, 2) := by decide +kernel
theorem d_MO_table0_117 : decode b_MO_table0 117 = .ok (.bipush 16, 2) := by decide +kernel
theorem d_MO_table0_119 : decode b_MO_table0 119 = .ok (.invokevirtual 67, 3) := by decide +kernel
theorem d_MO_table0_122 : decode b_MO_table0 122 = .ok (.aload_n 0, 1) := by decide +kernel
theorem d_MO_table0_123 : decode b_MO_table0 123 = .ok (.bipush 37, 2) := by decide +kernel
theorem d_MO_table0_125 : decode b_MO_table0 125 = .ok (.bipush 39, 2) := by decide +kernel
theorem d_MO_table0_127 : decode b_MO_table0 127 = .ok (.bipush 16, 2) := by decide +kernel
theorem d_MO_table0_129 : decode b_MO_table0 129 = .ok (.invokevirtual 67, 3) := by decide +kernel
theorem d_MO_table0_132 : decode b_MO_table0 132 = .ok (.aload_n 0, 1) := by decide +kernel
theorem d_MO_table0_133 : decode b_MO_table0 133 = .ok (.bipush 42, 2) := by decide +kernel
theorem d_MO_table0_135 : decode b_MO_table0 135 = .ok (.bipush 42, 2) := by decide +kernel
theorem d_MO_table0_137 : decode b_MO_table0 137 = .ok (.bipush 16, 2) := by decide +kernel
theorem d_MO_table0_139 : decode b_MO_table0 139 = .ok (.invokevirtual 67, 3) := by decide +kernel
theorem d_MO_table0_142 : decode b_MO_table0 142 = .ok (.aload_n 0, 1) := by decide +kernel
theorem d_MO_table0_143 : decode b_MO_table0 143 = .ok (.bipush 44, 2) := by decide +kernel
theorem d_MO_table0_145 : decode b_MO_table0 145 = .ok (.bipush 44, 2) := by decide +kernel
theorem d_MO_table0_147 : decode b_MO_table0 147 = .ok (.bipush 16, 2) := by decide +kernel
theorem d_MO_table0_149 : decode b_MO_table0 149 = .ok (.invokevirtual 67, 3) := by decide +kernel
theorem d_MO_table0_152 : decode b_MO_table0 152 = .ok (.aload_n 0, 1) := by decide +kernel
theorem d_MO_table0_153 : decode b_MO_table0 153 = .ok (.bipush 46, 2) := by decide +kernel
theorem d_MO_table0_155 : decode b_MO_table0 155 = .ok (.bipush 47, 2) := by decide +kernel
theorem d_MO_table0_157 : decode b_MO_table0 157 = .ok (.bipush 16, 2) := by decide +kernel
theorem d_MO_table0_159 : decode b_MO_table0 159 = .ok (.invokevirtual 67, 3) := by decide +kernel
theorem d_MO_table0_162 : decode b_MO_table0 162 = .ok (.aload_n 0, 1) := by decide +kernel
theorem d_MO_table0_163 : decode b_MO_table0 163 = .ok (.bipush 58, 2) := by decide +kernel
theorem d_MO_table0_165 : decode b_MO_table0 165 = .ok (.bipush 59, 2) := by decide +kernel
theorem d_MO_table0_167 : decode b_MO_table0 167 = .ok (.bipush 16, 2) := by decide +kernel
theorem d_MO_table0_169 : decode b_MO_table0 169 = .ok (.invokevirtual 67, 3) := by decide +kernel
theorem d_MO_table0_172 : decode b_MO_table0 172 = .ok (.aload_n 0, 1) := by decide +kernel
theorem d_MO_table0_173 : decode b_MO_table0 173 = .ok (.bipush 63, 2) := by decide +kernel
theorem d_MO_table0_175 : decode b_MO_table0 175 = .ok (.bipush 64, 2) := by decide +kernel
theorem d_MO_table0_177 : decode b_MO_table0 177 = .ok (.bipush 16, 2) := by decide +kernel
theorem d_MO_table0_179 : decode b_MO_table0 179 = .ok (.invokevirtual 67, 3) := by decide +kernel
theorem d_MO_table0_182 : decode b_MO_table0 182 = .ok (.aload_n 0, 1) := by decide +kernel
theorem d_MO_table0_183 : decode b_MO_table0 183 = .ok (.bipush 92, 2) := by decide +kernel
theorem d_MO_table0_185 : decode b_MO_table0 185 = .ok (.bipush 92, 2) := by decide +kernel
theorem d_MO_table0_187 : decode b_MO_table0 187 = .ok (.bipush 16, 2) := by decide +kernel
theorem d_MO_table0_189 : decode b_MO_table0 189 = .ok (.invokevirtual 67, 3) := by decide +kernel
theorem d_MO_table0_192 : decode b_MO_table0 192 = .ok (.aload_n 0, 1) := by decide +kernel
theorem d_MO_table0_193 : decode b_MO_table0 193 = .ok (.sipush 161, 3) := by decide +kernel
theorem d_MO_table0_196 : decode b_MO_table0 196 = .ok (.sipush 161, 3) := by decide +kernel
theorem d_MO_table0_199 : decode b_MO_table0 199 = .ok (.bipush 16, 2) := by decide +kernel
theorem d_MO_table0_201 : decode b_MO_table0 201 = .ok (.invokevirtual 67, 3) := by decide +kernel
theorem d_MO_table0_204 : decode b_MO_table0 204 = .ok (.aload_n 0, 1) := by decide +kernel
theorem d_MO_table0_205 : decode b_MO_table0 205 = .ok (.sipush 167, 3) := by decide +kernel
theorem d_MO_table0_208 : decode b_MO_table0 208 = .ok (.sipush 167, 3) := by decide +kernel
theorem d_MO_table0_211 : decode b_MO_table0 211 = .ok (.bipush 16, 2) := by decide +kernel
theorem d_MO_table0_213 : decode b_MO_table0 213 = .ok (.invokevirtual 67, 3) := by decide +kernel
theorem d_MO_table0_216 : decode b_MO_table0 216 = .ok (.aload_n 0, 1) := by decide +kernel
theorem d_MO_table0_217 : decode b_MO_table0 217 = .ok (.sipush 182, 3) := by decide +kernel
theorem d_MO_table0_220 : decode b_MO_table0 220 = .ok (.sipush 183, 3) := by decide +kernel
theorem d_MO_table0_223 : decode b_MO_table0 223 = .ok (.bipush 16, 2) := by decide +kernel
theorem d_MO_table0_225 : decode b_MO_table0 225 = .ok (.invokevirtual 67, 3) := by decide +kernel
theorem d_MO_table0_228 : decode b_MO_table0 228 = .ok (.aload_n 0, 1) := by decide +kernel
theorem d_MO_table0_229 : decode b_MO_table0 229 = .ok (.sipush 191, 3) := by decide +kernel
theorem d_MO_table0_232 : decode b_MO_table0 232 = .ok (.sipush 191, 3) := by decide +kernel
theorem d_MO_table0_235 : decode b_MO_table0 235 = .ok (.bipush 16, 2) := by decide +kernel
theorem d_MO_table0_237 : decode b_MO_table0 237 = .ok (.invokevirtual 67, 3) := by decide +kernel
theorem d_MO_table0_240 : decode b_MO_table0 240 = .ok (.aload_n 0, 1) := by decide +kernel
theorem d_MO_table0_241 : decode b_MO_table0 241 = .ok (.sipush 8214, 3) := by decide +kernel
theorem d_MO_table0_244 : decode b_MO_table0 244 = .ok (.sipush 8215, 3) := by decide +kernel
theorem d_MO_table0_247 : decode b_MO_table0 247 = .ok (.bipush 16, 2) := by decide +kernel
theorem d_MO_table0_249 : decode b_MO_table0 249 = .ok (.invokevirtual 67, 3) := by decide +kernel
theorem d_MO_table0_252 : decode b_MO_table0 252 = .ok (.aload_n 0, 1) := by decide +kernel
theorem d_MO_table0_253 : decode b_MO_table0 253 = .ok (.sipush 8224, 3) := by decide +kernel
theorem d_MO_table0_256 : decode b_MO_table0 256 = .ok (.sipush 8231, 3) := by decide +kernel
theorem d_MO_table0_259 : decode b_MO_table0 259 = .ok (.bipush 16, 2) := by decide +kernel
theorem d_MO_table0_261 : decode b_MO_table0 261 = .ok (.invokevirtual 67, 3) := by decide +kernel
theorem d_MO_table0_264 : decode b_MO_table0 264 = .ok (.aload_n 0, 1) := by decide +kernel
theorem d_MO_table0_265 : decode b_MO_table0 265 = .ok (.bipush 36, 2) := by decide +kernel
theorem d_MO_table0_267 : decode b_MO_table0 267 = .ok (.bipush 36, 2) := by decide +kernel
theorem d_MO_table0_269 : decode b_MO_table0 269 = .ok (.bipush 18, 2) := by decide +kernel
theorem d_MO_table0_271 : decode b_MO_table0 271 = .ok (.invokevirtual 67, 3) := by decide +kernel
theorem d_MO_table0_274 : decode b_MO_table0 274 = .ok (.aload_n 0, 1) := by decide +kernel
theorem d_MO_table0_275 : decode b_MO_table0 275 = .ok (.sipush 162, 3) := by decide +kernel
theorem d_MO_table0_278 : decode b_MO_table0 278 = .ok (.sipush 165, 3) := by decide +kernel
theorem d_MO_table0_281 : decode b_MO_table0 281 = .ok (.bipush 18, 2) := by decide +kernel
theorem d_MO_table0_283 : decode b_MO_table0 283 = .ok (.invokevirtual 67, 3) := by decide +kernel
theorem d_MO_table0_286 : decode b_MO_table0 286 = .ok (.aload_n 0, 1) := by decide +kernel
theorem d_MO_table0_287 : decode b_MO_table0 287 = .ok (.sipush 8352, 3) := by decide +kernel
theorem d_MO_table0_290 : decode b_MO_table0 290 = .ok (.sipush 8383, 3) := by decide +kernel
theorem d_MO_table0_293 : decode b_MO_table0 293 = .ok (.bipush 18, 2) := by decide +kernel
theorem d_MO_table0_295 : decode b_MO_table0 295 = .ok (.invokevirtual 67, 3) := by decide +kernel
theorem d_MO_table0_298 : decode b_MO_table0 298 = .ok (.aload_n 0, 1) := by decide +kernel
theorem d_MO_table0_299 : decode b_MO_table0 299 = .ok (.bipush 40, 2) := by decide +kernel
theorem d_MO_table0_301 : decode b_MO_table0 301 = .ok (.bipush 40, 2) := by decide +kernel
theorem d_MO_table0_303 : decode b_MO_table0 303 = .ok (.bipush 17, 2) := by decide +kernel
theorem d_MO_table0_305 : decode b_MO_table0 305 = .ok (.invokevirtual 67, 3) := by decide +kernel
theorem d_MO_table0_308 : decode b_MO_table0 308 = .ok (.aload_n 0, 1) := by decide +kernel
theorem d_MO_table0_309 : decode b_MO_table0 309 = .ok (.bipush 91, 2) := by decide +kernel
theorem d_MO_table0_311 : decode b_MO_table0 311 = .ok (.bipush 91, 2) := by decide +kernel
theorem d_MO_table0_313 : decode b_MO_table0 313 = .ok (.bipush 17, 2) := by decide +kernel
theorem d_MO_table0_315 : decode b_MO_table0 315 = .ok (.invokevirtual 67, 3) := by decide +kernel
theorem d_MO_table0_318 : decode b_MO_table0 318 = .ok (.aload_n 0, 1) := by decide +kernel
theorem d_MO_table0_319 : decode b_MO_table0 319 = .ok (.bipush 123, 2) := by decide +kernel
theorem d_MO_table0_321 : decode b_MO_table0 321 = .ok (.bipush 123, 2) := by decide +kernel
theorem d_MO_table0_323 : decode b_MO_table0 323 = .ok (.bipush 17, 2) := by decide +kernel
theorem d_MO_table0_325 : decode b_MO_table0 325 = .ok (.invokevirtual 67, 3) := by decide +kernel
theorem d_MO_table0_328 : decode b_MO_table0 328 = .ok (.return_, 1) := by decide +kernel
theorem d_MO_table1_0 : decode b_MO_table1 0 = .ok (.aload_n 0, 1) := by decide +kernel
theorem d_MO_table1_1 : decode b_MO_table1 1 = .ok (.sipush 8218, 3) := by decide +kernel
theorem d_MO_table1_4 : decode b_MO_table1 4 = .ok (.sipush 8218, 3) := by decide +kernel
theorem d_MO_table1_7 : decode b_MO_table1 7 = .ok (.bipush 17, 2) := by decide +kernel
theorem d_MO_table1_9 : decode b_MO_table1 9 = .ok (.invokevirtual 67, 3) := by decide +kernel
theorem d_MO_table1_12 : decode b_MO_table1 12 = .ok (.aload_n 0, 1) := by decide +kernel
theorem d_MO_table1_13 : decode b_MO_table1 13 = .ok (.sipush 8222, 3) := by decide +kernel
theorem d_MO_table1_16 : decode b_MO_table1 16 = .ok (.sipush 8222, 3) := by decide +kernel
theorem d_MO_table1_19 : decode b_MO_table1 19 = .ok (.bipush 17, 2) := by decide +kernel
theorem d_MO_table1_21 : decode b_MO_table1 21 = .ok (.invokevirtual 67, 3) := by decide +kernel
theorem d_MO_table1_24 : decode b_MO_table1 24 = .ok (.aload_n 0, 1) := by decide +kernel
theorem d_MO_table1_25 : decode b_MO_table1 25 = .ok (.bipush 41, 2) := by decide +kernel
theorem d_MO_table1_27 : decode b_MO_table1 27 = .ok (.bipush 41, 2) := by decide +kernel
theorem d_MO_table1_29 : decode b_MO_table1 29 = .ok (.bipush 13, 2) := by decide +kernel
theorem d_MO_table1_31 : decode b_MO_table1 31 = .ok (.invokevirtual 67, 3) := by decide +kernel
theorem d_MO_table1_34 : decode b_MO_table1 34 = .ok (.aload_n 0, 1) := by decide +kernel
theorem d_MO_table1_35 : decode b_MO_table1 35 = .ok (.bipush 93, 2) := by decide +kernel
theorem d_MO_table1_37 : decode b_MO_table1 37 = .ok (.bipush 93, 2) := by decide +kernel
theorem d_MO_table1_39 : decode b_MO_table1 39 = .ok (.bipush 13, 2) := by decide +kernel
theorem d_MO_table1_41 : decode b_MO_table1 41 = .ok (.invokevirtual 67, 3) := by decide +kernel
theorem d_MO_table1_44 : decode b_MO_table1 44 = .ok (.aload_n 0, 1) := by decide +kernel
theorem d_MO_table1_45 : decode b_MO_table1 45 = .ok (.bipush 125, 2) := by decide +kernel
theorem d_MO_table1_47 : decode b_MO_table1 47 = .ok (.bipush 125, 2) := by decide +kernel
theorem d_MO_table1_49 : decode b_MO_table1 49 = .ok (.bipush 13, 2) := by decide +kernel
theorem d_MO_table1_51 : decode b_MO_table1 51 = .ok (.invokevirtual 67, 3) := by decide +kernel
theorem d_MO_table1_54 : decode b_MO_table1 54 = .ok (.aload_n 0, 1) := by decide +kernel
theorem d_MO_table1_55 : decode b_MO_table1 55 = .ok (.bipush 43, 2) := by decide +kernel
theorem d_MO_table1_57 : decode b_MO_table1 57 = .ok (.bipush 43, 2) := by decide +kernel
theorem d_MO_table1_59 : decode b_MO_table1 59 = .ok (.bipush 20, 2) := by decide +kernel
theorem d_MO_table1_61 : decode b_MO_table1 61 = .ok (.invokevirtual 67, 3) := by decide +kernel
theorem d_MO_table1_64 : decode b_MO_table1 64 = .ok (.aload_n 0, 1) := by decide +kernel
theorem d_MO_table1_65 : decode b_MO_table1 65 = .ok (.bipush 60, 2) := by decide +kernel
theorem d_MO_table1_67 : decode b_MO_table1 67 = .ok (.bipush 62, 2) := by decide +kernel
theorem d_MO_table1_69 : decode b_MO_table1 69 = .ok (.bipush 20, 2) := by decide +kernel
theorem d_MO_table1_71 : decode b_MO_table1 71 = .ok (.invokevirtual 67, 3) := by decide +kernel
theorem d_MO_table1_74 : decode b_MO_table1 74 = .ok (.aload_n 0, 1) := by decide +kernel
theorem d_MO_table1_75 : decode b_MO_table1 75 = .ok (.bipush 124, 2) := by decide +kernel
theorem d_MO_table1_77 : decode b_MO_table1 77 = .ok (.bipush 124, 2) := by decide +kernel
theorem d_MO_table1_79 : decode b_MO_table1 79 = .ok (.bipush 20, 2) := by decide +kernel
theorem d_MO_table1_81 : decode b_MO_table1 81 = .ok (.invokevirtual 67, 3) := by decide +kernel
theorem d_MO_table1_84 : decode b_MO_table1 84 = .ok (.aload_n 0, 1) := by decide +kernel
theorem d_MO_table1_85 : decode b_MO_table1 85 = .ok (.bipush 126, 2) := by decide +kernel
theorem d_MO_table1_87 : decode b_MO_table1 87 = .ok (.bipush 126, 2) := by decide +kernel
theorem d_MO_table1_89 : decode b_MO_table1 89 = .ok (.bipush 20, 2) := by decide +kernel
theorem d_MO_table1_91 : decode b_MO_table1 91 = .ok (.invokevirtual 67, 3) := by decide +kernel
theorem d_MO_table1_94 : decode b_MO_table1 94 = .ok (.aload_n 0, 1) := by decide +kernel
theorem d_MO_table1_95 : decode b_MO_table1 95 = .ok (.sipush 172, 3) := by decide +kernel
theorem d_MO_table1_98 : decode b_MO_table1 98 = .ok (.sipush 172, 3) := by decide +kernel
theorem d_MO_table1_101 : decode b_MO_table1 101 = .ok (.bipush 20, 2) := by decide +kernel
theorem d_MO_table1_103 : decode b_MO_table1 103 = .ok (.invokevirtual 67, 3) := by decide +kernel
theorem d_MO_table1_106 : decode b_MO_table1 106 = .ok (.aload_n 0, 1) := by decide +kernel
theorem d_MO_table1_107 : decode b_MO_table1 107 = .ok (.sipush 177, 3) := by decide +kernel
theorem d_MO_table1_110 : decode b_MO_table1 110 = .ok (.sipush 177, 3) := by decide +kernel
theorem d_MO_table1_113 : decode b_MO_table1 113 = .ok (.bipush 20, 2) := by decide +kernel
theorem d_MO_table1_115 : decode b_MO_table1 115 = .ok (.invokevirtual 67, 3) := by decide +kernel
theorem d_MO_table1_118 : decode b_MO_table1 118 = .ok (.aload_n 0, 1) := by decide +kernel
theorem d_MO_table1_119 : decode b_MO_table1 119 = .ok (.sipush 215, 3) := by decide +kernel
theorem d_MO_table1_122 : decode b_MO_table1 122 = .ok (.sipush 215, 3) := by decide +kernel
theorem d_MO_table1_125 : decode b_MO_table1 125 = .ok (.bipush 20, 2) := by decide +kernel
theorem d_MO_table1_127 : decode b_MO_table1 127 = .ok (.invokevirtual 67, 3) := by decide +kernel
theorem d_MO_table1_130 : decode b_MO_table1 130 = .ok (.aload_n 0, 1) := by decide +kernel
theorem d_MO_table1_131 : decode b_MO_table1 131 = .ok (.sipush 247, 3) := by decide +kernel
theorem d_MO_table1_134 : decode b_MO_table1 134 = .ok (.sipush 247, 3) := by decide +kernel
theorem d_MO_table1_137 : decode b_MO_table1 137 = .ok (.bipush 20, 2) := by decide +kernel
theorem d_MO_table1_139 : decode b_MO_table1 139 = .ok (.invokevirtual 67, 3) := by decide +kernel
theorem d_MO_table1_142 : decode b_MO_table1 142 = .ok (.aload_n 0, 1) := by decide +kernel
theorem d_MO_table1_143 : decode b_MO_table1 143 = .ok (.sipush 8592, 3) := by decide +kernel
theorem d_MO_table1_146 : decode b_MO_table1 146 = .ok (.sipush 8596, 3) := by decide +kernel
theorem d_MO_table1_149 : decode b_MO_table1 149 = .ok (.bipush 20, 2) := by decide +kernel
theorem d_MO_table1_151 : decode b_MO_table1 151 = .ok (.invokevirtual 67, 3) := by decide +kernel
theorem d_MO_table1_154 : decode b_MO_table1 154 = .ok (.aload_n 0, 1) := by decide +kernel
theorem d_MO_table1_155 : decode b_MO_table1 155 = .ok (.bipush 45, 2) := by decide +kernel
theorem d_MO_table1_157 : decode b_MO_table1 157 = .ok (.bipush 45, 2) := by decide +kernel
theorem d_MO_table1_159 : decode b_MO_table1 159 = .ok (.bipush 12, 2) := by decide +kernel
theorem d_MO_table1_161 : decode b_MO_table1 161 = .ok (.invokevirtual 67, 3) := by decide +kernel
theorem d_MO_table1_164 : decode b_MO_table1 164 = .ok (.aload_n 0, 1) := by decide +kernel
theorem d_MO_table1_165 : decode b_MO_table1 165 = .ok (.sipush 8208, 3) := by decide +kernel
theorem d_MO_table1_168 : decode b_MO_table1 168 = .ok (.sipush 8213, 3) := by decide +kernel
theorem d_MO_table1_171 : decode b_MO_table1 171 = .ok (.bipush 12, 2) := by decide +kernel
theorem d_MO_table1_173 : decode b_MO_table1 173 = .ok (.invokevirtual 67, 3) := by decide +kernel
theorem d_MO_table1_176 : decode b_MO_table1 176 = .ok (.aload_n 0, 1) := by decide +kernel
theorem d_MO_table1_177 : decode b_MO_table1 177 = .ok (.bipush 48, 2) := by decide +kernel
theorem d_MO_table1_179 : decode b_MO_table1 179 = .ok (.bipush 57, 2) := by decide +kernel
theorem d_MO_table1_181 : decode b_MO_table1 181 = .ok (.bipush 8, 2) := by decide +kernel
theorem d_MO_table1_183 : decode b_MO_table1 183 = .ok (.invokevirtual 67, 3) := by decide +kernel
theorem d_MO_table1_186 : decode b_MO_table1 186 = .ok (.aload_n 0, 1) := by decide +kernel
theorem d_MO_table1_187 : decode b_MO_table1 187 = .ok (.sipush 1632, 3) := by decide +kernel
theorem d_MO_table1_190 : decode b_MO_table1 190 = .ok (.sipush 1641, 3) := by decide +kernel
theorem d_MO_table1_193 : decode b_MO_table1 193 = .ok (.bipush 8, 2) := by decide +kernel
theorem d_MO_table1_195 : decode b_MO_table1 195 = .ok (.invokevirtual 67, 3) := by decide +kernel
theorem d_MO_table1_198 : decode b_MO_table1 198 = .ok (.aload_n 0, 1) := by decide +kernel
theorem d_MO_table1_199 : decode b_MO_table1 199 = .ok (.bipush 94, 2) := by decide +kernel
theorem d_MO_table1_201 : decode b_MO_table1 201 = .ok (.bipush 94, 2) := by decide +kernel
theorem d_MO_table1_203 : decode b_MO_table1 203 = .ok (.bipush 19, 2) := by decide +kernel
theorem d_MO_table1_205 : decode b_MO_table1 205 = .ok (.invokevirtual 67, 3) := by decide +kernel
theorem d_MO_table1_208 : decode b_MO_table1 208 = .ok (.aload_n 0, 1) := by decide +kernel
theorem d_MO_table1_209 : decode b_MO_table1 209 = .ok (.bipush 96, 2) := by decide +kernel
theorem d_MO_table1_211 : decode b_MO_table1 211 = .ok (.bipush 96, 2) := by decide +kernel
theorem d_MO_table1_213 : decode b_MO_table1 213 = .ok (.bipush 19, 2) := by decide +kernel
theorem d_MO_table1_215 : decode b_MO_table1 215 = .ok (.invokevirtual 67, 3) := by decide +kernel
theorem d_MO_table1_218 : decode b_MO_table1 218 = .ok (.aload_n 0, 1) := by decide +kernel
theorem d_MO_table1_219 : decode b_MO_table1 219 = .ok (.sipush 168, 3) := by decide +kernel
theorem d_MO_table1_222 : decode b_MO_table1 222 = .ok (.sipush 168, 3) := by decide +kernel
theorem d_MO_table1_225 : decode b_MO_table1 225 = .ok (.bipush 19, 2) := by decide +kernel
theorem d_MO_table1_227 : decode b_MO_table1 227 = .ok (.invokevirtual 67, 3) := by decide +kernel
theorem d_MO_table1_230 : decode b_MO_table1 230 = .ok (.aload_n 0, 1) := by decide +kernel
theorem d_MO_table1_231 : decode b_MO_table1 231 = .ok (.sipush 175, 3) := by decide +kernel
theorem d_MO_table1_234 : decode b_MO_table1 234 = .ok (.sipush 175, 3) := by decide +kernel
theorem d_MO_table1_237 : decode b_MO_table1 237 = .ok (.bipush 19, 2) := by decide +kernel
theorem d_MO_table1_239 : decode b_MO_table1 239 = .ok (.invokevirtual 67, 3) := by decide +kernel
theorem d_MO_table1_242 : decode b_MO_table1 242 = .ok (.aload_n 0, 1) := by decide +kernel
theorem d_MO_table1_243 : decode b_MO_table1 243 = .ok (.sipush 180, 3) := by decide +kernel
theorem d_MO_table1_246 : decode b_MO_table1 246 = .ok (.sipush 180, 3) := by decide +kernel
theorem d_MO_table1_249 : decode b_MO_table1 249 = .ok (.bipush 19, 2) := by decide +kernel
theorem d_MO_table1_251 : decode b_MO_table1 251 = .ok (.invokevirtual 67, 3) := by decide +kernel
theorem d_MO_table1_254 : decode b_MO_table1 254 = .ok (.aload_n 0, 1) := by decide +kernel
theorem d_MO_table1_255 : decode b_MO_table1 255 = .ok (.sipush 184, 3) := by decide +kernel
theorem d_MO_table1_258 : decode b_MO_table1 258 = .ok (.sipush 184, 3) := by decide +kernel
theorem d_MO_table1_261 : decode b_MO_table1 261 = .ok (.bipush 19, 2) := by decide +kernel
theorem d_MO_table1_263 : decode b_MO_table1 263 = .ok (.invokevirtual 67, 3) := by decide +kernel
theorem d_MO_table1_266 : decode b_MO_table1 266 = .ok (.aload_n 0, 1) := by decide +kernel
theorem d_MO_table1_267 : decode b_MO_table1 267 = .ok (.bipush 95, 2) := by decide +kernel
theorem d_MO_table1_269 : decode b_MO_table1 269 = .ok (.bipush 95, 2) := by decide +kernel
theorem d_MO_table1_271 : decode b_MO_table1 271 = .ok (.bipush 11, 2) := by decide +kernel
theorem d_MO_table1_273 : decode b_MO_table1 273 = .ok (.invokevirtual 67, 3) := by decide +kernel
theorem d_MO_table1_276 : decode b_MO_table1 276 = .ok (.aload_n 0, 1) := by decide +kernel
theorem d_MO_table1_277 : decode b_MO_table1 277 = .ok (.sipush 166, 3) := by decide +kernel
theorem d_MO_table1_280 : decode b_MO_table1 280 = .ok (.sipush 166, 3) := by decide +kernel
theorem d_MO_table1_283 : decode b_MO_table1 283 = .ok (.bipush 21, 2) := by decide +kernel
theorem d_MO_table1_285 : decode b_MO_table1 285 = .ok (.invokevirtual 67, 3) := by decide +kernel
theorem d_MO_table1_288 : decode b_MO_table1 288 = .ok (.aload_n 0, 1) := by decide +kernel
theorem d_MO_table1_289 : decode b_MO_table1 289 = .ok (.sipush 169, 3) := by decide +kernel
theorem d_MO_table1_292 : decode b_MO_table1 292 = .ok (.sipush 169, 3) := by decide +kernel
theorem d_MO_table1_295 : decode b_MO_table1 295 = .ok (.bipush 21, 2) := by decide +kernel
theorem d_MO_table1_297 : decode b_MO_table1 297 = .ok (.invokevirtual 67, 3) := by decide +kernel
theorem d_MO_table1_300 : decode b_MO_table1 300 = .ok (.aload_n 0, 1) := by decide +kernel
theorem d_MO_table1_301 : decode b_MO_table1 301 = .ok (.sipush 174, 3) := by decide +kernel
theorem d_MO_table1_304 : decode b_MO_table1 304 = .ok (.sipush 174, 3) := by decide +kernel
theorem d_MO_table1_307 : decode b_MO_table1 307 = .ok (.bipush 21, 2) := by decide +kernel
theorem d_MO_table1_309 : decode b_MO_table1 309 = .ok (.invokevirtual 67, 3) := by decide +kernel
theorem d_MO_table1_312 : decode b_MO_table1 312 = .ok (.aload_n 0, 1) := by decide +kernel
theorem d_MO_table1_313 : decode b_MO_table1 313 = .ok (.sipush 176, 3) := by decide +kernel
theorem d_MO_table1_316 : decode b_MO_table1 316 = .ok (.sipush 176, 3) := by decide +kernel
theorem d_MO_table1_319 : decode b_MO_table1 319 = .ok (.bipush 21, 2) := by decide +kernel
theorem d_MO_table1_321 : decode b_MO_table1 321 = .ok (.invokevirtual 67, 3) := by decide +kernel
theorem d_MO_table1_324 : decode b_MO_table1 324 = .ok (.aload_n 0, 1) := by decide +kernel
theorem d_MO_table1_325 : decode b_MO_table1 325 = .ok (.sipush 170, 3) := by decide +kernel
theorem d_MO_table1_328 : decode b_MO_table1 328 = .ok (.sipush 170, 3) := by decide +kernel
theorem d_MO_table1_331 : decode b_MO_table1 331 = .ok (.iconst 5, 1) := by decide +kernel
theorem d_MO_table1_332 : decode b_MO_table1 332 = .ok (.invokevirtual 67, 3) := by decide +kernel
theorem d_MO_table1_335 : decode b_MO_table1 335 = .ok (.return_, 1) := by decide +kernel
theorem d_MO_table2_0 : decode b_MO_table2 0 = .ok (.aload_n 0, 1) := by decide +kernel
theorem d_MO_table2_1 : decode b_MO_table2 1 = .ok (.sipush 186, 3) := by decide +kernel
theorem d_MO_table2_4 : decode b_MO_table2 4 = .ok (.sipush 186, 3) := by decide +kernel
theorem d_MO_table2_7 : decode b_MO_table2 7 = .ok (.iconst 5, 1) := by decide +kernel
theorem d_MO_table2_8 : decode b_MO_table2 8 = .ok (.invokevirtual 67, 3) := by decide +kernel
theorem d_MO_table2_11 : decode b_MO_table2 11 = .ok (.aload_n 0, 1) := by decide +kernel
theorem d_MO_table2_12 : decode b_MO_table2 12 = .ok (.sipush 1488, 3) := by decide +kernel
theorem d_MO_table2_15 : decode b_MO_table2 15 = .ok (.sipush 1514, 3) := by decide +kernel
theorem d_MO_table2_18 : decode b_MO_table2 18 = .ok (.iconst 5, 1) := by decide +kernel
theorem d_MO_table2_19 : decode b_MO_table2 19 = .ok (.invokevirtual 67, 3) := by decide +kernel
theorem d_MO_table2_22 : decode b_MO_table2 22 = .ok (.aload_n 0, 1) := by decide +kernel
theorem d_MO_table2_23 : decode b_MO_table2 23 = .ok (.sipush 1568, 3) := by decide +kernel
theorem d_MO_table2_26 : decode b_MO_table2 26 = .ok (.sipush 1599, 3) := by decide +kernel
theorem d_MO_table2_29 : decode b_MO_table2 29 = .ok (.iconst 5, 1) := by decide +kernel
theorem d_MO_table2_30 : decode b_MO_table2 30 = .ok (.invokevirtual 67, 3) := by decide +kernel
theorem d_MO_table2_33 : decode b_MO_table2 33 = .ok (.aload_n 0, 1) := by decide +kernel
theorem d_MO_table2_34 : decode b_MO_table2 34 = .ok (.sipush 1601, 3) := by decide +kernel
theorem d_MO_table2_37 : decode b_MO_table2 37 = .ok (.sipush 1610, 3) := by decide +kernel
theorem d_MO_table2_40 : decode b_MO_table2 40 = .ok (.iconst 5, 1) := by decide +kernel
theorem d_MO_table2_41 : decode b_MO_table2 41 = .ok (.invokevirtual 67, 3) := by decide +kernel
theorem d_MO_table2_44 : decode b_MO_table2 44 = .ok (.aload_n 0, 1) := by decide +kernel
theorem d_MO_table2_45 : decode b_MO_table2 45 = .ok (.sipush 12353, 3) := by decide +kernel
theorem d_MO_table2_48 : decode b_MO_table2 48 = .ok (.sipush 12438, 3) := by decide +kernel
theorem d_MO_table2_51 : decode b_MO_table2 51 = .ok (.iconst 5, 1) := by decide +kernel
theorem d_MO_table2_52 : decode b_MO_table2 52 = .ok (.invokevirtual 67, 3) := by decide +kernel
theorem d_MO_table2_55 : decode b_MO_table2 55 = .ok (.aload_n 0, 1) := by decide +kernel
theorem d_MO_table2_56 : decode b_MO_table2 56 = .ok (.sipush 12449, 3) := by decide +kernel
theorem d_MO_table2_59 : decode b_MO_table2 59 = .ok (.sipush 12538, 3) := by decide +kernel
theorem d_MO_table2_62 : decode b_MO_table2 62 = .ok (.iconst 5, 1) := by decide +kernel
theorem d_MO_table2_63 : decode b_MO_table2 63 = .ok (.invokevirtual 67, 3) := by decide +kernel
theorem d_MO_table2_66 : decode b_MO_table2 66 = .ok (.aload_n 0, 1) := by decide +kernel
theorem d_MO_table2_67 : decode b_MO_table2 67 = .ok (.sipush 171, 3) := by decide +kernel
theorem d_MO_table2_70 : decode b_MO_table2 70 = .ok (.sipush 171, 3) := by decide +kernel
theorem d_MO_table2_73 : decode b_MO_table2 73 = .ok (.bipush 15, 2) := by decide +kernel
theorem d_MO_table2_75 : decode b_MO_table2 75 = .ok (.invokevirtual 67, 3) := by decide +kernel
theorem d_MO_table2_78 : decode b_MO_table2 78 = .ok (.aload_n 0, 1) := by decide +kernel
theorem d_MO_table2_79 : decode b_MO_table2 79 = .ok (.sipush 8216, 3) := by decide +kernel
theorem d_MO_table2_82 : decode b_MO_table2 82 = .ok (.sipush 8216, 3) := by decide +kernel
theorem d_MO_table2_85 : decode b_MO_table2 85 = .ok (.bipush 15, 2) := by decide +kernel
theorem d_MO_table2_87 : decode b_MO_table2 87 = .ok (.invokevirtual 67, 3) := by decide +kernel
theorem d_MO_table2_90 : decode b_MO_table2 90 = .ok (.aload_n 0, 1) := by decide +kernel
theorem d_MO_table2_91 : decode b_MO_table2 91 = .ok (.sipush 8219, 3) := by decide +kernel
theorem d_MO_table2_94 : decode b_MO_table2 94 = .ok (.sipush 8220, 3) := by decide +kernel
theorem d_MO_table2_97 : decode b_MO_table2 97 = .ok (.bipush 15, 2) := by decide +kernel
theorem d_MO_table2_99 : decode b_MO_table2 99 = .ok (.invokevirtual 67, 3) := by decide +kernel
theorem d_MO_table2_102 : decode b_MO_table2 102 = .ok (.aload_n 0, 1) := by decide +kernel
theorem d_MO_table2_103 : decode b_MO_table2 103 = .ok (.sipush 8223, 3) := by decide +kernel
theorem d_MO_table2_106 : decode b_MO_table2 106 = .ok (.sipush 8223, 3) := by decide +kernel
theorem d_MO_table2_109 : decode b_MO_table2 109 = .ok (.bipush 15, 2) := by decide +kernel
theorem d_MO_table2_111 : decode b_MO_table2 111 = .ok (.invokevirtual 67, 3) := by decide +kernel
theorem d_MO_table2_114 : decode b_MO_table2 114 = .ok (.aload_n 0, 1) := by decide +kernel
theorem d_MO_table2_115 : decode b_MO_table2 115 = .ok (.sipush 187, 3) := by decide +kernel
theorem d_MO_table2_118 : decode b_MO_table2 118 = .ok (.sipush 187, 3) := by decide +kernel
theorem d_MO_table2_121 : decode b_MO_table2 121 = .ok (.bipush 14, 2) := by decide +kernel
theorem d_MO_table2_123 : decode b_MO_table2 123 = .ok (.invokevirtual 67, 3) := by decide +kernel
theorem d_MO_table2_126 : decode b_MO_table2 126 = .ok (.aload_n 0, 1) := by decide +kernel
theorem d_MO_table2_127 : decode b_MO_table2 127 = .ok (.sipush 8217, 3) := by decide +kernel
theorem d_MO_table2_130 : decode b_MO_table2 130 = .ok (.sipush 8217, 3) := by decide +kernel
theorem d_MO_table2_133 : decode b_MO_table2 133 = .ok (.bipush 14, 2) := by decide +kernel
theorem d_MO_table2_135 : decode b_MO_table2 135 = .ok (.invokevirtual 67, 3) := by decide +kernel
theorem d_MO_table2_138 : decode b_MO_table2 138 = .ok (.aload_n 0, 1) := by decide +kernel
theorem d_MO_table2_139 : decode b_MO_table2 139 = .ok (.sipush 8221, 3) := by decide +kernel
theorem d_MO_table2_142 : decode b_MO_table2 142 = .ok (.sipush 8221, 3) := by decide +kernel
theorem d_MO_table2_145 : decode b_MO_table2 145 = .ok (.bipush 14, 2) := by decide +kernel
theorem d_MO_table2_147 : decode b_MO_table2 147 = .ok (.invokevirtual 67, 3) := by decide +kernel
theorem d_MO_table2_150 : decode b_MO_table2 150 = .ok (.aload_n 0, 1) := by decide +kernel
theorem d_MO_table2_151 : decode b_MO_table2 151 = .ok (.sipush 173, 3) := by decide +kernel
theorem d_MO_table2_154 : decode b_MO_table2 154 = .ok (.sipush 173, 3) := by decide +kernel
theorem d_MO_table2_157 : decode b_MO_table2 157 = .ok (.iconst 2, 1) := by decide +kernel
theorem d_MO_table2_158 : decode b_MO_table2 158 = .ok (.invokevirtual 67, 3) := by decide +kernel
theorem d_MO_table2_161 : decode b_MO_table2 161 = .ok (.aload_n 0, 1) := by decide +kernel
theorem d_MO_table2_162 : decode b_MO_table2 162 = .ok (.sipush 8203, 3) := by decide +kernel
theorem d_MO_table2_165 : decode b_MO_table2 165 = .ok (.sipush 8207, 3) := by decide +kernel
theorem d_MO_table2_168 : decode b_MO_table2 168 = .ok (.iconst 2, 1) := by decide +kernel
theorem d_MO_table2_169 : decode b_MO_table2 169 = .ok (.invokevirtual 67, 3) := by decide +kernel
theorem d_MO_table2_172 : decode b_MO_table2 172 = .ok (.aload_n 0, 1) := by decide +kernel
theorem d_MO_table2_173 : decode b_MO_table2 173 = .ok (.sipush 178, 3) := by decide +kernel
theorem d_MO_table2_176 : decode b_MO_table2 176 = .ok (.sipush 179, 3) := by decide +kernel
theorem d_MO_table2_179 : decode b_MO_table2 179 = .ok (.bipush 10, 2) := by decide +kernel
theorem d_MO_table2_181 : decode b_MO_table2 181 = .ok (.invokevirtual 67, 3) := by decide +kernel
theorem d_MO_table2_184 : decode b_MO_table2 184 = .ok (.aload_n 0, 1) := by decide +kernel
theorem d_MO_table2_185 : decode b_MO_table2 185 = .ok (.sipush 185, 3) := by decide +kernel
theorem d_MO_table2_188 : decode b_MO_table2 188 = .ok (.sipush 185, 3) := by decide +kernel
theorem d_MO_table2_191 : decode b_MO_table2 191 = .ok (.bipush 10, 2) := by decide +kernel
theorem d_MO_table2_193 : decode b_MO_table2 193 = .ok (.invokevirtual 67, 3) := by decide +kernel
theorem d_MO_table2_196 : decode b_MO_table2 196 = .ok (.aload_n 0, 1) := by decide +kernel
theorem d_MO_table2_197 : decode b_MO_table2 197 = .ok (.sipush 188, 3) := by decide +kernel
theorem d_MO_table2_200 : decode b_MO_table2 200 = .ok (.sipush 190, 3) := by decide +kernel
theorem d_MO_table2_203 : decode b_MO_table2 203 = .ok (.bipush 10, 2) := by decide +kernel
theorem d_MO_table2_205 : decode b_MO_table2 205 = .ok (.invokevirtual 67, 3) := by decide +kernel
theorem d_MO_table2_208 : decode b_MO_table2 208 = .ok (.aload_n 0, 1) := by decide +kernel
theorem d_MO_table2_209 : decode b_MO_table2 209 = .ok (.sipush 8544, 3) := by decide +kernel
theorem d_MO_table2_212 : decode b_MO_table2 212 = .ok (.sipush 8559, 3) := by decide +kernel
theorem d_MO_table2_215 : decode b_MO_table2 215 = .ok (.bipush 9, 2) := by decide +kernel
theorem d_MO_table2_217 : decode b_MO_table2 217 = .ok (.invokevirtual 67, 3) := by decide +kernel
theorem d_MO_table2_220 : decode b_MO_table2 220 = .ok (.aload_n 0, 1) := by decide +kernel
theorem d_MO_table2_221 : decode b_MO_table2 221 = .ok (.sipush 768, 3) := by decide +kernel
theorem d_MO_table2_224 : decode b_MO_table2 224 = .ok (.sipush 879, 3) := by decide +kernel
theorem d_MO_table2_227 : decode b_MO_table2 227 = .ok (.bipush 7, 2) := by decide +kernel
theorem d_MO_table2_229 : decode b_MO_table2 229 = .ok (.invokevirtual 67, 3) := by decide +kernel
theorem d_MO_table2_232 : decode b_MO_table2 232 = .ok (.aload_n 0, 1) := by decide +kernel
theorem d_MO_table2_233 : decode b_MO_table2 233 = .ok (.bipush 97, 2) := by decide +kernel
theorem d_MO_table2_235 : decode b_MO_table2 235 = .ok (.bipush 122, 2) := by decide +kernel
theorem d_MO_table2_237 : decode b_MO_table2 237 = .ok (.iconst 4, 1) := by decide +kernel
theorem d_MO_table2_238 : decode b_MO_table2 238 = .ok (.invokevirtual 67, 3) := by decide +kernel
theorem d_MO_table2_241 : decode b_MO_table2 241 = .ok (.aload_n 0, 1) := by decide +kernel
theorem d_MO_table2_242 : decode b_MO_table2 242 = .ok (.sipush 181, 3) := by decide +kernel
theorem d_MO_table2_245 : decode b_MO_table2 245 = .ok (.sipush 181, 3) := by decide +kernel
theorem d_MO_table2_248 : decode b_MO_table2 248 = .ok (.iconst 4, 1) := by decide +kernel
theorem d_MO_table2_249 : decode b_MO_table2 249 = .ok (.invokevirtual 67, 3) := by decide +kernel
theorem d_MO_table2_252 : decode b_MO_table2 252 = .ok (.aload_n 0, 1) := by decide +kernel
theorem d_MO_table2_253 : decode b_MO_table2 253 = .ok (.sipush 223, 3) := by decide +kernel
theorem d_MO_table2_256 : decode b_MO_table2 256 = .ok (.sipush 246, 3) := by decide +kernel
theorem d_MO_table2_259 : decode b_MO_table2 259 = .ok (.iconst 4, 1) := by decide +kernel
theorem d_MO_table2_260 : decode b_MO_table2 260 = .ok (.invokevirtual 67, 3) := by decide +kernel
theorem d_MO_table2_263 : decode b_MO_table2 263 = .ok (.aload_n 0, 1) := by decide +kernel
theorem d_MO_table2_264 : decode b_MO_table2 264 = .ok (.sipush 248, 3) := by decide +kernel
theorem d_MO_table2_267 : decode b_MO_table2 267 = .ok (.sipush 255, 3) := by decide +kernel
theorem d_MO_table2_270 : decode b_MO_table2 270 = .ok (.iconst 4, 1) := by decide +kernel
theorem d_MO_table2_271 : decode b_MO_table2 271 = .ok (.invokevirtual 67, 3) := by decide +kernel
theorem d_MO_table2_274 : decode b_MO_table2 274 = .ok (.aload_n 0, 1) := by decide +kernel
theorem d_MO_table2_275 : decode b_MO_table2 275 = .ok (.sipush 945, 3) := by decide +kernel
theorem d_MO_table2_278 : decode b_MO_table2 278 = .ok (.sipush 969, 3) := by decide +kernel
theorem d_MO_table2_281 : decode b_MO_table2 281 = .ok (.iconst 4, 1) := by decide +kernel
theorem d_MO_table2_282 : decode b_MO_table2 282 = .ok (.invokevirtual 67, 3) := by decide +kernel
theorem d_MO_table2_285 : decode b_MO_table2 285 = .ok (.aload_n 0, 1) := by decide +kernel
theorem d_MO_table2_286 : decode b_MO_table2 286 = .ok (.sipush 1072, 3) := by decide +kernel
theorem d_MO_table2_289 : decode b_MO_table2 289 = .ok (.sipush 1119, 3) := by decide +kernel
theorem d_MO_table2_292 : decode b_MO_table2 292 = .ok (.iconst 4, 1) := by decide +kernel
theorem d_MO_table2_293 : decode b_MO_table2 293 = .ok (.invokevirtual 67, 3) := by decide +kernel
theorem d_MO_table2_296 : decode b_MO_table2 296 = .ok (.aload_n 0, 1) := by decide +kernel
theorem d_MO_table2_297 : decode b_MO_table2 297 = .ok (.sipush 256, 3) := by decide +kernel
theorem d_MO_table2_300 : decode b_MO_table2 300 = .ok (.sipush 383, 3) := by decide +kernel
theorem d_MO_table2_303 : decode b_MO_table2 303 = .ok (.iconst 4, 1) := by decide +kernel
theorem d_MO_table2_304 : decode b_MO_table2 304 = .ok (.invokevirtual 67, 3) := by decide +kernel
theorem d_MO_table2_307 : decode b_MO_table2 307 = .ok (.aload_n 0, 1) := by decide +kernel
theorem d_MO_table2_308 : decode b_MO_table2 308 = .ok (.bipush 65, 2) := by decide +kernel
theorem d_MO_table2_310 : decode b_MO_table2 310 = .ok (.bipush 90, 2) := by decide +kernel
theorem d_MO_table2_312 : decode b_MO_table2 312 = .ok (.bipush 6, 2) := by decide +kernel
theorem d_MO_table2_314 : decode b_MO_table2 314 = .ok (.invokevirtual 67, 3) := by decide +kernel
theorem d_MO_table2_317 : decode b_MO_table2 317 = .ok (.aload_n 0, 1) := by decide +kernel
theorem d_MO_table2_318 : decode b_MO_table2 318 = .ok (.sipush 192, 3) := by decide +kernel
theorem d_MO_table2_321 : decode b_MO_table2 321 = .ok (.sipush 214, 3) := by decide +kernel
theorem d_MO_table2_324 : decode b_MO_table2 324 = .ok (.bipush 6, 2) := by decide +kernel
theorem d_MO_table2_326 : decode b_MO_table2 326 = .ok (.invokevirtual 67, 3) := by decide +kernel
theorem d_MO_table2_329 : decode b_MO_table2 329 = .ok (.aload_n 0, 1) := by decide +kernel
theorem d_MO_table2_330 : decode b_MO_table2 330 = .ok (.sipush 216, 3) := by decide +kernel
theorem d_MO_table2_333 : decode b_MO_table2 333 = .ok (.sipush 222, 3) := by decide +kernel
theorem d_MO_table2_336 : decode b_MO_table2 336 = .ok (.bipush 6, 2) := by decide +kernel
theorem d_MO_table2_338 : decode b_MO_table2 338 = .ok (.invokevirtual 67, 3) := by decide +kernel
theorem d_MO_table2_341 : decode b_MO_table2 341 = .ok (.return_, 1) := by decide +kernel
theorem d_MO_table3_0 : decode b_MO_table3 0 = .ok (.aload_n 0, 1) := by decide +kernel
theorem d_MO_table3_1 : decode b_MO_table3 1 = .ok (.sipush 913, 3) := by decide +kernel
theorem d_MO_table3_4 : decode b_MO_table3 4 = .ok (.sipush 929, 3) := by decide +kernel
theorem d_MO_table3_7 : decode b_MO_table3 7 = .ok (.bipush 6, 2) := by decide +kernel
theorem d_MO_table3_9 : decode b_MO_table3 9 = .ok (.invokevirtual 67, 3) := by decide +kernel
theorem d_MO_table3_12 : decode b_MO_table3 12 = .ok (.aload_n 0, 1) := by decide +kernel
theorem d_MO_table3_13 : decode b_MO_table3 13 = .ok (.sipush 931, 3) := by decide +kernel
theorem d_MO_table3_16 : decode b_MO_table3 16 = .ok (.sipush 937, 3) := by decide +kernel
theorem d_MO_table3_19 : decode b_MO_table3 19 = .ok (.bipush 6, 2) := by decide +kernel
theorem d_MO_table3_21 : decode b_MO_table3 21 = .ok (.invokevirtual 67, 3) := by decide +kernel
theorem d_MO_table3_24 : decode b_MO_table3 24 = .ok (.aload_n 0, 1) := by decide +kernel
theorem d_MO_table3_25 : decode b_MO_table3 25 = .ok (.sipush 1024, 3) := by decide +kernel
theorem d_MO_table3_28 : decode b_MO_table3 28 = .ok (.sipush 1071, 3) := by decide +kernel
theorem d_MO_table3_31 : decode b_MO_table3 31 = .ok (.bipush 6, 2) := by decide +kernel
theorem d_MO_table3_33 : decode b_MO_table3 33 = .ok (.invokevirtual 67, 3) := by decide +kernel
theorem d_MO_table3_36 : decode b_MO_table3 36 = .ok (.aload_n 0, 1) := by decide +kernel
theorem d_MO_table3_37 : decode b_MO_table3 37 = .ok (.sipush 376, 3) := by decide +kernel
theorem d_MO_table3_40 : decode b_MO_table3 40 = .ok (.sipush 376, 3) := by decide +kernel
theorem d_MO_table3_43 : decode b_MO_table3 43 = .ok (.bipush 6, 2) := by decide +kernel
theorem d_MO_table3_45 : decode b_MO_table3 45 = .ok (.invokevirtual 67, 3) := by decide +kernel
theorem d_MO_table3_48 : decode b_MO_table3 48 = .ok (.aload_n 0, 1) := by decide +kernel
theorem d_MO_table3_49 : decode b_MO_table3 49 = .ok (.sipush 8490, 3) := by decide +kernel
theorem d_MO_table3_52 : decode b_MO_table3 52 = .ok (.sipush 8490, 3) := by decide +kernel
theorem d_MO_table3_55 : decode b_MO_table3 55 = .ok (.bipush 6, 2) := by decide +kernel
theorem d_MO_table3_57 : decode b_MO_table3 57 = .ok (.invokevirtual 67, 3) := by decide +kernel
theorem d_MO_table3_60 : decode b_MO_table3 60 = .ok (.aload_n 0, 1) := by decide +kernel
theorem d_MO_table3_61 : decode b_MO_table3 61 = .ok (.sipush 8491, 3) := by decide +kernel
theorem d_MO_table3_64 : decode b_MO_table3 64 = .ok (.sipush 8491, 3) := by decide +kernel
theorem d_MO_table3_67 : decode b_MO_table3 67 = .ok (.bipush 6, 2) := by decide +kernel
theorem d_MO_table3_69 : decode b_MO_table3 69 = .ok (.invokevirtual 67, 3) := by decide +kernel
theorem d_MO_table3_72 : decode b_MO_table3 72 = .ok (.return_, 1) := by decide +kernel
theorem d_MO_category_0 : decode b_MO_category 0 = .ok (.iload_n 1, 1) := by decide +kernel
theorem d_MO_category_1 : decode b_MO_category 1 = .ok (.sipush 12544, 3) := by decide +kernel
theorem d_MO_category_4 : decode b_MO_category 4 = .ok (.if_icmp .ge 10, 3) := by decide +kernel
theorem d_MO_category_7 : decode b_MO_category 7 = .ok (.aload_n 0, 1) := by decide +kernel
theorem d_MO_category_8 : decode b_MO_category 8 = .ok (.getfield 14, 3) := by decide +kernel
theorem d_MO_category_11 : decode b_MO_category 11 = .ok (.iload_n 1, 1) := by decide +kernel
theorem d_MO_category_12 : decode b_MO_category 12 = .ok (.baload, 1) := by decide +kernel
theorem d_MO_category_13 : decode b_MO_category 13 = .ok (.ireturn, 1) := by decide +kernel
theorem d_MO_category_14 : decode b_MO_category 14 = .ok (.iload_n 1, 1) := by decide +kernel
theorem d_MO_category_15 : decode b_MO_category 15 = .ok (.sipush 19968, 3) := by decide +kernel
theorem d_MO_category_18 : decode b_MO_category 18 = .ok (.if_icmp .lt 9, 3) := by decide +kernel
theorem d_MO_category_21 : decode b_MO_category 21 = .ok (.iload_n 1, 1) := by decide +kernel
theorem d_MO_category_22 : decode b_MO_category 22 = .ok (.ldc 71, 2) := by decide +kernel
theorem d_MO_category_24 : decode b_MO_category 24 = .ok (.if_icmp .le 15, 3) := by decide +kernel
theorem d_MO_category_27 : decode b_MO_category 27 = .ok (.iload_n 1, 1) := by decide +kernel
theorem d_MO_category_28 : decode b_MO_category 28 = .ok (.ldc 27, 2) := by decide +kernel
theorem d_MO_category_30 : decode b_MO_category 30 = .ok (.if_icmp .lt 11, 3) := by decide +kernel
theorem d_MO_category_33 : decode b_MO_category 33 = .ok (.iload_n 1, 1) := by decide +kernel
theorem d_MO_category_34 : decode b_MO_category 34 = .ok (.ldc 72, 2) := by decide +kernel
theorem d_MO_category_36 : decode b_MO_category 36 = .ok (.if_icmp .gt 5, 3) := by decide +kernel
theorem d_MO_category_39 : decode b_MO_category 39 = .ok (.iconst 5, 1) := by decide +kernel
theorem d_MO_category_40 : decode b_MO_category 40 = .ok (.ireturn, 1) := by decide +kernel
theorem d_MO_category_41 : decode b_MO_category 41 = .ok (.iload_n 1, 1) := by decide +kernel
theorem d_MO_category_42 : decode b_MO_category 42 = .ok (.ldc 29, 2) := by decide +kernel
theorem d_MO_category_44 : decode b_MO_category 44 = .ok (.if_icmp .lt 11, 3) := by decide +kernel
theorem d_MO_category_47 : decode b_MO_category 47 = .ok (.iload_n 1, 1) := by decide +kernel
theorem d_MO_category_48 : decode b_MO_category 48 = .ok (.ldc 73, 2) := by decide +kernel
theorem d_MO_category_50 : decode b_MO_category 50 = .ok (.if_icmp .gt 5, 3) := by decide +kernel
theorem d_MO_category_53 : decode b_MO_category 53 = .ok (.iconst 3, 1) := by decide +kernel
theorem d_MO_category_54 : decode b_MO_category 54 = .ok (.ireturn, 1) := by decide +kernel
theorem d_MO_category_55 : decode b_MO_category 55 = .ok (.iload_n 1, 1) := by decide +kernel
theorem d_MO_category_56 : decode b_MO_category 56 = .ok (.ldc 31, 2) := by decide +kernel
theorem d_MO_category_58 : decode b_MO_category 58 = .ok (.if_icmp .ne 6, 3) := by decide +kernel
theorem d_MO_category_61 : decode b_MO_category 61 = .ok (.bipush 7, 2) := by decide +kernel
theorem d_MO_category_63 : decode b_MO_category 63 = .ok (.ireturn, 1) := by decide +kernel
theorem d_MO_category_64 : decode b_MO_category 64 = .ok (.iload_n 1, 1) := by decide +kernel
theorem d_MO_category_65 : decode b_MO_category 65 = .ok (.ldc 33, 2) := by decide +kernel
theorem d_MO_category_67 : decode b_MO_category 67 = .ok (.if_icmp .ne 5, 3) := by decide +kernel
theorem d_MO_category_70 : decode b_MO_category 70 = .ok (.iconst 2, 1) := by decide +kernel
theorem d_MO_category_71 : decode b_MO_category 71 = .ok (.ireturn, 1) := by decide +kernel
theorem d_MO_category_72 : decode b_MO_category 72 = .ok (.iload_n 1, 1) := by decide +kernel
theorem d_MO_category_73 : decode b_MO_category 73 = .ok (.ldc 35, 2) := by decide +kernel
theorem d_MO_category_75 : decode b_MO_category 75 = .ok (.if_icmp .lt 14, 3) := by decide +kernel
theorem d_MO_category_78 : decode b_MO_category 78 = .ok (.iload_n 1, 1) := by decide +kernel
theorem d_MO_category_79 : decode b_MO_category 79 = .ok (.ldc 74, 2) := by decide +kernel
theorem d_MO_category_81 : decode b_MO_category 81 = .ok (.if_icmp .gt 8, 3) := by decide +kernel
theorem d_MO_category_84 : decode b_MO_category 84 = .ok (.bipush 21, 2) := by decide +kernel
theorem d_MO_category_86 : decode b_MO_category 86 = .ok (.goto 4, 3) := by decide +kernel
theorem d_MO_category_89 : decode b_MO_category 89 = .ok (.iconst 0, 1) := by decide +kernel
theorem d_MO_category_90 : decode b_MO_category 90 = .ok (.ireturn, 1) := by decide +kernel
end
section
theorem d_MO_script_0 : decode b_MO_script 0 = .ok (.aload_n 0, 1) := by decide +kernel
theorem d_MO_script_1 : decode b_MO_script 1 = .ok (.iload_n 1, 1) := by decide +kernel
theorem d_MO_script_2 : decode b_MO_script 2 = .ok (.invokevirtual 75, 3) := by decide +kernel
theorem d_MO_script_5 : decode b_MO_script 5 = .ok (.istore_n 2, 1) := by decide +kernel
theorem d_MO_script_6 : decode b_MO_script 6 = .ok (.iload_n 2, 1) := by decide +kernel
theorem d_MO_script_7 : decode b_MO_script 7 = .ok (.ifCond .eq 8, 3) := by decide +kernel
theorem d_MO_script_10 : decode b_MO_script 10 = .ok (.iload_n 2, 1) := by decide +kernel
theorem d_MO_script_11 : decode b_MO_script 11 = .ok (.iconst 3, 1) := by decide +kernel
theorem d_MO_script_12 : decode b_MO_script 12 = .ok (.if_icmp .ne 5, 3) := by decide +kernel
theorem d_MO_script_15 : decode b_MO_script 15 = .ok (.iconst 0, 1) := by decide +kernel
theorem d_MO_script_16 : decode b_MO_script 16 = .ok (.ireturn, 1) := by decide +kernel
theorem d_MO_script_17 : decode b_MO_script 17 = .ok (.iload_n 1, 1) := by decide +kernel
theorem d_MO_script_18 : decode b_MO_script 18 = .ok (.sipush 170, 3) := by decide +kernel
theorem d_MO_script_21 : decode b_MO_script 21 = .ok (.if_icmp .eq 49, 3) := by decide +kernel
theorem d_MO_script_24 : decode b_MO_script 24 = .ok (.iload_n 1, 1) := by decide +kernel
theorem d_MO_script_25 : decode b_MO_script 25 = .ok (.sipush 186, 3) := by decide +kernel
theorem d_MO_script_28 : decode b_MO_script 28 = .ok (.if_icmp .eq 42, 3) := by decide +kernel
theorem d_MO_script_31 : decode b_MO_script 31 = .ok (.iload_n 1, 1) := by decide +kernel
theorem d_MO_script_32 : decode b_MO_script 32 = .ok (.sipush 8490, 3) := by decide +kernel
theorem d_MO_script_35 : decode b_MO_script 35 = .ok (.if_icmp .eq 35, 3) := by decide +kernel
theorem d_MO_script_38 : decode b_MO_script 38 = .ok (.iload_n 1, 1) := by decide +kernel
theorem d_MO_script_39 : decode b_MO_script 39 = .ok (.sipush 8491, 3) := by decide +kernel
theorem d_MO_script_42 : decode b_MO_script 42 = .ok (.if_icmp .eq 28, 3) := by decide +kernel
theorem d_MO_script_45 : decode b_MO_script 45 = .ok (.iload_n 1, 1) := by decide +kernel
theorem d_MO_script_46 : decode b_MO_script 46 = .ok (.sipush 384, 3) := by decide +kernel
theorem d_MO_script_49 : decode b_MO_script 49 = .ok (.if_icmp .ge 23, 3) := by decide +kernel
theorem d_MO_script_52 : decode b_MO_script 52 = .ok (.iload_n 1, 1) := by decide +kernel
theorem d_MO_script_53 : decode b_MO_script 53 = .ok (.sipush 181, 3) := by decide +kernel
theorem d_MO_script_56 : decode b_MO_script 56 = .ok (.if_icmp .eq 16, 3) := by decide +kernel
theorem d_MO_script_59 : decode b_MO_script 59 = .ok (.iload_n 2, 1) := by decide +kernel
theorem d_MO_script_60 : decode b_MO_script 60 = .ok (.iconst 4, 1) := by decide +kernel
theorem d_MO_script_61 : decode b_MO_script 61 = .ok (.if_icmp .eq 9, 3) := by decide +kernel
theorem d_MO_script_64 : decode b_MO_script 64 = .ok (.iload_n 2, 1) := by decide +kernel
theorem d_MO_script_65 : decode b_MO_script 65 = .ok (.bipush 6, 2) := by decide +kernel
theorem d_MO_script_67 : decode b_MO_script 67 = .ok (.if_icmp .ne 5, 3) := by decide +kernel
theorem d_MO_script_70 : decode b_MO_script 70 = .ok (.iconst 2, 1) := by decide +kernel
theorem d_MO_script_71 : decode b_MO_script 71 = .ok (.ireturn, 1) := by decide +kernel
theorem d_MO_script_72 : decode b_MO_script 72 = .ok (.iload_n 1, 1) := by decide +kernel
theorem d_MO_script_73 : decode b_MO_script 73 = .ok (.sipush 913, 3) := by decide +kernel
theorem d_MO_script_76 : decode b_MO_script 76 = .ok (.if_icmp .lt 12, 3) := by decide +kernel
theorem d_MO_script_79 : decode b_MO_script 79 = .ok (.iload_n 1, 1) := by decide +kernel
theorem d_MO_script_80 : decode b_MO_script 80 = .ok (.sipush 969, 3) := by decide +kernel
theorem d_MO_script_83 : decode b_MO_script 83 = .ok (.if_icmp .gt 5, 3) := by decide +kernel
theorem d_MO_script_86 : decode b_MO_script 86 = .ok (.iconst 3, 1) := by decide +kernel
theorem d_MO_script_87 : decode b_MO_script 87 = .ok (.ireturn, 1) := by decide +kernel
theorem d_MO_script_88 : decode b_MO_script 88 = .ok (.iload_n 1, 1) := by decide +kernel
theorem d_MO_script_89 : decode b_MO_script 89 = .ok (.sipush 1024, 3) := by decide +kernel
theorem d_MO_script_92 : decode b_MO_script 92 = .ok (.if_icmp .lt 12, 3) := by decide +kernel
theorem d_MO_script_95 : decode b_MO_script 95 = .ok (.iload_n 1, 1) := by decide +kernel
theorem d_MO_script_96 : decode b_MO_script 96 = .ok (.sipush 1119, 3) := by decide +kernel
theorem d_MO_script_99 : decode b_MO_script 99 = .ok (.if_icmp .gt 5, 3) := by decide +kernel
theorem d_MO_script_102 : decode b_MO_script 102 = .ok (.iconst 4, 1) := by decide +kernel
theorem d_MO_script_103 : decode b_MO_script 103 = .ok (.ireturn, 1) := by decide +kernel
theorem d_MO_script_104 : decode b_MO_script 104 = .ok (.iload_n 1, 1) := by decide +kernel
theorem d_MO_script_105 : decode b_MO_script 105 = .ok (.sipush 1488, 3) := by decide +kernel
theorem d_MO_script_108 : decode b_MO_script 108 = .ok (.if_icmp .lt 12, 3) := by decide +kernel
theorem d_MO_script_111 : decode b_MO_script 111 = .ok (.iload_n 1, 1) := by decide +kernel
theorem d_MO_script_112 : decode b_MO_script 112 = .ok (.sipush 1514, 3) := by decide +kernel
theorem d_MO_script_115 : decode b_MO_script 115 = .ok (.if_icmp .gt 5, 3) := by decide +kernel
theorem d_MO_script_118 : decode b_MO_script 118 = .ok (.iconst 5, 1) := by decide +kernel
theorem d_MO_script_119 : decode b_MO_script 119 = .ok (.ireturn, 1) := by decide +kernel
theorem d_MO_script_120 : decode b_MO_script 120 = .ok (.iload_n 1, 1) := by decide +kernel
theorem d_MO_script_121 : decode b_MO_script 121 = .ok (.sipush 1568, 3) := by decide +kernel
theorem d_MO_script_124 : decode b_MO_script 124 = .ok (.if_icmp .lt 13, 3) := by decide +kernel
theorem d_MO_script_127 : decode b_MO_script 127 = .ok (.iload_n 1, 1) := by decide +kernel
theorem d_MO_script_128 : decode b_MO_script 128 = .ok (.sipush 1610, 3) := by decide +kernel
theorem d_MO_script_131 : decode b_MO_script 131 = .ok (.if_icmp .gt 6, 3) := by decide +kernel
theorem d_MO_script_134 : decode b_MO_script 134 = .ok (.bipush 6, 2) := by decide +kernel
theorem d_MO_script_136 : decode b_MO_script 136 = .ok (.ireturn, 1) := by decide +kernel
theorem d_MO_script_137 : decode b_MO_script 137 = .ok (.iload_n 1, 1) := by decide +kernel
theorem d_MO_script_138 : decode b_MO_script 138 = .ok (.sipush 12353, 3) := by decide +kernel
theorem d_MO_script_141 : decode b_MO_script 141 = .ok (.if_icmp .lt 13, 3) := by decide +kernel
theorem d_MO_script_144 : decode b_MO_script 144 = .ok (.iload_n 1, 1) := by decide +kernel
theorem d_MO_script_145 : decode b_MO_script 145 = .ok (.sipush 12438, 3) := by decide +kernel
theorem d_MO_script_148 : decode b_MO_script 148 = .ok (.if_icmp .gt 6, 3) := by decide +kernel
theorem d_MO_script_151 : decode b_MO_script 151 = .ok (.bipush 7, 2) := by decide +kernel
theorem d_MO_script_153 : decode b_MO_script 153 = .ok (.ireturn, 1) := by decide +kernel
theorem d_MO_script_154 : decode b_MO_script 154 = .ok (.iload_n 1, 1) := by decide +kernel
theorem d_MO_script_155 : decode b_MO_script 155 = .ok (.sipush 12449, 3) := by decide +kernel
theorem d_MO_script_158 : decode b_MO_script 158 = .ok (.if_icmp .lt 13, 3) := by decide +kernel
theorem d_MO_script_161 : decode b_MO_script 161 = .ok (.iload_n 1, 1) := by decide +kernel
theorem d_MO_script_162 : decode b_MO_script 162 = .ok (.sipush 12538, 3) := by decide +kernel
theorem d_MO_script_165 : decode b_MO_script 165 = .ok (.if_icmp .gt 6, 3) := by decide +kernel
theorem d_MO_script_168 : decode b_MO_script 168 = .ok (.bipush 8, 2) := by decide +kernel
theorem d_MO_script_170 : decode b_MO_script 170 = .ok (.ireturn, 1) := by decide +kernel
theorem d_MO_script_171 : decode b_MO_script 171 = .ok (.iload_n 1, 1) := by decide +kernel
theorem d_MO_script_172 : decode b_MO_script 172 = .ok (.sipush 19968, 3) := by decide +kernel
theorem d_MO_script_175 : decode b_MO_script 175 = .ok (.if_icmp .lt 12, 3) := by decide +kernel
theorem d_MO_script_178 : decode b_MO_script 178 = .ok (.iload_n 1, 1) := by decide +kernel
theorem d_MO_script_179 : decode b_MO_script 179 = .ok (.ldc 71, 2) := by decide +kernel
theorem d_MO_script_181 : decode b_MO_script 181 = .ok (.if_icmp .gt 6, 3) := by decide +kernel
theorem d_MO_script_184 : decode b_MO_script 184 = .ok (.bipush 9, 2) := by decide +kernel
theorem d_MO_script_186 : decode b_MO_script 186 = .ok (.ireturn, 1) := by decide +kernel
theorem d_MO_script_187 : decode b_MO_script 187 = .ok (.iload_n 1, 1) := by decide +kernel
theorem d_MO_script_188 : decode b_MO_script 188 = .ok (.ldc 27, 2) := by decide +kernel
theorem d_MO_script_190 : decode b_MO_script 190 = .ok (.if_icmp .lt 12, 3) := by decide +kernel
theorem d_MO_script_193 : decode b_MO_script 193 = .ok (.iload_n 1, 1) := by decide +kernel
theorem d_MO_script_194 : decode b_MO_script 194 = .ok (.ldc 72, 2) := by decide +kernel
theorem d_MO_script_196 : decode b_MO_script 196 = .ok (.if_icmp .gt 6, 3) := by decide +kernel
theorem d_MO_script_199 : decode b_MO_script 199 = .ok (.bipush 10, 2) := by decide +kernel
theorem d_MO_script_201 : decode b_MO_script 201 = .ok (.ireturn, 1) := by decide +kernel
theorem d_MO_script_202 : decode b_MO_script 202 = .ok (.iload_n 1, 1) := by decide +kernel
theorem d_MO_script_203 : decode b_MO_script 203 = .ok (.sipush 768, 3) := by decide +kernel
theorem d_MO_script_206 : decode b_MO_script 206 = .ok (.if_icmp .lt 10, 3) := by decide +kernel
theorem d_MO_script_209 : decode b_MO_script 209 = .ok (.iload_n 1, 1) := by decide +kernel
theorem d_MO_script_210 : decode b_MO_script 210 = .ok (.sipush 879, 3) := by decide +kernel
theorem d_MO_script_213 : decode b_MO_script 213 = .ok (.if_icmp .le 9, 3) := by decide +kernel
theorem d_MO_script_216 : decode b_MO_script 216 = .ok (.iload_n 1, 1) := by decide +kernel
theorem d_MO_script_217 : decode b_MO_script 217 = .ok (.ldc 31, 2) := by decide +kernel
theorem d_MO_script_219 : decode b_MO_script 219 = .ok (.if_icmp .ne 8, 3) := by decide +kernel
theorem d_MO_script_222 : decode b_MO_script 222 = .ok (.bipush 11, 2) := by decide +kernel
theorem d_MO_script_224 : decode b_MO_script 224 = .ok (.goto 4, 3) := by decide +kernel
theorem d_MO_script_227 : decode b_MO_script 227 = .ok (.iconst 1, 1) := by decide +kernel
theorem d_MO_script_228 : decode b_MO_script 228 = .ok (.ireturn, 1) := by decide +kernel
theorem d_MO_withMate_0 : decode b_MO_withMate 0 = .ok (.iload_n 1, 1) := by decide +kernel
theorem d_MO_withMate_1 : decode b_MO_withMate 1 = .ok (.aload_n 0, 1) := by decide +kernel
theorem d_MO_withMate_2 : decode b_MO_withMate 2 = .ok (.getfield 49, 3) := by decide +kernel
theorem d_MO_withMate_5 : decode b_MO_withMate 5 = .ok (.if_icmp .gt 20, 3) := by decide +kernel
theorem d_MO_withMate_8 : decode b_MO_withMate 8 = .ok (.aload_n 0, 1) := by decide +kernel
theorem d_MO_withMate_9 : decode b_MO_withMate 9 = .ok (.getfield 18, 3) := by decide +kernel
theorem d_MO_withMate_12 : decode b_MO_withMate 12 = .ok (.aload_n 0, 1) := by decide +kernel
theorem d_MO_withMate_13 : decode b_MO_withMate 13 = .ok (.dup, 1) := by decide +kernel
theorem d_MO_withMate_14 : decode b_MO_withMate 14 = .ok (.getfield 22, 3) := by decide +kernel
theorem d_MO_withMate_17 : decode b_MO_withMate 17 = .ok (.dup_x1, 1) := by decide +kernel
theorem d_MO_withMate_18 : decode b_MO_withMate 18 = .ok (.iconst 1, 1) := by decide +kernel
theorem d_MO_withMate_19 : decode b_MO_withMate 19 = .ok (.iadd, 1) := by decide +kernel
theorem d_MO_withMate_20 : decode b_MO_withMate 20 = .ok (.putfield 22, 3) := by decide +kernel
theorem d_MO_withMate_23 : decode b_MO_withMate 23 = .ok (.iload_n 1, 1) := by decide +kernel
theorem d_MO_withMate_24 : decode b_MO_withMate 24 = .ok (.iastore, 1) := by decide +kernel
theorem d_MO_withMate_25 : decode b_MO_withMate 25 = .ok (.return_, 1) := by decide +kernel
theorem d_MO_inAny_0 : decode b_MO_inAny 0 = .ok (.iload_n 1, 1) := by decide +kernel
theorem d_MO_inAny_1 : decode b_MO_inAny 1 = .ok (.iload_n 2, 1) := by decide +kernel
theorem d_MO_inAny_2 : decode b_MO_inAny 2 = .ok (.if_icmp .lt 12, 3) := by decide +kernel
theorem d_MO_inAny_5 : decode b_MO_inAny 5 = .ok (.iload_n 1, 1) := by decide +kernel
theorem d_MO_inAny_6 : decode b_MO_inAny 6 = .ok (.iload_n 3, 1) := by decide +kernel
theorem d_MO_inAny_7 : decode b_MO_inAny 7 = .ok (.if_icmp .gt 7, 3) := by decide +kernel
theorem d_MO_inAny_10 : decode b_MO_inAny 10 = .ok (.iconst 1, 1) := by decide +kernel
theorem d_MO_inAny_11 : decode b_MO_inAny 11 = .ok (.goto 4, 3) := by decide +kernel
theorem d_MO_inAny_14 : decode b_MO_inAny 14 = .ok (.iconst 0, 1) := by decide +kernel
theorem d_MO_inAny_15 : decode b_MO_inAny 15 = .ok (.ireturn, 1) := by decide +kernel
theorem d_MO_pair_0 : decode b_MO_pair 0 = .ok (.aload_n 0, 1) := by decide +kernel
theorem d_MO_pair_1 : decode b_MO_pair 1 = .ok (.iload_n 1, 1) := by decide +kernel
theorem d_MO_pair_2 : decode b_MO_pair 2 = .ok (.bipush 65, 2) := by decide +kernel
theorem d_MO_pair_4 : decode b_MO_pair 4 = .ok (.bipush 90, 2) := by decide +kernel
theorem d_MO_pair_6 : decode b_MO_pair 6 = .ok (.invokevirtual 79, 3) := by decide +kernel
theorem d_MO_pair_9 : decode b_MO_pair 9 = .ok (.ifCond .ne 73, 3) := by decide +kernel
theorem d_MO_pair_12 : decode b_MO_pair 12 = .ok (.aload_n 0, 1) := by decide +kernel
theorem d_MO_pair_13 : decode b_MO_pair 13 = .ok (.iload_n 1, 1) := by decide +kernel
theorem d_MO_pair_14 : decode b_MO_pair 14 = .ok (.sipush 192, 3) := by decide +kernel
theorem d_MO_pair_17 : decode b_MO_pair 17 = .ok (.sipush 214, 3) := by decide +kernel
theorem d_MO_pair_20 : decode b_MO_pair 20 = .ok (.invokevirtual 79, 3) := by decide +kernel
theorem d_MO_pair_23 : decode b_MO_pair 23 = .ok (.ifCond .ne 59, 3) := by decide +kernel
theorem d_MO_pair_26 : decode b_MO_pair 26 = .ok (.aload_n 0, 1) := by decide +kernel
theorem d_MO_pair_27 : decode b_MO_pair 27 = .ok (.iload_n 1, 1) := by decide +kernel
theorem d_MO_pair_28 : decode b_MO_pair 28 = .ok (.sipush 216, 3) := by decide +kernel
theorem d_MO_pair_31 : decode b_MO_pair 31 = .ok (.sipush 222, 3) := by decide +kernel
theorem d_MO_pair_34 : decode b_MO_pair 34 = .ok (.invokevirtual 79, 3) := by decide +kernel
theorem d_MO_pair_37 : decode b_MO_pair 37 = .ok (.ifCond .ne 45, 3) := by decide +kernel
theorem d_MO_pair_40 : decode b_MO_pair 40 = .ok (.aload_n 0, 1) := by decide +kernel
theorem d_MO_pair_41 : decode b_MO_pair 41 = .ok (.iload_n 1, 1) := by decide +kernel
theorem d_MO_pair_42 : decode b_MO_pair 42 = .ok (.sipush 913, 3) := by decide +kernel
theorem d_MO_pair_45 : decode b_MO_pair 45 = .ok (.sipush 929, 3) := by decide +kernel
theorem d_MO_pair_48 : decode b_MO_pair 48 = .ok (.invokevirtual 79, 3) := by decide +kernel
theorem d_MO_pair_51 : decode b_MO_pair 51 = .ok (.ifCond .ne 31, 3) := by decide +kernel
theorem d_MO_pair_54 : decode b_MO_pair 54 = .ok (.aload_n 0, 1) := by decide +kernel
theorem d_MO_pair_55 : decode b_MO_pair 55 = .ok (.iload_n 1, 1) := by decide +kernel
theorem d_MO_pair_56 : decode b_MO_pair 56 = .ok (.sipush 931, 3) := by decide +kernel
theorem d_MO_pair_59 : decode b_MO_pair 59 = .ok (.sipush 937, 3) := by decide +kernel
theorem d_MO_pair_62 : decode b_MO_pair 62 = .ok (.invokevirtual 79, 3) := by decide +kernel
theorem d_MO_pair_65 : decode b_MO_pair 65 = .ok (.ifCond .ne 17, 3) := by decide +kernel
theorem d_MO_pair_68 : decode b_MO_pair 68 = .ok (.aload_n 0, 1) := by decide +kernel
theorem d_MO_pair_69 : decode b_MO_pair 69 = .ok (.iload_n 1, 1) := by decide +kernel
theorem d_MO_pair_70 : decode b_MO_pair 70 = .ok (.sipush 1040, 3) := by decide +kernel
theorem d_MO_pair_73 : decode b_MO_pair 73 = .ok (.sipush 1071, 3) := by decide +kernel
theorem d_MO_pair_76 : decode b_MO_pair 76 = .ok (.invokevirtual 79, 3) := by decide +kernel
theorem d_MO_pair_79 : decode b_MO_pair 79 = .ok (.ifCond .eq 6, 3) := by decide +kernel
theorem d_MO_pair_82 : decode b_MO_pair 82 = .ok (.bipush 32, 2) := by decide +kernel
theorem d_MO_pair_84 : decode b_MO_pair 84 = .ok (.ireturn, 1) := by decide +kernel
theorem d_MO_pair_85 : decode b_MO_pair 85 = .ok (.aload_n 0, 1) := by decide +kernel
theorem d_MO_pair_86 : decode b_MO_pair 86 = .ok (.iload_n 1, 1) := by decide +kernel
theorem d_MO_pair_87 : decode b_MO_pair 87 = .ok (.sipush 1024, 3) := by decide +kernel
theorem d_MO_pair_90 : decode b_MO_pair 90 = .ok (.sipush 1039, 3) := by decide +kernel
theorem d_MO_pair_93 : decode b_MO_pair 93 = .ok (.invokevirtual 79, 3) := by decide +kernel
theorem d_MO_pair_96 : decode b_MO_pair 96 = .ok (.ifCond .eq 6, 3) := by decide +kernel
theorem d_MO_pair_99 : decode b_MO_pair 99 = .ok (.bipush 80, 2) := by decide +kernel
theorem d_MO_pair_101 : decode b_MO_pair 101 = .ok (.ireturn, 1) := by decide +kernel
theorem d_MO_pair_102 : decode b_MO_pair 102 = .ok (.aload_n 0, 1) := by decide +kernel
theorem d_MO_pair_103 : decode b_MO_pair 103 = .ok (.iload_n 1, 1) := by decide +kernel
theorem d_MO_pair_104 : decode b_MO_pair 104 = .ok (.sipush 256, 3) := by decide +kernel
theorem d_MO_pair_107 : decode b_MO_pair 107 = .ok (.sipush 303, 3) := by decide +kernel
theorem d_MO_pair_110 : decode b_MO_pair 110 = .ok (.invokevirtual 79, 3) := by decide +kernel
theorem d_MO_pair_113 : decode b_MO_pair 113 = .ok (.ifCond .ne 59, 3) := by decide +kernel
theorem d_MO_pair_116 : decode b_MO_pair 116 = .ok (.aload_n 0, 1) := by decide +kernel
theorem d_MO_pair_117 : decode b_MO_pair 117 = .ok (.iload_n 1, 1) := by decide +kernel
theorem d_MO_pair_118 : decode b_MO_pair 118 = .ok (.sipush 306, 3) := by decide +kernel
theorem d_MO_pair_121 : decode b_MO_pair 121 = .ok (.sipush 311, 3) := by decide +kernel
theorem d_MO_pair_124 : decode b_MO_pair 124 = .ok (.invokevirtual 79, 3) := by decide +kernel
theorem d_MO_pair_127 : decode b_MO_pair 127 = .ok (.ifCond .ne 45, 3) := by decide +kernel
theorem d_MO_pair_130 : decode b_MO_pair 130 = .ok (.aload_n 0, 1) := by decide +kernel
theorem d_MO_pair_131 : decode b_MO_pair 131 = .ok (.iload_n 1, 1) := by decide +kernel
theorem d_MO_pair_132 : decode b_MO_pair 132 = .ok (.sipush 313, 3) := by decide +kernel
theorem d_MO_pair_135 : decode b_MO_pair 135 = .ok (.sipush 328, 3) := by decide +kernel
theorem d_MO_pair_138 : decode b_MO_pair 138 = .ok (.invokevirtual 79, 3) := by decide +kernel
theorem d_MO_pair_141 : decode b_MO_pair 141 = .ok (.ifCond .ne 31, 3) := by decide +kernel
theorem d_MO_pair_144 : decode b_MO_pair 144 = .ok (.aload_n 0, 1) := by decide +kernel
theorem d_MO_pair_145 : decode b_MO_pair 145 = .ok (.iload_n 1, 1) := by decide +kernel
theorem d_MO_pair_146 : decode b_MO_pair 146 = .ok (.sipush 330, 3) := by decide +kernel
theorem d_MO_pair_149 : decode b_MO_pair 149 = .ok (.sipush 375, 3) := by decide +kernel
theorem d_MO_pair_152 : decode b_MO_pair 152 = .ok (.invokevirtual 79, 3) := by decide +kernel
theorem d_MO_pair_155 : decode b_MO_pair 155 = .ok (.ifCond .ne 17, 3) := by decide +kernel
theorem d_MO_pair_158 : decode b_MO_pair 158 = .ok (.aload_n 0, 1) := by decide +kernel
theorem d_MO_pair_159 : decode b_MO_pair 159 = .ok (.iload_n 1, 1) := by decide +kernel
theorem d_MO_pair_160 : decode b_MO_pair 160 = .ok (.sipush 377, 3) := by decide +kernel
theorem d_MO_pair_163 : decode b_MO_pair 163 = .ok (.sipush 382, 3) := by decide +kernel
theorem d_MO_pair_166 : decode b_MO_pair 166 = .ok (.invokevirtual 79, 3) := by decide +kernel
theorem d_MO_pair_169 : decode b_MO_pair 169 = .ok (.ifCond .eq 7, 3) := by decide +kernel
theorem d_MO_pair_172 : decode b_MO_pair 172 = .ok (.iconst 1, 1) := by decide +kernel
theorem d_MO_pair_173 : decode b_MO_pair 173 = .ok (.goto 4, 3) := by decide +kernel
theorem d_MO_pair_176 : decode b_MO_pair 176 = .ok (.iconst 0, 1) := by decide +kernel
theorem d_MO_pair_177 : decode b_MO_pair 177 = .ok (.istore_n 2, 1) := by decide +kernel
theorem d_MO_pair_178 : decode b_MO_pair 178 = .ok (.iload_n 2, 1) := by decide +kernel
theorem d_MO_pair_179 : decode b_MO_pair 179 = .ok (.ifCond .eq 17, 3) := by decide +kernel
theorem d_MO_pair_182 : decode b_MO_pair 182 = .ok (.aload_n 0, 1) := by decide +kernel
theorem d_MO_pair_183 : decode b_MO_pair 183 = .ok (.iload_n 1, 1) := by decide +kernel
theorem d_MO_pair_184 : decode b_MO_pair 184 = .ok (.invokevirtual 75, 3) := by decide +kernel
theorem d_MO_pair_187 : decode b_MO_pair 187 = .ok (.bipush 6, 2) := by decide +kernel
theorem d_MO_pair_189 : decode b_MO_pair 189 = .ok (.if_icmp .ne 7, 3) := by decide +kernel
theorem d_MO_pair_192 : decode b_MO_pair 192 = .ok (.iconst 1, 1) := by decide +kernel
theorem d_MO_pair_193 : decode b_MO_pair 193 = .ok (.goto 4, 3) := by decide +kernel
theorem d_MO_pair_196 : decode b_MO_pair 196 = .ok (.iconst 0, 1) := by decide +kernel
theorem d_MO_pair_197 : decode b_MO_pair 197 = .ok (.ireturn, 1) := by decide +kernel
theorem d_MO_third_0 : decode b_MO_third 0 = .ok (.iload_n 1, 1) := by decide +kernel
theorem d_MO_third_1 : decode b_MO_third 1 = .ok (.sipush 383, 3) := by decide +kernel
theorem d_MO_third_4 : decode b_MO_third 4 = .ok (.if_icmp .ne 6, 3) := by decide +kernel
theorem d_MO_third_7 : decode b_MO_third 7 = .ok (.bipush 83, 2) := by decide +kernel
theorem d_MO_third_9 : decode b_MO_third 9 = .ok (.ireturn, 1) := by decide +kernel
theorem d_MO_third_10 : decode b_MO_third 10 = .ok (.iload_n 1, 1) := by decide +kernel
theorem d_MO_third_11 : decode b_MO_third 11 = .ok (.sipush 8490, 3) := by decide +kernel
theorem d_MO_third_14 : decode b_MO_third 14 = .ok (.if_icmp .ne 6, 3) := by decide +kernel
theorem d_MO_third_17 : decode b_MO_third 17 = .ok (.bipush 75, 2) := by decide +kernel
theorem d_MO_third_19 : decode b_MO_third 19 = .ok (.ireturn, 1) := by decide +kernel
theorem d_MO_third_20 : decode b_MO_third 20 = .ok (.iload_n 1, 1) := by decide +kernel
theorem d_MO_third_21 : decode b_MO_third 21 = .ok (.sipush 8491, 3) := by decide +kernel
theorem d_MO_third_24 : decode b_MO_third 24 = .ok (.if_icmp .ne 7, 3) := by decide +kernel
theorem d_MO_third_27 : decode b_MO_third 27 = .ok (.sipush 197, 3) := by decide +kernel
theorem d_MO_third_30 : decode b_MO_third 30 = .ok (.ireturn, 1) := by decide +kernel
theorem d_MO_third_31 : decode b_MO_third 31 = .ok (.iload_n 1, 1) := by decide +kernel
theorem d_MO_third_32 : decode b_MO_third 32 = .ok (.sipush 181, 3) := by decide +kernel
theorem d_MO_third_35 : decode b_MO_third 35 = .ok (.if_icmp .ne 7, 3) := by decide +kernel
theorem d_MO_third_38 : decode b_MO_third 38 = .ok (.sipush 924, 3) := by decide +kernel
theorem d_MO_third_41 : decode b_MO_third 41 = .ok (.ireturn, 1) := by decide +kernel
theorem d_MO_third_42 : decode b_MO_third 42 = .ok (.iload_n 1, 1) := by decide +kernel
theorem d_MO_third_43 : decode b_MO_third 43 = .ok (.sipush 962, 3) := by decide +kernel
theorem d_MO_third_46 : decode b_MO_third 46 = .ok (.if_icmp .ne 9, 3) := by decide +kernel
theorem d_MO_third_49 : decode b_MO_third 49 = .ok (.sipush 931, 3) := by decide +kernel
theorem d_MO_third_52 : decode b_MO_third 52 = .ok (.goto 4, 3) := by decide +kernel
theorem d_MO_third_55 : decode b_MO_third 55 = .ok (.iconst (-1), 1) := by decide +kernel
theorem d_MO_third_56 : decode b_MO_third 56 = .ok (.ireturn, 1) := by decide +kernel
theorem d_MO_first_0 : decode b_MO_first 0 = .ok (.aload_n 0, 1) := by decide +kernel
theorem d_MO_first_1 : decode b_MO_first 1 = .ok (.iload_n 1, 1) := by decide +kernel
theorem d_MO_first_2 : decode b_MO_first 2 = .ok (.invokevirtual 83, 3) := by decide +kernel
theorem d_MO_first_5 : decode b_MO_first 5 = .ok (.ifCond .lt 9, 3) := by decide +kernel
theorem d_MO_first_8 : decode b_MO_first 8 = .ok (.aload_n 0, 1) := by decide +kernel
theorem d_MO_first_9 : decode b_MO_first 9 = .ok (.iload_n 1, 1) := by decide +kernel
theorem d_MO_first_10 : decode b_MO_first 10 = .ok (.invokevirtual 83, 3) := by decide +kernel
theorem d_MO_first_13 : decode b_MO_first 13 = .ok (.ireturn, 1) := by decide +kernel
theorem d_MO_first_14 : decode b_MO_first 14 = .ok (.iload_n 1, 1) := by decide +kernel
theorem d_MO_first_15 : decode b_MO_first 15 = .ok (.sipush 255, 3) := by decide +kernel
theorem d_MO_first_18 : decode b_MO_first 18 = .ok (.if_icmp .ne 7, 3) := by decide +kernel
theorem d_MO_first_21 : decode b_MO_first 21 = .ok (.sipush 376, 3) := by decide +kernel
theorem d_MO_first_24 : decode b_MO_first 24 = .ok (.ireturn, 1) := by decide +kernel
theorem d_MO_first_25 : decode b_MO_first 25 = .ok (.aload_n 0, 1) := by decide +kernel
theorem d_MO_first_26 : decode b_MO_first 26 = .ok (.iload_n 1, 1) := by decide +kernel
theorem d_MO_first_27 : decode b_MO_first 27 = .ok (.invokevirtual 86, 3) := by decide +kernel
theorem d_MO_first_30 : decode b_MO_first 30 = .ok (.ifCond .le 5, 3) := by decide +kernel
theorem d_MO_first_33 : decode b_MO_first 33 = .ok (.iload_n 1, 1) := by decide +kernel
theorem d_MO_first_34 : decode b_MO_first 34 = .ok (.ireturn, 1) := by decide +kernel
theorem d_MO_first_35 : decode b_MO_first 35 = .ok (.iload_n 1, 1) := by decide +kernel
theorem d_MO_first_36 : decode b_MO_first 36 = .ok (.bipush 32, 2) := by decide +kernel
theorem d_MO_first_38 : decode b_MO_first 38 = .ok (.if_icmp .lt 21, 3) := by decide +kernel
theorem d_MO_first_41 : decode b_MO_first 41 = .ok (.aload_n 0, 1) := by decide +kernel
theorem d_MO_first_42 : decode b_MO_first 42 = .ok (.iload_n 1, 1) := by decide +kernel
theorem d_MO_first_43 : decode b_MO_first 43 = .ok (.bipush 32, 2) := by decide +kernel
theorem d_MO_first_45 : decode b_MO_first 45 = .ok (.isub, 1) := by decide +kernel
theorem d_MO_first_46 : decode b_MO_first 46 = .ok (.invokevirtual 86, 3) := by decide +kernel
theorem d_MO_first_49 : decode b_MO_first 49 = .ok (.bipush 32, 2) := by decide +kernel
theorem d_MO_first_51 : decode b_MO_first 51 = .ok (.if_icmp .ne 8, 3) := by decide +kernel
theorem d_MO_first_54 : decode b_MO_first 54 = .ok (.iload_n 1, 1) := by decide +kernel
theorem d_MO_first_55 : decode b_MO_first 55 = .ok (.bipush 32, 2) := by decide +kernel
theorem d_MO_first_57 : decode b_MO_first 57 = .ok (.isub, 1) := by decide +kernel
theorem d_MO_first_58 : decode b_MO_first 58 = .ok (.ireturn, 1) := by decide +kernel
theorem d_MO_first_59 : decode b_MO_first 59 = .ok (.iload_n 1, 1) := by decide +kernel
theorem d_MO_first_60 : decode b_MO_first 60 = .ok (.bipush 80, 2) := by decide +kernel
theorem d_MO_first_62 : decode b_MO_first 62 = .ok (.if_icmp .lt 21, 3) := by decide +kernel
theorem d_MO_first_65 : decode b_MO_first 65 = .ok (.aload_n 0, 1) := by decide +kernel
theorem d_MO_first_66 : decode b_MO_first 66 = .ok (.iload_n 1, 1) := by decide +kernel
theorem d_MO_first_67 : decode b_MO_first 67 = .ok (.bipush 80, 2) := by decide +kernel
theorem d_MO_first_69 : decode b_MO_first 69 = .ok (.isub, 1) := by decide +kernel
theorem d_MO_first_70 : decode b_MO_first 70 = .ok (.invokevirtual 86, 3) := by decide +kernel
theorem d_MO_first_73 : decode b_MO_first 73 = .ok (.bipush 80, 2) := by decide +kernel
theorem d_MO_first_75 : decode b_MO_first 75 = .ok (.if_icmp .ne 8, 3) := by decide +kernel
theorem d_MO_first_78 : decode b_MO_first 78 = .ok (.iload_n 1, 1) := by decide +kernel
theorem d_MO_first_79 : decode b_MO_first 79 = .ok (.bipush 80, 2) := by decide +kernel
theorem d_MO_first_81 : decode b_MO_first 81 = .ok (.isub, 1) := by decide +kernel
theorem d_MO_first_82 : decode b_MO_first 82 = .ok (.ireturn, 1) := by decide +kernel
theorem d_MO_first_83 : decode b_MO_first 83 = .ok (.iload_n 1, 1) := by decide +kernel
theorem d_MO_first_84 : decode b_MO_first 84 = .ok (.ifCond .le 20, 3) := by decide +kernel
theorem d_MO_first_87 : decode b_MO_first 87 = .ok (.aload_n 0, 1) := by decide +kernel
theorem d_MO_first_88 : decode b_MO_first 88 = .ok (.iload_n 1, 1) := by decide +kernel
theorem d_MO_first_89 : decode b_MO_first 89 = .ok (.iconst 1, 1) := by decide +kernel
theorem d_MO_first_90 : decode b_MO_first 90 = .ok (.isub, 1) := by decide +kernel
theorem d_MO_first_91 : decode b_MO_first 91 = .ok (.invokevirtual 86, 3) := by decide +kernel
theorem d_MO_first_94 : decode b_MO_first 94 = .ok (.iconst 1, 1) := by decide +kernel
theorem d_MO_first_95 : decode b_MO_first 95 = .ok (.if_icmp .ne 9, 3) := by decide +kernel
theorem d_MO_first_98 : decode b_MO_first 98 = .ok (.iload_n 1, 1) := by decide +kernel
theorem d_MO_first_99 : decode b_MO_first 99 = .ok (.iconst 1, 1) := by decide +kernel
theorem d_MO_first_100 : decode b_MO_first 100 = .ok (.isub, 1) := by decide +kernel
theorem d_MO_first_101 : decode b_MO_first 101 = .ok (.goto 4, 3) := by decide +kernel
theorem d_MO_first_104 : decode b_MO_first 104 = .ok (.iload_n 1, 1) := by decide +kernel
theorem d_MO_first_105 : decode b_MO_first 105 = .ok (.ireturn, 1) := by decide +kernel
theorem d_MO_caseOf_0 : decode b_MO_caseOf 0 = .ok (.aload_n 0, 1) := by decide +kernel
theorem d_MO_caseOf_1 : decode b_MO_caseOf 1 = .ok (.iconst 0, 1) := by decide +kernel
theorem d_MO_caseOf_2 : decode b_MO_caseOf 2 = .ok (.putfield 22, 3) := by decide +kernel
theorem d_MO_caseOf_5 : decode b_MO_caseOf 5 = .ok (.aload_n 0, 1) := by decide +kernel
theorem d_MO_caseOf_6 : decode b_MO_caseOf 6 = .ok (.getfield 41, 3) := by decide +kernel
theorem d_MO_caseOf_9 : decode b_MO_caseOf 9 = .ok (.ifCond .ne 14, 3) := by decide +kernel
theorem d_MO_caseOf_12 : decode b_MO_caseOf 12 = .ok (.aload_n 0, 1) := by decide +kernel
theorem d_MO_caseOf_13 : decode b_MO_caseOf 13 = .ok (.getfield 45, 3) := by decide +kernel
theorem d_MO_caseOf_16 : decode b_MO_caseOf 16 = .ok (.ifCond .ne 7, 3) := by decide +kernel
theorem d_MO_caseOf_19 : decode b_MO_caseOf 19 = .ok (.iconst 1, 1) := by decide +kernel
theorem d_MO_caseOf_20 : decode b_MO_caseOf 20 = .ok (.goto 4, 3) := by decide +kernel
theorem d_MO_caseOf_23 : decode b_MO_caseOf 23 = .ok (.iconst 0, 1) := by decide +kernel
theorem d_MO_caseOf_24 : decode b_MO_caseOf 24 = .ok (.istore_n 2, 1) := by decide +kernel
theorem d_MO_caseOf_25 : decode b_MO_caseOf 25 = .ok (.iload_n 1, 1) := by decide +kernel
theorem d_MO_caseOf_26 : decode b_MO_caseOf 26 = .ok (.sipush 8704, 3) := by decide +kernel
theorem d_MO_caseOf_29 : decode b_MO_caseOf 29 = .ok (.if_icmp .le 7, 3) := by decide +kernel
theorem d_MO_caseOf_32 : decode b_MO_caseOf 32 = .ok (.iload_n 1, 1) := by decide +kernel
theorem d_MO_caseOf_33 : decode b_MO_caseOf 33 = .ok (.goto 8, 3) := by decide +kernel
theorem d_MO_caseOf_36 : decode b_MO_caseOf 36 = .ok (.aload_n 0, 1) := by decide +kernel
theorem d_MO_caseOf_37 : decode b_MO_caseOf 37 = .ok (.iload_n 1, 1) := by decide +kernel
theorem d_MO_caseOf_38 : decode b_MO_caseOf 38 = .ok (.invokevirtual 89, 3) := by decide +kernel
theorem d_MO_caseOf_41 : decode b_MO_caseOf 41 = .ok (.istore_n 3, 1) := by decide +kernel
theorem d_MO_caseOf_42 : decode b_MO_caseOf 42 = .ok (.iload_n 2, 1) := by decide +kernel
theorem d_MO_caseOf_43 : decode b_MO_caseOf 43 = .ok (.ifCond .eq 21, 3) := by decide +kernel
theorem d_MO_caseOf_46 : decode b_MO_caseOf 46 = .ok (.aload_n 0, 1) := by decide +kernel
theorem d_MO_caseOf_47 : decode b_MO_caseOf 47 = .ok (.iload_n 3, 1) := by decide +kernel
theorem d_MO_caseOf_48 : decode b_MO_caseOf 48 = .ok (.bipush 65, 2) := by decide +kernel
theorem d_MO_caseOf_50 : decode b_MO_caseOf 50 = .ok (.bipush 90, 2) := by decide +kernel
theorem d_MO_caseOf_52 : decode b_MO_caseOf 52 = .ok (.invokevirtual 79, 3) := by decide +kernel
theorem d_MO_caseOf_55 : decode b_MO_caseOf 55 = .ok (.ifCond .ne 9, 3) := by decide +kernel
theorem d_MO_caseOf_58 : decode b_MO_caseOf 58 = .ok (.aload_n 0, 1) := by decide +kernel
theorem d_MO_caseOf_59 : decode b_MO_caseOf 59 = .ok (.iload_n 1, 1) := by decide +kernel
theorem d_MO_caseOf_60 : decode b_MO_caseOf 60 = .ok (.invokevirtual 92, 3) := by decide +kernel
theorem d_MO_caseOf_63 : decode b_MO_caseOf 63 = .ok (.return_, 1) := by decide +kernel
theorem d_MO_caseOf_64 : decode b_MO_caseOf 64 = .ok (.aload_n 0, 1) := by decide +kernel
theorem d_MO_caseOf_65 : decode b_MO_caseOf 65 = .ok (.iload_n 3, 1) := by decide +kernel
theorem d_MO_caseOf_66 : decode b_MO_caseOf 66 = .ok (.invokevirtual 92, 3) := by decide +kernel
theorem d_MO_caseOf_69 : decode b_MO_caseOf 69 = .ok (.iload_n 3, 1) := by decide +kernel
theorem d_MO_caseOf_70 : decode b_MO_caseOf 70 = .ok (.sipush 376, 3) := by decide +kernel
theorem d_MO_caseOf_73 : decode b_MO_caseOf 73 = .ok (.if_icmp .ne 13, 3) := by decide +kernel
theorem d_MO_caseOf_76 : decode b_MO_caseOf 76 = .ok (.aload_n 0, 1) := by decide +kernel
theorem d_MO_caseOf_77 : decode b_MO_caseOf 77 = .ok (.sipush 255, 3) := by decide +kernel
theorem d_MO_caseOf_80 : decode b_MO_caseOf 80 = .ok (.invokevirtual 92, 3) := by decide +kernel
theorem d_MO_caseOf_83 : decode b_MO_caseOf 83 = .ok (.goto 29, 3) := by decide +kernel
theorem d_MO_caseOf_86 : decode b_MO_caseOf 86 = .ok (.iload_n 3, 1) := by decide +kernel
theorem d_MO_caseOf_87 : decode b_MO_caseOf 87 = .ok (.sipush 8704, 3) := by decide +kernel
theorem d_MO_caseOf_90 : decode b_MO_caseOf 90 = .ok (.if_icmp .gt 22, 3) := by decide +kernel
theorem d_MO_caseOf_93 : decode b_MO_caseOf 93 = .ok (.aload_n 0, 1) := by decide +kernel
theorem d_MO_caseOf_94 : decode b_MO_caseOf 94 = .ok (.iload_n 3, 1) := by decide +kernel
theorem d_MO_caseOf_95 : decode b_MO_caseOf 95 = .ok (.invokevirtual 86, 3) := by decide +kernel
theorem d_MO_caseOf_98 : decode b_MO_caseOf 98 = .ok (.ifCond .le 14, 3) := by decide +kernel
theorem d_MO_caseOf_101 : decode b_MO_caseOf 101 = .ok (.aload_n 0, 1) := by decide +kernel
theorem d_MO_caseOf_102 : decode b_MO_caseOf 102 = .ok (.iload_n 3, 1) := by decide +kernel
theorem d_MO_caseOf_103 : decode b_MO_caseOf 103 = .ok (.aload_n 0, 1) := by decide +kernel
theorem d_MO_caseOf_104 : decode b_MO_caseOf 104 = .ok (.iload_n 3, 1) := by decide +kernel
theorem d_MO_caseOf_105 : decode b_MO_caseOf 105 = .ok (.invokevirtual 86, 3) := by decide +kernel
theorem d_MO_caseOf_108 : decode b_MO_caseOf 108 = .ok (.iadd, 1) := by decide +kernel
theorem d_MO_caseOf_109 : decode b_MO_caseOf 109 = .ok (.invokevirtual 92, 3) := by decide +kernel
theorem d_MO_caseOf_112 : decode b_MO_caseOf 112 = .ok (.iload_n 2, 1) := by decide +kernel
theorem d_MO_caseOf_113 : decode b_MO_caseOf 113 = .ok (.ifCond .eq 4, 3) := by decide +kernel
theorem d_MO_caseOf_116 : decode b_MO_caseOf 116 = .ok (.return_, 1) := by decide +kernel
theorem d_MO_caseOf_117 : decode b_MO_caseOf 117 = .ok (.iload_n 3, 1) := by decide +kernel
theorem d_MO_caseOf_118 : decode b_MO_caseOf 118 = .ok (.bipush 83, 2) := by decide +kernel
theorem d_MO_caseOf_120 : decode b_MO_caseOf 120 = .ok (.if_icmp .ne 10, 3) := by decide +kernel
theorem d_MO_caseOf_123 : decode b_MO_caseOf 123 = .ok (.aload_n 0, 1) := by decide +kernel
theorem d_MO_caseOf_124 : decode b_MO_caseOf 124 = .ok (.sipush 383, 3) := by decide +kernel
theorem d_MO_caseOf_127 : decode b_MO_caseOf 127 = .ok (.invokevirtual 92, 3) := by decide +kernel
theorem d_MO_caseOf_130 : decode b_MO_caseOf 130 = .ok (.iload_n 3, 1) := by decide +kernel
theorem d_MO_caseOf_131 : decode b_MO_caseOf 131 = .ok (.bipush 75, 2) := by decide +kernel
theorem d_MO_caseOf_133 : decode b_MO_caseOf 133 = .ok (.if_icmp .ne 10, 3) := by decide +kernel
theorem d_MO_caseOf_136 : decode b_MO_caseOf 136 = .ok (.aload_n 0, 1) := by decide +kernel
theorem d_MO_caseOf_137 : decode b_MO_caseOf 137 = .ok (.sipush 8490, 3) := by decide +kernel
theorem d_MO_caseOf_140 : decode b_MO_caseOf 140 = .ok (.invokevirtual 92, 3) := by decide +kernel
theorem d_MO_caseOf_143 : decode b_MO_caseOf 143 = .ok (.iload_n 3, 1) := by decide +kernel
theorem d_MO_caseOf_144 : decode b_MO_caseOf 144 = .ok (.sipush 197, 3) := by decide +kernel
theorem d_MO_caseOf_147 : decode b_MO_caseOf 147 = .ok (.if_icmp .ne 10, 3) := by decide +kernel
theorem d_MO_caseOf_150 : decode b_MO_caseOf 150 = .ok (.aload_n 0, 1) := by decide +kernel
theorem d_MO_caseOf_151 : decode b_MO_caseOf 151 = .ok (.sipush 8491, 3) := by decide +kernel
theorem d_MO_caseOf_154 : decode b_MO_caseOf 154 = .ok (.invokevirtual 92, 3) := by decide +kernel
theorem d_MO_caseOf_157 : decode b_MO_caseOf 157 = .ok (.iload_n 3, 1) := by decide +kernel
theorem d_MO_caseOf_158 : decode b_MO_caseOf 158 = .ok (.sipush 924, 3) := by decide +kernel
theorem d_MO_caseOf_161 : decode b_MO_caseOf 161 = .ok (.if_icmp .ne 10, 3) := by decide +kernel
theorem d_MO_caseOf_164 : decode b_MO_caseOf 164 = .ok (.aload_n 0, 1) := by decide +kernel
theorem d_MO_caseOf_165 : decode b_MO_caseOf 165 = .ok (.sipush 181, 3) := by decide +kernel
theorem d_MO_caseOf_168 : decode b_MO_caseOf 168 = .ok (.invokevirtual 92, 3) := by decide +kernel
theorem d_MO_caseOf_171 : decode b_MO_caseOf 171 = .ok (.iload_n 3, 1) := by decide +kernel
theorem d_MO_caseOf_172 : decode b_MO_caseOf 172 = .ok (.sipush 931, 3) := by decide +kernel
theorem d_MO_caseOf_175 : decode b_MO_caseOf 175 = .ok (.if_icmp .ne 10, 3) := by decide +kernel
theorem d_MO_caseOf_178 : decode b_MO_caseOf 178 = .ok (.aload_n 0, 1) := by decide +kernel
theorem d_MO_caseOf_179 : decode b_MO_caseOf 179 = .ok (.sipush 962, 3) := by decide +kernel
theorem d_MO_caseOf_182 : decode b_MO_caseOf 182 = .ok (.invokevirtual 92, 3) := by decide +kernel
theorem d_MO_caseOf_185 : decode b_MO_caseOf 185 = .ok (.return_, 1) := by decide +kernel
theorem d_MO_upper_0 : decode b_MO_upper 0 = .ok (.aload_n 0, 1) := by decide +kernel
theorem d_MO_upper_1 : decode b_MO_upper 1 = .ok (.iload_n 1, 1) := by decide +kernel
theorem d_MO_upper_2 : decode b_MO_upper 2 = .ok (.invokevirtual 75, 3) := by decide +kernel
theorem d_MO_upper_5 : decode b_MO_upper 5 = .ok (.iconst 4, 1) := by decide +kernel
theorem d_MO_upper_6 : decode b_MO_upper 6 = .ok (.if_icmp .eq 5, 3) := by decide +kernel
theorem d_MO_upper_9 : decode b_MO_upper 9 = .ok (.iload_n 1, 1) := by decide +kernel
theorem d_MO_upper_10 : decode b_MO_upper 10 = .ok (.ireturn, 1) := by decide +kernel
theorem d_MO_upper_11 : decode b_MO_upper 11 = .ok (.aload_n 0, 1) := by decide +kernel
theorem d_MO_upper_12 : decode b_MO_upper 12 = .ok (.iload_n 1, 1) := by decide +kernel
theorem d_MO_upper_13 : decode b_MO_upper 13 = .ok (.invokevirtual 96, 3) := by decide +kernel
theorem d_MO_upper_16 : decode b_MO_upper 16 = .ok (.iload_n 1, 1) := by decide +kernel
theorem d_MO_upper_17 : decode b_MO_upper 17 = .ok (.istore_n 2, 1) := by decide +kernel
theorem d_MO_upper_18 : decode b_MO_upper 18 = .ok (.iconst 0, 1) := by decide +kernel
theorem d_MO_upper_19 : decode b_MO_upper 19 = .ok (.istore_n 3, 1) := by decide +kernel
theorem d_MO_upper_20 : decode b_MO_upper 20 = .ok (.iload_n 3, 1) := by decide +kernel
theorem d_MO_upper_21 : decode b_MO_upper 21 = .ok (.aload_n 0, 1) := by decide +kernel
theorem d_MO_upper_22 : decode b_MO_upper 22 = .ok (.getfield 22, 3) := by decide +kernel
theorem d_MO_upper_25 : decode b_MO_upper 25 = .ok (.if_icmp .ge 46, 3) := by decide +kernel
theorem d_MO_upper_28 : decode b_MO_upper 28 = .ok (.aload_n 0, 1) := by decide +kernel
theorem d_MO_upper_29 : decode b_MO_upper 29 = .ok (.aload_n 0, 1) := by decide +kernel
theorem d_MO_upper_30 : decode b_MO_upper 30 = .ok (.getfield 18, 3) := by decide +kernel
theorem d_MO_upper_33 : decode b_MO_upper 33 = .ok (.iload_n 3, 1) := by decide +kernel
theorem d_MO_upper_34 : decode b_MO_upper 34 = .ok (.iaload, 1) := by decide +kernel
theorem d_MO_upper_35 : decode b_MO_upper 35 = .ok (.invokevirtual 75, 3) := by decide +kernel
theorem d_MO_upper_38 : decode b_MO_upper 38 = .ok (.bipush 6, 2) := by decide +kernel
theorem d_MO_upper_40 : decode b_MO_upper 40 = .ok (.if_icmp .ne 25, 3) := by decide +kernel
theorem d_MO_upper_43 : decode b_MO_upper 43 = .ok (.iload_n 2, 1) := by decide +kernel
theorem d_MO_upper_44 : decode b_MO_upper 44 = .ok (.iload_n 1, 1) := by decide +kernel
theorem d_MO_upper_45 : decode b_MO_upper 45 = .ok (.if_icmp .eq 13, 3) := by decide +kernel
theorem d_MO_upper_48 : decode b_MO_upper 48 = .ok (.aload_n 0, 1) := by decide +kernel
theorem d_MO_upper_49 : decode b_MO_upper 49 = .ok (.getfield 18, 3) := by decide +kernel
theorem d_MO_upper_52 : decode b_MO_upper 52 = .ok (.iload_n 3, 1) := by decide +kernel
theorem d_MO_upper_53 : decode b_MO_upper 53 = .ok (.iaload, 1) := by decide +kernel
theorem d_MO_upper_54 : decode b_MO_upper 54 = .ok (.iload_n 2, 1) := by decide +kernel
theorem d_MO_upper_55 : decode b_MO_upper 55 = .ok (.if_icmp .ge 10, 3) := by decide +kernel
theorem d_MO_upper_58 : decode b_MO_upper 58 = .ok (.aload_n 0, 1) := by decide +kernel
theorem d_MO_upper_59 : decode b_MO_upper 59 = .ok (.getfield 18, 3) := by decide +kernel
theorem d_MO_upper_62 : decode b_MO_upper 62 = .ok (.iload_n 3, 1) := by decide +kernel
theorem d_MO_upper_63 : decode b_MO_upper 63 = .ok (.iaload, 1) := by decide +kernel
theorem d_MO_upper_64 : decode b_MO_upper 64 = .ok (.istore_n 2, 1) := by decide +kernel
theorem d_MO_upper_65 : decode b_MO_upper 65 = .ok (.iinc 3 1, 3) := by decide +kernel
theorem d_MO_upper_68 : decode b_MO_upper 68 = .ok (.goto (-48), 3) := by decide +kernel
theorem d_MO_upper_71 : decode b_MO_upper 71 = .ok (.iload_n 2, 1) := by decide +kernel
theorem d_MO_upper_72 : decode b_MO_upper 72 = .ok (.ireturn, 1) := by decide +kernel
theorem d_MO_lower_0 : decode b_MO_lower 0 = .ok (.aload_n 0, 1) := by decide +kernel
theorem d_MO_lower_1 : decode b_MO_lower 1 = .ok (.iload_n 1, 1) := by decide +kernel
theorem d_MO_lower_2 : decode b_MO_lower 2 = .ok (.invokevirtual 75, 3) := by decide +kernel
theorem d_MO_lower_5 : decode b_MO_lower 5 = .ok (.bipush 6, 2) := by decide +kernel
theorem d_MO_lower_7 : decode b_MO_lower 7 = .ok (.if_icmp .eq 5, 3) := by decide +kernel
theorem d_MO_lower_10 : decode b_MO_lower 10 = .ok (.iload_n 1, 1) := by decide +kernel
theorem d_MO_lower_11 : decode b_MO_lower 11 = .ok (.ireturn, 1) := by decide +kernel
theorem d_MO_lower_12 : decode b_MO_lower 12 = .ok (.aload_n 0, 1) := by decide +kernel
theorem d_MO_lower_13 : decode b_MO_lower 13 = .ok (.iload_n 1, 1) := by decide +kernel
theorem d_MO_lower_14 : decode b_MO_lower 14 = .ok (.invokevirtual 96, 3) := by decide +kernel
theorem d_MO_lower_17 : decode b_MO_lower 17 = .ok (.iconst 0, 1) := by decide +kernel
theorem d_MO_lower_18 : decode b_MO_lower 18 = .ok (.istore_n 2, 1) := by decide +kernel
theorem d_MO_lower_19 : decode b_MO_lower 19 = .ok (.iload_n 2, 1) := by decide +kernel
theorem d_MO_lower_20 : decode b_MO_lower 20 = .ok (.aload_n 0, 1) := by decide +kernel
theorem d_MO_lower_21 : decode b_MO_lower 21 = .ok (.getfield 22, 3) := by decide +kernel
theorem d_MO_lower_24 : decode b_MO_lower 24 = .ok (.if_icmp .ge 43, 3) := by decide +kernel
theorem d_MO_lower_27 : decode b_MO_lower 27 = .ok (.aload_n 0, 1) := by decide +kernel
theorem d_MO_lower_28 : decode b_MO_lower 28 = .ok (.aload_n 0, 1) := by decide +kernel
theorem d_MO_lower_29 : decode b_MO_lower 29 = .ok (.getfield 18, 3) := by decide +kernel
theorem d_MO_lower_32 : decode b_MO_lower 32 = .ok (.iload_n 2, 1) := by decide +kernel
theorem d_MO_lower_33 : decode b_MO_lower 33 = .ok (.iaload, 1) := by decide +kernel
theorem d_MO_lower_34 : decode b_MO_lower 34 = .ok (.invokevirtual 75, 3) := by decide +kernel
theorem d_MO_lower_37 : decode b_MO_lower 37 = .ok (.iconst 4, 1) := by decide +kernel
theorem d_MO_lower_38 : decode b_MO_lower 38 = .ok (.if_icmp .ne 23, 3) := by decide +kernel
theorem d_MO_lower_41 : decode b_MO_lower 41 = .ok (.aload_n 0, 1) := by decide +kernel
theorem d_MO_lower_42 : decode b_MO_lower 42 = .ok (.aload_n 0, 1) := by decide +kernel
theorem d_MO_lower_43 : decode b_MO_lower 43 = .ok (.getfield 18, 3) := by decide +kernel
theorem d_MO_lower_46 : decode b_MO_lower 46 = .ok (.iload_n 2, 1) := by decide +kernel
theorem d_MO_lower_47 : decode b_MO_lower 47 = .ok (.iaload, 1) := by decide +kernel
theorem d_MO_lower_48 : decode b_MO_lower 48 = .ok (.invokevirtual 83, 3) := by decide +kernel
theorem d_MO_lower_51 : decode b_MO_lower 51 = .ok (.ifCond .ge 10, 3) := by decide +kernel
theorem d_MO_lower_54 : decode b_MO_lower 54 = .ok (.aload_n 0, 1) := by decide +kernel
theorem d_MO_lower_55 : decode b_MO_lower 55 = .ok (.getfield 18, 3) := by decide +kernel
theorem d_MO_lower_58 : decode b_MO_lower 58 = .ok (.iload_n 2, 1) := by decide +kernel
theorem d_MO_lower_59 : decode b_MO_lower 59 = .ok (.iaload, 1) := by decide +kernel
theorem d_MO_lower_60 : decode b_MO_lower 60 = .ok (.ireturn, 1) := by decide +kernel
theorem d_MO_lower_61 : decode b_MO_lower 61 = .ok (.iinc 2 1, 3) := by decide +kernel
theorem d_MO_lower_64 : decode b_MO_lower 64 = .ok (.goto (-45), 3) := by decide +kernel
theorem d_MO_lower_67 : decode b_MO_lower 67 = .ok (.iload_n 1, 1) := by decide +kernel
theorem d_MO_lower_68 : decode b_MO_lower 68 = .ok (.ireturn, 1) := by decide +kernel
theorem d_MO_next_0 : decode b_MO_next 0 = .ok (.aload_n 0, 1) := by decide +kernel
theorem d_MO_next_1 : decode b_MO_next 1 = .ok (.iload_n 1, 1) := by decide +kernel
theorem d_MO_next_2 : decode b_MO_next 2 = .ok (.invokevirtual 96, 3) := by decide +kernel
theorem d_MO_next_5 : decode b_MO_next 5 = .ok (.iconst (-1), 1) := by decide +kernel
theorem d_MO_next_6 : decode b_MO_next 6 = .ok (.istore_n 2, 1) := by decide +kernel
theorem d_MO_next_7 : decode b_MO_next 7 = .ok (.iload_n 1, 1) := by decide +kernel
theorem d_MO_next_8 : decode b_MO_next 8 = .ok (.istore_n 3, 1) := by decide +kernel
theorem d_MO_next_9 : decode b_MO_next 9 = .ok (.iconst 0, 1) := by decide +kernel
theorem d_MO_next_10 : decode b_MO_next 10 = .ok (.istore 4, 2) := by decide +kernel
theorem d_MO_next_12 : decode b_MO_next 12 = .ok (.iload 4, 2) := by decide +kernel
theorem d_MO_next_14 : decode b_MO_next 14 = .ok (.aload_n 0, 1) := by decide +kernel
theorem d_MO_next_15 : decode b_MO_next 15 = .ok (.getfield 22, 3) := by decide +kernel
theorem d_MO_next_18 : decode b_MO_next 18 = .ok (.if_icmp .ge 62, 3) := by decide +kernel
theorem d_MO_next_21 : decode b_MO_next 21 = .ok (.aload_n 0, 1) := by decide +kernel
theorem d_MO_next_22 : decode b_MO_next 22 = .ok (.getfield 18, 3) := by decide +kernel
theorem d_MO_next_25 : decode b_MO_next 25 = .ok (.iload 4, 2) := by decide +kernel
theorem d_MO_next_27 : decode b_MO_next 27 = .ok (.iaload, 1) := by decide +kernel
theorem d_MO_next_28 : decode b_MO_next 28 = .ok (.iload_n 3, 1) := by decide +kernel
theorem d_MO_next_29 : decode b_MO_next 29 = .ok (.if_icmp .ge 11, 3) := by decide +kernel
theorem d_MO_next_32 : decode b_MO_next 32 = .ok (.aload_n 0, 1) := by decide +kernel
theorem d_MO_next_33 : decode b_MO_next 33 = .ok (.getfield 18, 3) := by decide +kernel
theorem d_MO_next_36 : decode b_MO_next 36 = .ok (.iload 4, 2) := by decide +kernel
theorem d_MO_next_38 : decode b_MO_next 38 = .ok (.iaload, 1) := by decide +kernel
theorem d_MO_next_39 : decode b_MO_next 39 = .ok (.istore_n 3, 1) := by decide +kernel
theorem d_MO_next_40 : decode b_MO_next 40 = .ok (.aload_n 0, 1) := by decide +kernel
theorem d_MO_next_41 : decode b_MO_next 41 = .ok (.getfield 18, 3) := by decide +kernel
theorem d_MO_next_44 : decode b_MO_next 44 = .ok (.iload 4, 2) := by decide +kernel
theorem d_MO_next_46 : decode b_MO_next 46 = .ok (.iaload, 1) := by decide +kernel
theorem d_MO_next_47 : decode b_MO_next 47 = .ok (.iload_n 1, 1) := by decide +kernel
theorem d_MO_next_48 : decode b_MO_next 48 = .ok (.if_icmp .le 26, 3) := by decide +kernel
theorem d_MO_next_51 : decode b_MO_next 51 = .ok (.iload_n 2, 1) := by decide +kernel
theorem d_MO_next_52 : decode b_MO_next 52 = .ok (.ifCond .lt 14, 3) := by decide +kernel
theorem d_MO_next_55 : decode b_MO_next 55 = .ok (.aload_n 0, 1) := by decide +kernel
theorem d_MO_next_56 : decode b_MO_next 56 = .ok (.getfield 18, 3) := by decide +kernel
theorem d_MO_next_59 : decode b_MO_next 59 = .ok (.iload 4, 2) := by decide +kernel
theorem d_MO_next_61 : decode b_MO_next 61 = .ok (.iaload, 1) := by decide +kernel
theorem d_MO_next_62 : decode b_MO_next 62 = .ok (.iload_n 2, 1) := by decide +kernel
theorem d_MO_next_63 : decode b_MO_next 63 = .ok (.if_icmp .ge 11, 3) := by decide +kernel
theorem d_MO_next_66 : decode b_MO_next 66 = .ok (.aload_n 0, 1) := by decide +kernel
theorem d_MO_next_67 : decode b_MO_next 67 = .ok (.getfield 18, 3) := by decide +kernel
theorem d_MO_next_70 : decode b_MO_next 70 = .ok (.iload 4, 2) := by decide +kernel
theorem d_MO_next_72 : decode b_MO_next 72 = .ok (.iaload, 1) := by decide +kernel
theorem d_MO_next_73 : decode b_MO_next 73 = .ok (.istore_n 2, 1) := by decide +kernel
theorem d_MO_next_74 : decode b_MO_next 74 = .ok (.iinc 4 1, 3) := by decide +kernel
theorem d_MO_next_77 : decode b_MO_next 77 = .ok (.goto (-65), 3) := by decide +kernel
theorem d_MO_next_80 : decode b_MO_next 80 = .ok (.iload_n 2, 1) := by decide +kernel
theorem d_MO_next_81 : decode b_MO_next 81 = .ok (.ifCond .ge 7, 3) := by decide +kernel
theorem d_MO_next_84 : decode b_MO_next 84 = .ok (.iload_n 3, 1) := by decide +kernel
theorem d_MO_next_85 : decode b_MO_next 85 = .ok (.goto 4, 3) := by decide +kernel
theorem d_MO_next_88 : decode b_MO_next 88 = .ok (.iload_n 2, 1) := by decide +kernel
theorem d_MO_next_89 : decode b_MO_next 89 = .ok (.ireturn, 1) := by decide +kernel
end
section
theorem d_MO_none_0 : decode b_MO_none 0 = .ok (.iload_n 1, 1) := by decide +kernel
theorem d_MO_none_1 : decode b_MO_none 1 = .ok (.ifCond .lt 9, 3) := by decide +kernel
theorem d_MO_none_4 : decode b_MO_none 4 = .ok (.iload_n 1, 1) := by decide +kernel
theorem d_MO_none_5 : decode b_MO_none 5 = .ok (.bipush 7, 2) := by decide +kernel
theorem d_MO_none_7 : decode b_MO_none 7 = .ok (.if_icmp .le 7, 3) := by decide +kernel
theorem d_MO_none_10 : decode b_MO_none 10 = .ok (.iconst 1, 1) := by decide +kernel
theorem d_MO_none_11 : decode b_MO_none 11 = .ok (.goto 4, 3) := by decide +kernel
theorem d_MO_none_14 : decode b_MO_none 14 = .ok (.iconst 0, 1) := by decide +kernel
theorem d_MO_none_15 : decode b_MO_none 15 = .ok (.ireturn, 1) := by decide +kernel
theorem d_MO_in_0 : decode b_MO_in 0 = .ok (.aload_n 0, 1) := by decide +kernel
theorem d_MO_in_1 : decode b_MO_in 1 = .ok (.getfield 8, 3) := by decide +kernel
theorem d_MO_in_4 : decode b_MO_in 4 = .ok (.iload_n 1, 1) := by decide +kernel
theorem d_MO_in_5 : decode b_MO_in 5 = .ok (.sipush 17408, 3) := by decide +kernel
theorem d_MO_in_8 : decode b_MO_in 8 = .ok (.imul, 1) := by decide +kernel
theorem d_MO_in_9 : decode b_MO_in 9 = .ok (.iload_n 2, 1) := by decide +kernel
theorem d_MO_in_10 : decode b_MO_in 10 = .ok (.bipush 6, 2) := by decide +kernel
theorem d_MO_in_12 : decode b_MO_in 12 = .ok (.ishr, 1) := by decide +kernel
theorem d_MO_in_13 : decode b_MO_in 13 = .ok (.iadd, 1) := by decide +kernel
theorem d_MO_in_14 : decode b_MO_in 14 = .ok (.laload, 1) := by decide +kernel
theorem d_MO_in_15 : decode b_MO_in 15 = .ok (.iload_n 2, 1) := by decide +kernel
theorem d_MO_in_16 : decode b_MO_in 16 = .ok (.bipush 63, 2) := by decide +kernel
theorem d_MO_in_18 : decode b_MO_in 18 = .ok (.iand, 1) := by decide +kernel
theorem d_MO_in_19 : decode b_MO_in 19 = .ok (.lshr, 1) := by decide +kernel
theorem d_MO_in_20 : decode b_MO_in 20 = .ok (.lconst 1, 1) := by decide +kernel
theorem d_MO_in_21 : decode b_MO_in 21 = .ok (.land, 1) := by decide +kernel
theorem d_MO_in_22 : decode b_MO_in 22 = .ok (.lconst 0, 1) := by decide +kernel
theorem d_MO_in_23 : decode b_MO_in 23 = .ok (.lcmp, 1) := by decide +kernel
theorem d_MO_in_24 : decode b_MO_in 24 = .ok (.ifCond .eq 7, 3) := by decide +kernel
theorem d_MO_in_27 : decode b_MO_in 27 = .ok (.iconst 1, 1) := by decide +kernel
theorem d_MO_in_28 : decode b_MO_in 28 = .ok (.goto 4, 3) := by decide +kernel
theorem d_MO_in_31 : decode b_MO_in 31 = .ok (.iconst 0, 1) := by decide +kernel
theorem d_MO_in_32 : decode b_MO_in 32 = .ok (.ireturn, 1) := by decide +kernel
theorem d_MO_put_0 : decode b_MO_put 0 = .ok (.aload_n 0, 1) := by decide +kernel
theorem d_MO_put_1 : decode b_MO_put 1 = .ok (.getfield 8, 3) := by decide +kernel
theorem d_MO_put_4 : decode b_MO_put 4 = .ok (.iload_n 1, 1) := by decide +kernel
theorem d_MO_put_5 : decode b_MO_put 5 = .ok (.sipush 17408, 3) := by decide +kernel
theorem d_MO_put_8 : decode b_MO_put 8 = .ok (.imul, 1) := by decide +kernel
theorem d_MO_put_9 : decode b_MO_put 9 = .ok (.iload_n 2, 1) := by decide +kernel
theorem d_MO_put_10 : decode b_MO_put 10 = .ok (.bipush 6, 2) := by decide +kernel
theorem d_MO_put_12 : decode b_MO_put 12 = .ok (.ishr, 1) := by decide +kernel
theorem d_MO_put_13 : decode b_MO_put 13 = .ok (.iadd, 1) := by decide +kernel
theorem d_MO_put_14 : decode b_MO_put 14 = .ok (.dup2, 1) := by decide +kernel
theorem d_MO_put_15 : decode b_MO_put 15 = .ok (.laload, 1) := by decide +kernel
theorem d_MO_put_16 : decode b_MO_put 16 = .ok (.lconst 1, 1) := by decide +kernel
theorem d_MO_put_17 : decode b_MO_put 17 = .ok (.iload_n 2, 1) := by decide +kernel
theorem d_MO_put_18 : decode b_MO_put 18 = .ok (.bipush 63, 2) := by decide +kernel
theorem d_MO_put_20 : decode b_MO_put 20 = .ok (.iand, 1) := by decide +kernel
theorem d_MO_put_21 : decode b_MO_put 21 = .ok (.lshl, 1) := by decide +kernel
theorem d_MO_put_22 : decode b_MO_put 22 = .ok (.lor, 1) := by decide +kernel
theorem d_MO_put_23 : decode b_MO_put 23 = .ok (.lastore, 1) := by decide +kernel
theorem d_MO_put_24 : decode b_MO_put 24 = .ok (.return_, 1) := by decide +kernel
theorem d_MO_fill_0 : decode b_MO_fill 0 = .ok (.iload_n 2, 1) := by decide +kernel
theorem d_MO_fill_1 : decode b_MO_fill 1 = .ok (.istore 4, 2) := by decide +kernel
theorem d_MO_fill_3 : decode b_MO_fill 3 = .ok (.iload 4, 2) := by decide +kernel
theorem d_MO_fill_5 : decode b_MO_fill 5 = .ok (.iload_n 3, 1) := by decide +kernel
theorem d_MO_fill_6 : decode b_MO_fill 6 = .ok (.if_icmp .gt 58, 3) := by decide +kernel
theorem d_MO_fill_9 : decode b_MO_fill 9 = .ok (.iload 4, 2) := by decide +kernel
theorem d_MO_fill_11 : decode b_MO_fill 11 = .ok (.bipush 63, 2) := by decide +kernel
theorem d_MO_fill_13 : decode b_MO_fill 13 = .ok (.iand, 1) := by decide +kernel
theorem d_MO_fill_14 : decode b_MO_fill 14 = .ok (.ifCond .ne 37, 3) := by decide +kernel
theorem d_MO_fill_17 : decode b_MO_fill 17 = .ok (.iload_n 3, 1) := by decide +kernel
theorem d_MO_fill_18 : decode b_MO_fill 18 = .ok (.iload 4, 2) := by decide +kernel
theorem d_MO_fill_20 : decode b_MO_fill 20 = .ok (.isub, 1) := by decide +kernel
theorem d_MO_fill_21 : decode b_MO_fill 21 = .ok (.bipush 63, 2) := by decide +kernel
theorem d_MO_fill_23 : decode b_MO_fill 23 = .ok (.if_icmp .lt 28, 3) := by decide +kernel
theorem d_MO_fill_26 : decode b_MO_fill 26 = .ok (.aload_n 0, 1) := by decide +kernel
theorem d_MO_fill_27 : decode b_MO_fill 27 = .ok (.getfield 8, 3) := by decide +kernel
theorem d_MO_fill_30 : decode b_MO_fill 30 = .ok (.iload_n 1, 1) := by decide +kernel
theorem d_MO_fill_31 : decode b_MO_fill 31 = .ok (.sipush 17408, 3) := by decide +kernel
theorem d_MO_fill_34 : decode b_MO_fill 34 = .ok (.imul, 1) := by decide +kernel
theorem d_MO_fill_35 : decode b_MO_fill 35 = .ok (.iload 4, 2) := by decide +kernel
theorem d_MO_fill_37 : decode b_MO_fill 37 = .ok (.bipush 6, 2) := by decide +kernel
theorem d_MO_fill_39 : decode b_MO_fill 39 = .ok (.ishr, 1) := by decide +kernel
theorem d_MO_fill_40 : decode b_MO_fill 40 = .ok (.iadd, 1) := by decide +kernel
theorem d_MO_fill_41 : decode b_MO_fill 41 = .ok (.ldc2_w 99, 3) := by decide +kernel
theorem d_MO_fill_44 : decode b_MO_fill 44 = .ok (.lastore, 1) := by decide +kernel
theorem d_MO_fill_45 : decode b_MO_fill 45 = .ok (.iinc 4 64, 3) := by decide +kernel
theorem d_MO_fill_48 : decode b_MO_fill 48 = .ok (.goto (-45), 3) := by decide +kernel
theorem d_MO_fill_51 : decode b_MO_fill 51 = .ok (.aload_n 0, 1) := by decide +kernel
theorem d_MO_fill_52 : decode b_MO_fill 52 = .ok (.iload_n 1, 1) := by decide +kernel
theorem d_MO_fill_53 : decode b_MO_fill 53 = .ok (.iload 4, 2) := by decide +kernel
theorem d_MO_fill_55 : decode b_MO_fill 55 = .ok (.invokevirtual 101, 3) := by decide +kernel
theorem d_MO_fill_58 : decode b_MO_fill 58 = .ok (.iinc 4 1, 3) := by decide +kernel
theorem d_MO_fill_61 : decode b_MO_fill 61 = .ok (.goto (-58), 3) := by decide +kernel
theorem d_MO_fill_64 : decode b_MO_fill 64 = .ok (.return_, 1) := by decide +kernel
theorem d_MO_ones_0 : decode b_MO_ones 0 = .ok (.lload_n 1, 1) := by decide +kernel
theorem d_MO_ones_1 : decode b_MO_ones 1 = .ok (.lload_n 1, 1) := by decide +kernel
theorem d_MO_ones_2 : decode b_MO_ones 2 = .ok (.iconst 1, 1) := by decide +kernel
theorem d_MO_ones_3 : decode b_MO_ones 3 = .ok (.lushr, 1) := by decide +kernel
theorem d_MO_ones_4 : decode b_MO_ones 4 = .ok (.ldc2_w 105, 3) := by decide +kernel
theorem d_MO_ones_7 : decode b_MO_ones 7 = .ok (.land, 1) := by decide +kernel
theorem d_MO_ones_8 : decode b_MO_ones 8 = .ok (.lsub, 1) := by decide +kernel
theorem d_MO_ones_9 : decode b_MO_ones 9 = .ok (.lstore_n 3, 1) := by decide +kernel
theorem d_MO_ones_10 : decode b_MO_ones 10 = .ok (.lload_n 3, 1) := by decide +kernel
theorem d_MO_ones_11 : decode b_MO_ones 11 = .ok (.ldc2_w 107, 3) := by decide +kernel
theorem d_MO_ones_14 : decode b_MO_ones 14 = .ok (.land, 1) := by decide +kernel
theorem d_MO_ones_15 : decode b_MO_ones 15 = .ok (.lload_n 3, 1) := by decide +kernel
theorem d_MO_ones_16 : decode b_MO_ones 16 = .ok (.iconst 2, 1) := by decide +kernel
theorem d_MO_ones_17 : decode b_MO_ones 17 = .ok (.lushr, 1) := by decide +kernel
theorem d_MO_ones_18 : decode b_MO_ones 18 = .ok (.ldc2_w 107, 3) := by decide +kernel
theorem d_MO_ones_21 : decode b_MO_ones 21 = .ok (.land, 1) := by decide +kernel
theorem d_MO_ones_22 : decode b_MO_ones 22 = .ok (.ladd, 1) := by decide +kernel
theorem d_MO_ones_23 : decode b_MO_ones 23 = .ok (.lstore_n 3, 1) := by decide +kernel
theorem d_MO_ones_24 : decode b_MO_ones 24 = .ok (.lload_n 3, 1) := by decide +kernel
theorem d_MO_ones_25 : decode b_MO_ones 25 = .ok (.lload_n 3, 1) := by decide +kernel
theorem d_MO_ones_26 : decode b_MO_ones 26 = .ok (.iconst 4, 1) := by decide +kernel
theorem d_MO_ones_27 : decode b_MO_ones 27 = .ok (.lushr, 1) := by decide +kernel
theorem d_MO_ones_28 : decode b_MO_ones 28 = .ok (.ladd, 1) := by decide +kernel
theorem d_MO_ones_29 : decode b_MO_ones 29 = .ok (.ldc2_w 109, 3) := by decide +kernel
theorem d_MO_ones_32 : decode b_MO_ones 32 = .ok (.land, 1) := by decide +kernel
theorem d_MO_ones_33 : decode b_MO_ones 33 = .ok (.lstore_n 3, 1) := by decide +kernel
theorem d_MO_ones_34 : decode b_MO_ones 34 = .ok (.lload_n 3, 1) := by decide +kernel
theorem d_MO_ones_35 : decode b_MO_ones 35 = .ok (.ldc2_w 111, 3) := by decide +kernel
theorem d_MO_ones_38 : decode b_MO_ones 38 = .ok (.lmul, 1) := by decide +kernel
theorem d_MO_ones_39 : decode b_MO_ones 39 = .ok (.bipush 56, 2) := by decide +kernel
theorem d_MO_ones_41 : decode b_MO_ones 41 = .ok (.lushr, 1) := by decide +kernel
theorem d_MO_ones_42 : decode b_MO_ones 42 = .ok (.l2i, 1) := by decide +kernel
theorem d_MO_ones_43 : decode b_MO_ones 43 = .ok (.ireturn, 1) := by decide +kernel
theorem d_MO_ranges_0 : decode b_MO_ranges 0 = .ok (.iconst 0, 1) := by decide +kernel
theorem d_MO_ranges_1 : decode b_MO_ranges 1 = .ok (.istore_n 2, 1) := by decide +kernel
theorem d_MO_ranges_2 : decode b_MO_ranges 2 = .ok (.lconst 0, 1) := by decide +kernel
theorem d_MO_ranges_3 : decode b_MO_ranges 3 = .ok (.lstore_n 3, 1) := by decide +kernel
theorem d_MO_ranges_4 : decode b_MO_ranges 4 = .ok (.iconst 0, 1) := by decide +kernel
theorem d_MO_ranges_5 : decode b_MO_ranges 5 = .ok (.istore 5, 2) := by decide +kernel
theorem d_MO_ranges_7 : decode b_MO_ranges 7 = .ok (.iload 5, 2) := by decide +kernel
theorem d_MO_ranges_9 : decode b_MO_ranges 9 = .ok (.aload_n 0, 1) := by decide +kernel
theorem d_MO_ranges_10 : decode b_MO_ranges 10 = .ok (.getfield 52, 3) := by decide +kernel
theorem d_MO_ranges_13 : decode b_MO_ranges 13 = .ok (.if_icmp .ge 50, 3) := by decide +kernel
theorem d_MO_ranges_16 : decode b_MO_ranges 16 = .ok (.aload_n 0, 1) := by decide +kernel
theorem d_MO_ranges_17 : decode b_MO_ranges 17 = .ok (.getfield 8, 3) := by decide +kernel
theorem d_MO_ranges_20 : decode b_MO_ranges 20 = .ok (.iload_n 1, 1) := by decide +kernel
theorem d_MO_ranges_21 : decode b_MO_ranges 21 = .ok (.sipush 17408, 3) := by decide +kernel
theorem d_MO_ranges_24 : decode b_MO_ranges 24 = .ok (.imul, 1) := by decide +kernel
theorem d_MO_ranges_25 : decode b_MO_ranges 25 = .ok (.iload 5, 2) := by decide +kernel
theorem d_MO_ranges_27 : decode b_MO_ranges 27 = .ok (.iadd, 1) := by decide +kernel
theorem d_MO_ranges_28 : decode b_MO_ranges 28 = .ok (.laload, 1) := by decide +kernel
theorem d_MO_ranges_29 : decode b_MO_ranges 29 = .ok (.lstore 6, 2) := by decide +kernel
theorem d_MO_ranges_31 : decode b_MO_ranges 31 = .ok (.iload_n 2, 1) := by decide +kernel
theorem d_MO_ranges_32 : decode b_MO_ranges 32 = .ok (.aload_n 0, 1) := by decide +kernel
theorem d_MO_ranges_33 : decode b_MO_ranges 33 = .ok (.lload 6, 2) := by decide +kernel
theorem d_MO_ranges_35 : decode b_MO_ranges 35 = .ok (.lload 6, 2) := by decide +kernel
theorem d_MO_ranges_37 : decode b_MO_ranges 37 = .ok (.iconst 1, 1) := by decide +kernel
theorem d_MO_ranges_38 : decode b_MO_ranges 38 = .ok (.lshl, 1) := by decide +kernel
theorem d_MO_ranges_39 : decode b_MO_ranges 39 = .ok (.lload_n 3, 1) := by decide +kernel
theorem d_MO_ranges_40 : decode b_MO_ranges 40 = .ok (.lor, 1) := by decide +kernel
theorem d_MO_ranges_41 : decode b_MO_ranges 41 = .ok (.ldc2_w 99, 3) := by decide +kernel
theorem d_MO_ranges_44 : decode b_MO_ranges 44 = .ok (.lxor, 1) := by decide +kernel
theorem d_MO_ranges_45 : decode b_MO_ranges 45 = .ok (.land, 1) := by decide +kernel
theorem d_MO_ranges_46 : decode b_MO_ranges 46 = .ok (.invokevirtual 113, 3) := by decide +kernel
theorem d_MO_ranges_49 : decode b_MO_ranges 49 = .ok (.iadd, 1) := by decide +kernel
theorem d_MO_ranges_50 : decode b_MO_ranges 50 = .ok (.istore_n 2, 1) := by decide +kernel
theorem d_MO_ranges_51 : decode b_MO_ranges 51 = .ok (.lload 6, 2) := by decide +kernel
theorem d_MO_ranges_53 : decode b_MO_ranges 53 = .ok (.bipush 63, 2) := by decide +kernel
theorem d_MO_ranges_55 : decode b_MO_ranges 55 = .ok (.lushr, 1) := by decide +kernel
theorem d_MO_ranges_56 : decode b_MO_ranges 56 = .ok (.lstore_n 3, 1) := by decide +kernel
theorem d_MO_ranges_57 : decode b_MO_ranges 57 = .ok (.iinc 5 1, 3) := by decide +kernel
theorem d_MO_ranges_60 : decode b_MO_ranges 60 = .ok (.goto (-53), 3) := by decide +kernel
theorem d_MO_ranges_63 : decode b_MO_ranges 63 = .ok (.iload_n 2, 1) := by decide +kernel
theorem d_MO_ranges_64 : decode b_MO_ranges 64 = .ok (.ireturn, 1) := by decide +kernel
theorem d_MO_clear_0 : decode b_MO_clear 0 = .ok (.aload_n 0, 1) := by decide +kernel
theorem d_MO_clear_1 : decode b_MO_clear 1 = .ok (.iload_n 1, 1) := by decide +kernel
theorem d_MO_clear_2 : decode b_MO_clear 2 = .ok (.invokevirtual 117, 3) := by decide +kernel
theorem d_MO_clear_5 : decode b_MO_clear 5 = .ok (.ifCond .eq 6, 3) := by decide +kernel
theorem d_MO_clear_8 : decode b_MO_clear 8 = .ok (.bipush (-2), 2) := by decide +kernel
theorem d_MO_clear_10 : decode b_MO_clear 10 = .ok (.ireturn, 1) := by decide +kernel
theorem d_MO_clear_11 : decode b_MO_clear 11 = .ok (.iconst 0, 1) := by decide +kernel
theorem d_MO_clear_12 : decode b_MO_clear 12 = .ok (.istore_n 2, 1) := by decide +kernel
theorem d_MO_clear_13 : decode b_MO_clear 13 = .ok (.iload_n 2, 1) := by decide +kernel
theorem d_MO_clear_14 : decode b_MO_clear 14 = .ok (.aload_n 0, 1) := by decide +kernel
theorem d_MO_clear_15 : decode b_MO_clear 15 = .ok (.getfield 52, 3) := by decide +kernel
theorem d_MO_clear_18 : decode b_MO_clear 18 = .ok (.if_icmp .ge 22, 3) := by decide +kernel
theorem d_MO_clear_21 : decode b_MO_clear 21 = .ok (.aload_n 0, 1) := by decide +kernel
theorem d_MO_clear_22 : decode b_MO_clear 22 = .ok (.getfield 8, 3) := by decide +kernel
theorem d_MO_clear_25 : decode b_MO_clear 25 = .ok (.iload_n 1, 1) := by decide +kernel
theorem d_MO_clear_26 : decode b_MO_clear 26 = .ok (.sipush 17408, 3) := by decide +kernel
theorem d_MO_clear_29 : decode b_MO_clear 29 = .ok (.imul, 1) := by decide +kernel
theorem d_MO_clear_30 : decode b_MO_clear 30 = .ok (.iload_n 2, 1) := by decide +kernel
theorem d_MO_clear_31 : decode b_MO_clear 31 = .ok (.iadd, 1) := by decide +kernel
theorem d_MO_clear_32 : decode b_MO_clear 32 = .ok (.lconst 0, 1) := by decide +kernel
theorem d_MO_clear_33 : decode b_MO_clear 33 = .ok (.lastore, 1) := by decide +kernel
theorem d_MO_clear_34 : decode b_MO_clear 34 = .ok (.iinc 2 1, 3) := by decide +kernel
theorem d_MO_clear_37 : decode b_MO_clear 37 = .ok (.goto (-24), 3) := by decide +kernel
theorem d_MO_clear_40 : decode b_MO_clear 40 = .ok (.iconst 0, 1) := by decide +kernel
theorem d_MO_clear_41 : decode b_MO_clear 41 = .ok (.ireturn, 1) := by decide +kernel
theorem d_MO_range_0 : decode b_MO_range 0 = .ok (.aload_n 0, 1) := by decide +kernel
theorem d_MO_range_1 : decode b_MO_range 1 = .ok (.iload_n 1, 1) := by decide +kernel
theorem d_MO_range_2 : decode b_MO_range 2 = .ok (.invokevirtual 117, 3) := by decide +kernel
theorem d_MO_range_5 : decode b_MO_range 5 = .ok (.ifCond .ne 20, 3) := by decide +kernel
theorem d_MO_range_8 : decode b_MO_range 8 = .ok (.iload_n 2, 1) := by decide +kernel
theorem d_MO_range_9 : decode b_MO_range 9 = .ok (.ifCond .lt 16, 3) := by decide +kernel
theorem d_MO_range_12 : decode b_MO_range 12 = .ok (.iload_n 2, 1) := by decide +kernel
theorem d_MO_range_13 : decode b_MO_range 13 = .ok (.iload_n 3, 1) := by decide +kernel
theorem d_MO_range_14 : decode b_MO_range 14 = .ok (.if_icmp .gt 11, 3) := by decide +kernel
theorem d_MO_range_17 : decode b_MO_range 17 = .ok (.iload_n 3, 1) := by decide +kernel
theorem d_MO_range_18 : decode b_MO_range 18 = .ok (.aload_n 0, 1) := by decide +kernel
theorem d_MO_range_19 : decode b_MO_range 19 = .ok (.getfield 49, 3) := by decide +kernel
theorem d_MO_range_22 : decode b_MO_range 22 = .ok (.if_icmp .le 6, 3) := by decide +kernel
theorem d_MO_range_25 : decode b_MO_range 25 = .ok (.bipush (-2), 2) := by decide +kernel
theorem d_MO_range_27 : decode b_MO_range 27 = .ok (.ireturn, 1) := by decide +kernel
theorem d_MO_range_28 : decode b_MO_range 28 = .ok (.aload_n 0, 1) := by decide +kernel
theorem d_MO_range_29 : decode b_MO_range 29 = .ok (.iload_n 1, 1) := by decide +kernel
theorem d_MO_range_30 : decode b_MO_range 30 = .ok (.iload_n 2, 1) := by decide +kernel
theorem d_MO_range_31 : decode b_MO_range 31 = .ok (.iload_n 3, 1) := by decide +kernel
theorem d_MO_range_32 : decode b_MO_range 32 = .ok (.invokevirtual 121, 3) := by decide +kernel
theorem d_MO_range_35 : decode b_MO_range 35 = .ok (.aload_n 0, 1) := by decide +kernel
theorem d_MO_range_36 : decode b_MO_range 36 = .ok (.iload_n 1, 1) := by decide +kernel
theorem d_MO_range_37 : decode b_MO_range 37 = .ok (.invokevirtual 124, 3) := by decide +kernel
theorem d_MO_range_40 : decode b_MO_range 40 = .ok (.ireturn, 1) := by decide +kernel
theorem d_MO_holds_0 : decode b_MO_holds 0 = .ok (.aload_n 0, 1) := by decide +kernel
theorem d_MO_holds_1 : decode b_MO_holds 1 = .ok (.iload_n 2, 1) := by decide +kernel
theorem d_MO_holds_2 : decode b_MO_holds 2 = .ok (.invokevirtual 75, 3) := by decide +kernel
theorem d_MO_holds_5 : decode b_MO_holds 5 = .ok (.istore_n 3, 1) := by decide +kernel
theorem d_MO_holds_6 : decode b_MO_holds 6 = .ok (.iload_n 1, 1) := by decide +kernel
theorem d_MO_holds_7 : decode b_MO_holds 7 = .ok (.bipush 25, 2) := by decide +kernel
theorem d_MO_holds_9 : decode b_MO_holds 9 = .ok (.if_icmp .ge 14, 3) := by decide +kernel
theorem d_MO_holds_12 : decode b_MO_holds 12 = .ok (.iload_n 3, 1) := by decide +kernel
theorem d_MO_holds_13 : decode b_MO_holds 13 = .ok (.iload_n 1, 1) := by decide +kernel
theorem d_MO_holds_14 : decode b_MO_holds 14 = .ok (.if_icmp .ne 7, 3) := by decide +kernel
theorem d_MO_holds_17 : decode b_MO_holds 17 = .ok (.iconst 1, 1) := by decide +kernel
theorem d_MO_holds_18 : decode b_MO_holds 18 = .ok (.goto 4, 3) := by decide +kernel
theorem d_MO_holds_21 : decode b_MO_holds 21 = .ok (.iconst 0, 1) := by decide +kernel
theorem d_MO_holds_22 : decode b_MO_holds 22 = .ok (.ireturn, 1) := by decide +kernel
theorem d_MO_holds_23 : decode b_MO_holds 23 = .ok (.iload_n 1, 1) := by decide +kernel
theorem d_MO_holds_24 : decode b_MO_holds 24 = .ok (.bipush 32, 2) := by decide +kernel
theorem d_MO_holds_26 : decode b_MO_holds 26 = .ok (.if_icmp .ge 13, 3) := by decide +kernel
theorem d_MO_holds_29 : decode b_MO_holds 29 = .ok (.aload_n 0, 1) := by decide +kernel
theorem d_MO_holds_30 : decode b_MO_holds 30 = .ok (.iload_n 1, 1) := by decide +kernel
theorem d_MO_holds_31 : decode b_MO_holds 31 = .ok (.bipush 25, 2) := by decide +kernel
theorem d_MO_holds_33 : decode b_MO_holds 33 = .ok (.isub, 1) := by decide +kernel
theorem d_MO_holds_34 : decode b_MO_holds 34 = .ok (.iload_n 3, 1) := by decide +kernel
theorem d_MO_holds_35 : decode b_MO_holds 35 = .ok (.invokevirtual 127, 3) := by decide +kernel
theorem d_MO_holds_38 : decode b_MO_holds 38 = .ok (.ireturn, 1) := by decide +kernel
theorem d_MO_holds_39 : decode b_MO_holds 39 = .ok (.iload_n 1, 1) := by decide +kernel
theorem d_MO_holds_40 : decode b_MO_holds 40 = .ok (.bipush 44, 2) := by decide +kernel
theorem d_MO_holds_42 : decode b_MO_holds 42 = .ok (.if_icmp .ge 21, 3) := by decide +kernel
theorem d_MO_holds_45 : decode b_MO_holds 45 = .ok (.aload_n 0, 1) := by decide +kernel
theorem d_MO_holds_46 : decode b_MO_holds 46 = .ok (.iload_n 2, 1) := by decide +kernel
theorem d_MO_holds_47 : decode b_MO_holds 47 = .ok (.invokevirtual 131, 3) := by decide +kernel
theorem d_MO_holds_50 : decode b_MO_holds 50 = .ok (.iload_n 1, 1) := by decide +kernel
theorem d_MO_holds_51 : decode b_MO_holds 51 = .ok (.bipush 32, 2) := by decide +kernel
theorem d_MO_holds_53 : decode b_MO_holds 53 = .ok (.isub, 1) := by decide +kernel
theorem d_MO_holds_54 : decode b_MO_holds 54 = .ok (.if_icmp .ne 7, 3) := by decide +kernel
theorem d_MO_holds_57 : decode b_MO_holds 57 = .ok (.iconst 1, 1) := by decide +kernel
theorem d_MO_holds_58 : decode b_MO_holds 58 = .ok (.goto 4, 3) := by decide +kernel
theorem d_MO_holds_61 : decode b_MO_holds 61 = .ok (.iconst 0, 1) := by decide +kernel
theorem d_MO_holds_62 : decode b_MO_holds 62 = .ok (.ireturn, 1) := by decide +kernel
theorem d_MO_holds_63 : decode b_MO_holds 63 = .ok (.iload_n 1, 1) := by decide +kernel
theorem d_MO_holds_64 : decode b_MO_holds 64 = .ok (.bipush 44, 2) := by decide +kernel
theorem d_MO_holds_66 : decode b_MO_holds 66 = .ok (.if_icmp .ne 5, 3) := by decide +kernel
theorem d_MO_holds_69 : decode b_MO_holds 69 = .ok (.iconst 1, 1) := by decide +kernel
theorem d_MO_holds_70 : decode b_MO_holds 70 = .ok (.ireturn, 1) := by decide +kernel
theorem d_MO_holds_71 : decode b_MO_holds 71 = .ok (.iload_n 1, 1) := by decide +kernel
theorem d_MO_holds_72 : decode b_MO_holds 72 = .ok (.bipush 45, 2) := by decide +kernel
theorem d_MO_holds_74 : decode b_MO_holds 74 = .ok (.if_icmp .ne 20, 3) := by decide +kernel
theorem d_MO_holds_77 : decode b_MO_holds 77 = .ok (.iload_n 3, 1) := by decide +kernel
theorem d_MO_holds_78 : decode b_MO_holds 78 = .ok (.iconst 4, 1) := by decide +kernel
theorem d_MO_holds_79 : decode b_MO_holds 79 = .ok (.if_icmp .eq 9, 3) := by decide +kernel
theorem d_MO_holds_82 : decode b_MO_holds 82 = .ok (.iload_n 3, 1) := by decide +kernel
theorem d_MO_holds_83 : decode b_MO_holds 83 = .ok (.bipush 6, 2) := by decide +kernel
theorem d_MO_holds_85 : decode b_MO_holds 85 = .ok (.if_icmp .ne 7, 3) := by decide +kernel
theorem d_MO_holds_88 : decode b_MO_holds 88 = .ok (.iconst 1, 1) := by decide +kernel
theorem d_MO_holds_89 : decode b_MO_holds 89 = .ok (.goto 4, 3) := by decide +kernel
theorem d_MO_holds_92 : decode b_MO_holds 92 = .ok (.iconst 0, 1) := by decide +kernel
theorem d_MO_holds_93 : decode b_MO_holds 93 = .ok (.ireturn, 1) := by decide +kernel
theorem d_MO_holds_94 : decode b_MO_holds 94 = .ok (.iload_n 1, 1) := by decide +kernel
theorem d_MO_holds_95 : decode b_MO_holds 95 = .ok (.bipush 46, 2) := by decide +kernel
theorem d_MO_holds_97 : decode b_MO_holds 97 = .ok (.if_icmp .ne 27, 3) := by decide +kernel
theorem d_MO_holds_100 : decode b_MO_holds 100 = .ok (.aload_n 0, 1) := by decide +kernel
theorem d_MO_holds_101 : decode b_MO_holds 101 = .ok (.iconst 1, 1) := by decide +kernel
theorem d_MO_holds_102 : decode b_MO_holds 102 = .ok (.iload_n 3, 1) := by decide +kernel
theorem d_MO_holds_103 : decode b_MO_holds 103 = .ok (.invokevirtual 127, 3) := by decide +kernel
theorem d_MO_holds_106 : decode b_MO_holds 106 = .ok (.ifCond .ne 12, 3) := by decide +kernel
theorem d_MO_holds_109 : decode b_MO_holds 109 = .ok (.aload_n 0, 1) := by decide +kernel
theorem d_MO_holds_110 : decode b_MO_holds 110 = .ok (.iconst 3, 1) := by decide +kernel
theorem d_MO_holds_111 : decode b_MO_holds 111 = .ok (.iload_n 3, 1) := by decide +kernel
theorem d_MO_holds_112 : decode b_MO_holds 112 = .ok (.invokevirtual 127, 3) := by decide +kernel
theorem d_MO_holds_115 : decode b_MO_holds 115 = .ok (.ifCond .eq 7, 3) := by decide +kernel
theorem d_MO_holds_118 : decode b_MO_holds 118 = .ok (.iconst 1, 1) := by decide +kernel
theorem d_MO_holds_119 : decode b_MO_holds 119 = .ok (.goto 4, 3) := by decide +kernel
theorem d_MO_holds_122 : decode b_MO_holds 122 = .ok (.iconst 0, 1) := by decide +kernel
theorem d_MO_holds_123 : decode b_MO_holds 123 = .ok (.ireturn, 1) := by decide +kernel
theorem d_MO_holds_124 : decode b_MO_holds 124 = .ok (.iload_n 1, 1) := by decide +kernel
theorem d_MO_holds_125 : decode b_MO_holds 125 = .ok (.bipush 47, 2) := by decide +kernel
theorem d_MO_holds_127 : decode b_MO_holds 127 = .ok (.if_icmp .ne 33, 3) := by decide +kernel
theorem d_MO_holds_130 : decode b_MO_holds 130 = .ok (.aload_n 0, 1) := by decide +kernel
theorem d_MO_holds_131 : decode b_MO_holds 131 = .ok (.iconst 1, 1) := by decide +kernel
theorem d_MO_holds_132 : decode b_MO_holds 132 = .ok (.iload_n 3, 1) := by decide +kernel
theorem d_MO_holds_133 : decode b_MO_holds 133 = .ok (.invokevirtual 127, 3) := by decide +kernel
theorem d_MO_holds_136 : decode b_MO_holds 136 = .ok (.ifCond .ne 18, 3) := by decide +kernel
theorem d_MO_holds_139 : decode b_MO_holds 139 = .ok (.aload_n 0, 1) := by decide +kernel
theorem d_MO_holds_140 : decode b_MO_holds 140 = .ok (.iconst 3, 1) := by decide +kernel
theorem d_MO_holds_141 : decode b_MO_holds 141 = .ok (.iload_n 3, 1) := by decide +kernel
theorem d_MO_holds_142 : decode b_MO_holds 142 = .ok (.invokevirtual 127, 3) := by decide +kernel
theorem d_MO_holds_145 : decode b_MO_holds 145 = .ok (.ifCond .ne 9, 3) := by decide +kernel
theorem d_MO_holds_148 : decode b_MO_holds 148 = .ok (.iload_n 2, 1) := by decide +kernel
theorem d_MO_holds_149 : decode b_MO_holds 149 = .ok (.bipush 95, 2) := by decide +kernel
theorem d_MO_holds_151 : decode b_MO_holds 151 = .ok (.if_icmp .ne 7, 3) := by decide +kernel
theorem d_MO_holds_154 : decode b_MO_holds 154 = .ok (.iconst 1, 1) := by decide +kernel
theorem d_MO_holds_155 : decode b_MO_holds 155 = .ok (.goto 4, 3) := by decide +kernel
theorem d_MO_holds_158 : decode b_MO_holds 158 = .ok (.iconst 0, 1) := by decide +kernel
theorem d_MO_holds_159 : decode b_MO_holds 159 = .ok (.ireturn, 1) := by decide +kernel
theorem d_MO_holds_160 : decode b_MO_holds 160 = .ok (.iload_n 2, 1) := by decide +kernel
theorem d_MO_holds_161 : decode b_MO_holds 161 = .ok (.bipush 9, 2) := by decide +kernel
theorem d_MO_holds_163 : decode b_MO_holds 163 = .ok (.if_icmp .lt 9, 3) := by decide +kernel
theorem d_MO_holds_166 : decode b_MO_holds 166 = .ok (.iload_n 2, 1) := by decide +kernel
theorem d_MO_holds_167 : decode b_MO_holds 167 = .ok (.bipush 13, 2) := by decide +kernel
theorem d_MO_holds_169 : decode b_MO_holds 169 = .ok (.if_icmp .le 20, 3) := by decide +kernel
theorem d_MO_holds_172 : decode b_MO_holds 172 = .ok (.iload_n 2, 1) := by decide +kernel
theorem d_MO_holds_173 : decode b_MO_holds 173 = .ok (.sipush 133, 3) := by decide +kernel
theorem d_MO_holds_176 : decode b_MO_holds 176 = .ok (.if_icmp .eq 13, 3) := by decide +kernel
theorem d_MO_holds_179 : decode b_MO_holds 179 = .ok (.aload_n 0, 1) := by decide +kernel
theorem d_MO_holds_180 : decode b_MO_holds 180 = .ok (.bipush 6, 2) := by decide +kernel
theorem d_MO_holds_182 : decode b_MO_holds 182 = .ok (.iload_n 3, 1) := by decide +kernel
theorem d_MO_holds_183 : decode b_MO_holds 183 = .ok (.invokevirtual 127, 3) := by decide +kernel
theorem d_MO_holds_186 : decode b_MO_holds 186 = .ok (.ifCond .eq 7, 3) := by decide +kernel
theorem d_MO_holds_189 : decode b_MO_holds 189 = .ok (.iconst 1, 1) := by decide +kernel
theorem d_MO_holds_190 : decode b_MO_holds 190 = .ok (.goto 4, 3) := by decide +kernel
theorem d_MO_holds_193 : decode b_MO_holds 193 = .ok (.iconst 0, 1) := by decide +kernel
theorem d_MO_holds_194 : decode b_MO_holds 194 = .ok (.ireturn, 1) := by decide +kernel
theorem d_MO_general_0 : decode b_MO_general 0 = .ok (.iload_n 1, 1) := by decide +kernel
theorem d_MO_general_1 : decode b_MO_general 1 = .ok (.ifCond .ne 14, 3) := by decide +kernel
theorem d_MO_general_4 : decode b_MO_general 4 = .ok (.iload_n 2, 1) := by decide +kernel
theorem d_MO_general_5 : decode b_MO_general 5 = .ok (.iconst 4, 1) := by decide +kernel
theorem d_MO_general_6 : decode b_MO_general 6 = .ok (.if_icmp .ge 7, 3) := by decide +kernel
theorem d_MO_general_9 : decode b_MO_general 9 = .ok (.iconst 1, 1) := by decide +kernel
theorem d_MO_general_10 : decode b_MO_general 10 = .ok (.goto 4, 3) := by decide +kernel
theorem d_MO_general_13 : decode b_MO_general 13 = .ok (.iconst 0, 1) := by decide +kernel
theorem d_MO_general_14 : decode b_MO_general 14 = .ok (.ireturn, 1) := by decide +kernel
theorem d_MO_general_15 : decode b_MO_general 15 = .ok (.iload_n 1, 1) := by decide +kernel
theorem d_MO_general_16 : decode b_MO_general 16 = .ok (.iconst 1, 1) := by decide +kernel
theorem d_MO_general_17 : decode b_MO_general 17 = .ok (.if_icmp .ne 20, 3) := by decide +kernel
theorem d_MO_general_20 : decode b_MO_general 20 = .ok (.iload_n 2, 1) := by decide +kernel
theorem d_MO_general_21 : decode b_MO_general 21 = .ok (.iconst 4, 1) := by decide +kernel
theorem d_MO_general_22 : decode b_MO_general 22 = .ok (.if_icmp .lt 13, 3) := by decide +kernel
theorem d_MO_general_25 : decode b_MO_general 25 = .ok (.iload_n 2, 1) := by decide +kernel
theorem d_MO_general_26 : decode b_MO_general 26 = .ok (.bipush 7, 2) := by decide +kernel
theorem d_MO_general_28 : decode b_MO_general 28 = .ok (.if_icmp .ge 7, 3) := by decide +kernel
theorem d_MO_general_31 : decode b_MO_general 31 = .ok (.iconst 1, 1) := by decide +kernel
theorem d_MO_general_32 : decode b_MO_general 32 = .ok (.goto 4, 3) := by decide +kernel
theorem d_MO_general_35 : decode b_MO_general 35 = .ok (.iconst 0, 1) := by decide +kernel
theorem d_MO_general_36 : decode b_MO_general 36 = .ok (.ireturn, 1) := by decide +kernel
theorem d_MO_general_37 : decode b_MO_general 37 = .ok (.iload_n 1, 1) := by decide +kernel
theorem d_MO_general_38 : decode b_MO_general 38 = .ok (.iconst 2, 1) := by decide +kernel
theorem d_MO_general_39 : decode b_MO_general 39 = .ok (.if_icmp .ne 15, 3) := by decide +kernel
theorem d_MO_general_42 : decode b_MO_general 42 = .ok (.iload_n 2, 1) := by decide +kernel
theorem d_MO_general_43 : decode b_MO_general 43 = .ok (.bipush 7, 2) := by decide +kernel
theorem d_MO_general_45 : decode b_MO_general 45 = .ok (.if_icmp .ne 7, 3) := by decide +kernel
theorem d_MO_general_48 : decode b_MO_general 48 = .ok (.iconst 1, 1) := by decide +kernel
theorem d_MO_general_49 : decode b_MO_general 49 = .ok (.goto 4, 3) := by decide +kernel
theorem d_MO_general_52 : decode b_MO_general 52 = .ok (.iconst 0, 1) := by decide +kernel
theorem d_MO_general_53 : decode b_MO_general 53 = .ok (.ireturn, 1) := by decide +kernel
theorem d_MO_general_54 : decode b_MO_general 54 = .ok (.iload_n 1, 1) := by decide +kernel
theorem d_MO_general_55 : decode b_MO_general 55 = .ok (.iconst 3, 1) := by decide +kernel
theorem d_MO_general_56 : decode b_MO_general 56 = .ok (.if_icmp .ne 21, 3) := by decide +kernel
theorem d_MO_general_59 : decode b_MO_general 59 = .ok (.iload_n 2, 1) := by decide +kernel
theorem d_MO_general_60 : decode b_MO_general 60 = .ok (.bipush 8, 2) := by decide +kernel
theorem d_MO_general_62 : decode b_MO_general 62 = .ok (.if_icmp .lt 13, 3) := by decide +kernel
theorem d_MO_general_65 : decode b_MO_general 65 = .ok (.iload_n 2, 1) := by decide +kernel
theorem d_MO_general_66 : decode b_MO_general 66 = .ok (.bipush 11, 2) := by decide +kernel
theorem d_MO_general_68 : decode b_MO_general 68 = .ok (.if_icmp .ge 7, 3) := by decide +kernel
theorem d_MO_general_71 : decode b_MO_general 71 = .ok (.iconst 1, 1) := by decide +kernel
theorem d_MO_general_72 : decode b_MO_general 72 = .ok (.goto 4, 3) := by decide +kernel
theorem d_MO_general_75 : decode b_MO_general 75 = .ok (.iconst 0, 1) := by decide +kernel
theorem d_MO_general_76 : decode b_MO_general 76 = .ok (.ireturn, 1) := by decide +kernel
theorem d_MO_general_77 : decode b_MO_general 77 = .ok (.iload_n 1, 1) := by decide +kernel
theorem d_MO_general_78 : decode b_MO_general 78 = .ok (.iconst 4, 1) := by decide +kernel
theorem d_MO_general_79 : decode b_MO_general 79 = .ok (.if_icmp .ne 21, 3) := by decide +kernel
theorem d_MO_general_82 : decode b_MO_general 82 = .ok (.iload_n 2, 1) := by decide +kernel
theorem d_MO_general_83 : decode b_MO_general 83 = .ok (.bipush 11, 2) := by decide +kernel
theorem d_MO_general_85 : decode b_MO_general 85 = .ok (.if_icmp .lt 13, 3) := by decide +kernel
theorem d_MO_general_88 : decode b_MO_general 88 = .ok (.iload_n 2, 1) := by decide +kernel
theorem d_MO_general_89 : decode b_MO_general 89 = .ok (.bipush 18, 2) := by decide +kernel
theorem d_MO_general_91 : decode b_MO_general 91 = .ok (.if_icmp .ge 7, 3) := by decide +kernel
theorem d_MO_general_94 : decode b_MO_general 94 = .ok (.iconst 1, 1) := by decide +kernel
theorem d_MO_general_95 : decode b_MO_general 95 = .ok (.goto 4, 3) := by decide +kernel
theorem d_MO_general_98 : decode b_MO_general 98 = .ok (.iconst 0, 1) := by decide +kernel
theorem d_MO_general_99 : decode b_MO_general 99 = .ok (.ireturn, 1) := by decide +kernel
theorem d_MO_general_100 : decode b_MO_general 100 = .ok (.iload_n 1, 1) := by decide +kernel
theorem d_MO_general_101 : decode b_MO_general 101 = .ok (.iconst 5, 1) := by decide +kernel
theorem d_MO_general_102 : decode b_MO_general 102 = .ok (.if_icmp .ne 21, 3) := by decide +kernel
theorem d_MO_general_105 : decode b_MO_general 105 = .ok (.iload_n 2, 1) := by decide +kernel
theorem d_MO_general_106 : decode b_MO_general 106 = .ok (.bipush 18, 2) := by decide +kernel
theorem d_MO_general_108 : decode b_MO_general 108 = .ok (.if_icmp .lt 13, 3) := by decide +kernel
theorem d_MO_general_111 : decode b_MO_general 111 = .ok (.iload_n 2, 1) := by decide +kernel
theorem d_MO_general_112 : decode b_MO_general 112 = .ok (.bipush 22, 2) := by decide +kernel
theorem d_MO_general_114 : decode b_MO_general 114 = .ok (.if_icmp .ge 7, 3) := by decide +kernel
theorem d_MO_general_117 : decode b_MO_general 117 = .ok (.iconst 1, 1) := by decide +kernel
theorem d_MO_general_118 : decode b_MO_general 118 = .ok (.goto 4, 3) := by decide +kernel
theorem d_MO_general_121 : decode b_MO_general 121 = .ok (.iconst 0, 1) := by decide +kernel
theorem d_MO_general_122 : decode b_MO_general 122 = .ok (.ireturn, 1) := by decide +kernel
theorem d_MO_general_123 : decode b_MO_general 123 = .ok (.iload_n 2, 1) := by decide +kernel
theorem d_MO_general_124 : decode b_MO_general 124 = .ok (.bipush 22, 2) := by decide +kernel
theorem d_MO_general_126 : decode b_MO_general 126 = .ok (.if_icmp .lt 7, 3) := by decide +kernel
theorem d_MO_general_129 : decode b_MO_general 129 = .ok (.iconst 1, 1) := by decide +kernel
theorem d_MO_general_130 : decode b_MO_general 130 = .ok (.goto 4, 3) := by decide +kernel
theorem d_MO_general_133 : decode b_MO_general 133 = .ok (.iconst 0, 1) := by decide +kernel
theorem d_MO_general_134 : decode b_MO_general 134 = .ok (.ireturn, 1) := by decide +kernel
theorem d_MO_property_0 : decode b_MO_property 0 = .ok (.aload_n 0, 1) := by decide +kernel
theorem d_MO_property_1 : decode b_MO_property 1 = .ok (.iload_n 1, 1) := by decide +kernel
theorem d_MO_property_2 : decode b_MO_property 2 = .ok (.invokevirtual 117, 3) := by decide +kernel
theorem d_MO_property_5 : decode b_MO_property 5 = .ok (.ifCond .ne 13, 3) := by decide +kernel
theorem d_MO_property_8 : decode b_MO_property 8 = .ok (.iload_n 2, 1) := by decide +kernel
theorem d_MO_property_9 : decode b_MO_property 9 = .ok (.ifCond .lt 9, 3) := by decide +kernel
theorem d_MO_property_12 : decode b_MO_property 12 = .ok (.iload_n 2, 1) := by decide +kernel
theorem d_MO_property_13 : decode b_MO_property 13 = .ok (.bipush 48, 2) := by decide +kernel
theorem d_MO_property_15 : decode b_MO_property 15 = .ok (.if_icmp .le 6, 3) := by decide +kernel
theorem d_MO_property_18 : decode b_MO_property 18 = .ok (.bipush (-2), 2) := by decide +kernel
theorem d_MO_property_20 : decode b_MO_property 20 = .ok (.ireturn, 1) := by decide +kernel
theorem d_MO_property_21 : decode b_MO_property 21 = .ok (.iload 4, 2) := by decide +kernel
theorem d_MO_property_23 : decode b_MO_property 23 = .ok (.ifCond .eq 19, 3) := by decide +kernel
theorem d_MO_property_26 : decode b_MO_property 26 = .ok (.iload_n 2, 1) := by decide +kernel
theorem d_MO_property_27 : decode b_MO_property 27 = .ok (.iconst 4, 1) := by decide +kernel
theorem d_MO_property_28 : decode b_MO_property 28 = .ok (.if_icmp .eq 9, 3) := by decide +kernel
theorem d_MO_property_31 : decode b_MO_property 31 = .ok (.iload_n 2, 1) := by decide +kernel
theorem d_MO_property_32 : decode b_MO_property 32 = .ok (.bipush 6, 2) := by decide +kernel
theorem d_MO_property_34 : decode b_MO_property 34 = .ok (.if_icmp .ne 8, 3) := by decide +kernel
theorem d_MO_property_37 : decode b_MO_property 37 = .ok (.bipush 45, 2) := by decide +kernel
theorem d_MO_property_39 : decode b_MO_property 39 = .ok (.goto 4, 3) := by decide +kernel
theorem d_MO_property_42 : decode b_MO_property 42 = .ok (.iload_n 2, 1) := by decide +kernel
theorem d_MO_property_43 : decode b_MO_property 43 = .ok (.istore 5, 2) := by decide +kernel
theorem d_MO_property_45 : decode b_MO_property 45 = .ok (.aload_n 0, 1) := by decide +kernel
theorem d_MO_property_46 : decode b_MO_property 46 = .ok (.getfield 49, 3) := by decide +kernel
theorem d_MO_property_49 : decode b_MO_property 49 = .ok (.sipush 12544, 3) := by decide +kernel
theorem d_MO_property_52 : decode b_MO_property 52 = .ok (.if_icmp .ge 12, 3) := by decide +kernel
theorem d_MO_property_55 : decode b_MO_property 55 = .ok (.aload_n 0, 1) := by decide +kernel
theorem d_MO_property_56 : decode b_MO_property 56 = .ok (.getfield 49, 3) := by decide +kernel
theorem d_MO_property_59 : decode b_MO_property 59 = .ok (.iconst 1, 1) := by decide +kernel
theorem d_MO_property_60 : decode b_MO_property 60 = .ok (.iadd, 1) := by decide +kernel
theorem d_MO_property_61 : decode b_MO_property 61 = .ok (.goto 6, 3) := by decide +kernel
theorem d_MO_property_64 : decode b_MO_property 64 = .ok (.sipush 12544, 3) := by decide +kernel
theorem d_MO_property_67 : decode b_MO_property 67 = .ok (.istore 6, 2) := by decide +kernel
theorem d_MO_property_69 : decode b_MO_property 69 = .ok (.iconst 0, 1) := by decide +kernel
theorem d_MO_property_70 : decode b_MO_property 70 = .ok (.istore 7, 2) := by decide +kernel
theorem d_MO_property_72 : decode b_MO_property 72 = .ok (.iload 7, 2) := by decide +kernel
theorem d_MO_property_74 : decode b_MO_property 74 = .ok (.iload 6, 2) := by decide +kernel
theorem d_MO_property_76 : decode b_MO_property 76 = .ok (.if_icmp .ge 28, 3) := by decide +kernel
theorem d_MO_property_79 : decode b_MO_property 79 = .ok (.aload_n 0, 1) := by decide +kernel
theorem d_MO_property_80 : decode b_MO_property 80 = .ok (.iload 5, 2) := by decide +kernel
theorem d_MO_property_82 : decode b_MO_property 82 = .ok (.iload 7, 2) := by decide +kernel
theorem d_MO_property_84 : decode b_MO_property 84 = .ok (.invokevirtual 134, 3) := by decide +kernel
theorem d_MO_property_87 : decode b_MO_property 87 = .ok (.iload_n 3, 1) := by decide +kernel
theorem d_MO_property_88 : decode b_MO_property 88 = .ok (.if_icmp .eq 10, 3) := by decide +kernel
theorem d_MO_property_91 : decode b_MO_property 91 = .ok (.aload_n 0, 1) := by decide +kernel
theorem d_MO_property_92 : decode b_MO_property 92 = .ok (.iload_n 1, 1) := by decide +kernel
theorem d_MO_property_93 : decode b_MO_property 93 = .ok (.iload 7, 2) := by decide +kernel
theorem d_MO_property_95 : decode b_MO_property 95 = .ok (.invokevirtual 101, 3) := by decide +kernel
theorem d_MO_property_98 : decode b_MO_property 98 = .ok (.iinc 7 1, 3) := by decide +kernel
theorem d_MO_property_101 : decode b_MO_property 101 = .ok (.goto (-29), 3) := by decide +kernel
theorem d_MO_property_104 : decode b_MO_property 104 = .ok (.aload_n 0, 1) := by decide +kernel
theorem d_MO_property_105 : decode b_MO_property 105 = .ok (.getfield 41, 3) := by decide +kernel
theorem d_MO_property_108 : decode b_MO_property 108 = .ok (.ifCond .ne 9, 3) := by decide +kernel
theorem d_MO_property_111 : decode b_MO_property 111 = .ok (.aload_n 0, 1) := by decide +kernel
theorem d_MO_property_112 : decode b_MO_property 112 = .ok (.iload_n 1, 1) := by decide +kernel
theorem d_MO_property_113 : decode b_MO_property 113 = .ok (.invokevirtual 124, 3) := by decide +kernel
theorem d_MO_property_116 : decode b_MO_property 116 = .ok (.ireturn, 1) := by decide +kernel
theorem d_MO_property_117 : decode b_MO_property 117 = .ok (.iconst 0, 1) := by decide +kernel
theorem d_MO_property_118 : decode b_MO_property 118 = .ok (.istore 7, 2) := by decide +kernel
theorem d_MO_property_120 : decode b_MO_property 120 = .ok (.iload 7, 2) := by decide +kernel
theorem d_MO_property_122 : decode b_MO_property 122 = .ok (.bipush 13, 2) := by decide +kernel
theorem d_MO_property_124 : decode b_MO_property 124 = .ok (.if_icmp .ge 49, 3) := by decide +kernel
theorem d_MO_property_127 : decode b_MO_property 127 = .ok (.aload_n 0, 1) := by decide +kernel
theorem d_MO_property_128 : decode b_MO_property 128 = .ok (.iload 5, 2) := by decide +kernel
theorem d_MO_property_130 : decode b_MO_property 130 = .ok (.aload_n 0, 1) := by decide +kernel
theorem d_MO_property_131 : decode b_MO_property 131 = .ok (.getfield 38, 3) := by decide +kernel
theorem d_MO_property_134 : decode b_MO_property 134 = .ok (.iload 7, 2) := by decide +kernel
theorem d_MO_property_136 : decode b_MO_property 136 = .ok (.iaload, 1) := by decide +kernel
theorem d_MO_property_137 : decode b_MO_property 137 = .ok (.invokevirtual 134, 3) := by decide +kernel
theorem d_MO_property_140 : decode b_MO_property 140 = .ok (.iload_n 3, 1) := by decide +kernel
theorem d_MO_property_141 : decode b_MO_property 141 = .ok (.if_icmp .eq 26, 3) := by decide +kernel
theorem d_MO_property_144 : decode b_MO_property 144 = .ok (.aload_n 0, 1) := by decide +kernel
theorem d_MO_property_145 : decode b_MO_property 145 = .ok (.iload_n 1, 1) := by decide +kernel
theorem d_MO_property_146 : decode b_MO_property 146 = .ok (.aload_n 0, 1) := by decide +kernel
theorem d_MO_property_147 : decode b_MO_property 147 = .ok (.getfield 38, 3) := by decide +kernel
theorem d_MO_property_150 : decode b_MO_property 150 = .ok (.iload 7, 2) := by decide +kernel
theorem d_MO_property_152 : decode b_MO_property 152 = .ok (.iaload, 1) := by decide +kernel
theorem d_MO_property_153 : decode b_MO_property 153 = .ok (.aload_n 0, 1) := by decide +kernel
theorem d_MO_property_154 : decode b_MO_property 154 = .ok (.getfield 38, 3) := by decide +kernel
theorem d_MO_property_157 : decode b_MO_property 157 = .ok (.iload 7, 2) := by decide +kernel
theorem d_MO_property_159 : decode b_MO_property 159 = .ok (.iconst 1, 1) := by decide +kernel
theorem d_MO_property_160 : decode b_MO_property 160 = .ok (.iadd, 1) := by decide +kernel
theorem d_MO_property_161 : decode b_MO_property 161 = .ok (.iaload, 1) := by decide +kernel
theorem d_MO_property_162 : decode b_MO_property 162 = .ok (.iconst 1, 1) := by decide +kernel
theorem d_MO_property_163 : decode b_MO_property 163 = .ok (.isub, 1) := by decide +kernel
theorem d_MO_property_164 : decode b_MO_property 164 = .ok (.invokevirtual 121, 3) := by decide +kernel
theorem d_MO_property_167 : decode b_MO_property 167 = .ok (.iinc 7 1, 3) := by decide +kernel
theorem d_MO_property_170 : decode b_MO_property 170 = .ok (.goto (-50), 3) := by decide +kernel
theorem d_MO_property_173 : decode b_MO_property 173 = .ok (.aload_n 0, 1) := by decide +kernel
theorem d_MO_property_174 : decode b_MO_property 174 = .ok (.iload_n 1, 1) := by decide +kernel
theorem d_MO_property_175 : decode b_MO_property 175 = .ok (.invokevirtual 124, 3) := by decide +kernel
theorem d_MO_property_178 : decode b_MO_property 178 = .ok (.ireturn, 1) := by decide +kernel
theorem d_MO_alpha_0 : decode b_MO_alpha 0 = .ok (.iload_n 1, 1) := by decide +kernel
theorem d_MO_alpha_1 : decode b_MO_alpha 1 = .ok (.bipush 65, 2) := by decide +kernel
theorem d_MO_alpha_3 : decode b_MO_alpha 3 = .ok (.if_icmp .lt 9, 3) := by decide +kernel
theorem d_MO_alpha_6 : decode b_MO_alpha 6 = .ok (.iload_n 1, 1) := by decide +kernel
theorem d_MO_alpha_7 : decode b_MO_alpha 7 = .ok (.bipush 90, 2) := by decide +kernel
theorem d_MO_alpha_9 : decode b_MO_alpha 9 = .ok (.if_icmp .le 15, 3) := by decide +kernel
theorem d_MO_alpha_12 : decode b_MO_alpha 12 = .ok (.iload_n 1, 1) := by decide +kernel
theorem d_MO_alpha_13 : decode b_MO_alpha 13 = .ok (.bipush 97, 2) := by decide +kernel
theorem d_MO_alpha_15 : decode b_MO_alpha 15 = .ok (.if_icmp .lt 13, 3) := by decide +kernel
theorem d_MO_alpha_18 : decode b_MO_alpha 18 = .ok (.iload_n 1, 1) := by decide +kernel
theorem d_MO_alpha_19 : decode b_MO_alpha 19 = .ok (.bipush 122, 2) := by decide +kernel
theorem d_MO_alpha_21 : decode b_MO_alpha 21 = .ok (.if_icmp .gt 7, 3) := by decide +kernel
theorem d_MO_alpha_24 : decode b_MO_alpha 24 = .ok (.iconst 1, 1) := by decide +kernel
theorem d_MO_alpha_25 : decode b_MO_alpha 25 = .ok (.goto 4, 3) := by decide +kernel
theorem d_MO_alpha_28 : decode b_MO_alpha 28 = .ok (.iconst 0, 1) := by decide +kernel
theorem d_MO_alpha_29 : decode b_MO_alpha 29 = .ok (.ireturn, 1) := by decide +kernel
end
section
theorem d_MO_digit_0 : decode b_MO_digit 0 = .ok (.iload_n 1, 1) := by decide +kernel
theorem d_MO_digit_1 : decode b_MO_digit 1 = .ok (.bipush 48, 2) := by decide +kernel
theorem d_MO_digit_3 : decode b_MO_digit 3 = .ok (.if_icmp .lt 13, 3) := by decide +kernel
theorem d_MO_digit_6 : decode b_MO_digit 6 = .ok (.iload_n 1, 1) := by decide +kernel
theorem d_MO_digit_7 : decode b_MO_digit 7 = .ok (.bipush 57, 2) := by decide +kernel
theorem d_MO_digit_9 : decode b_MO_digit 9 = .ok (.if_icmp .gt 7, 3) := by decide +kernel
theorem d_MO_digit_12 : decode b_MO_digit 12 = .ok (.iconst 1, 1) := by decide +kernel
theorem d_MO_digit_13 : decode b_MO_digit 13 = .ok (.goto 4, 3) := by decide +kernel
theorem d_MO_digit_16 : decode b_MO_digit 16 = .ok (.iconst 0, 1) := by decide +kernel
theorem d_MO_digit_17 : decode b_MO_digit 17 = .ok (.ireturn, 1) := by decide +kernel
theorem d_MO_blank_0 : decode b_MO_blank 0 = .ok (.iload_n 1, 1) := by decide +kernel
theorem d_MO_blank_1 : decode b_MO_blank 1 = .ok (.bipush 9, 2) := by decide +kernel
theorem d_MO_blank_3 : decode b_MO_blank 3 = .ok (.if_icmp .eq 65, 3) := by decide +kernel
theorem d_MO_blank_6 : decode b_MO_blank 6 = .ok (.iload_n 1, 1) := by decide +kernel
theorem d_MO_blank_7 : decode b_MO_blank 7 = .ok (.bipush 32, 2) := by decide +kernel
theorem d_MO_blank_9 : decode b_MO_blank 9 = .ok (.if_icmp .eq 59, 3) := by decide +kernel
theorem d_MO_blank_12 : decode b_MO_blank 12 = .ok (.iload_n 1, 1) := by decide +kernel
theorem d_MO_blank_13 : decode b_MO_blank 13 = .ok (.sipush 160, 3) := by decide +kernel
theorem d_MO_blank_16 : decode b_MO_blank 16 = .ok (.if_icmp .eq 52, 3) := by decide +kernel
theorem d_MO_blank_19 : decode b_MO_blank 19 = .ok (.iload_n 1, 1) := by decide +kernel
theorem d_MO_blank_20 : decode b_MO_blank 20 = .ok (.sipush 5760, 3) := by decide +kernel
theorem d_MO_blank_23 : decode b_MO_blank 23 = .ok (.if_icmp .eq 45, 3) := by decide +kernel
theorem d_MO_blank_26 : decode b_MO_blank 26 = .ok (.iload_n 1, 1) := by decide +kernel
theorem d_MO_blank_27 : decode b_MO_blank 27 = .ok (.sipush 6158, 3) := by decide +kernel
theorem d_MO_blank_30 : decode b_MO_blank 30 = .ok (.if_icmp .eq 38, 3) := by decide +kernel
theorem d_MO_blank_33 : decode b_MO_blank 33 = .ok (.iload_n 1, 1) := by decide +kernel
theorem d_MO_blank_34 : decode b_MO_blank 34 = .ok (.sipush 8192, 3) := by decide +kernel
theorem d_MO_blank_37 : decode b_MO_blank 37 = .ok (.if_icmp .lt 10, 3) := by decide +kernel
theorem d_MO_blank_40 : decode b_MO_blank 40 = .ok (.iload_n 1, 1) := by decide +kernel
theorem d_MO_blank_41 : decode b_MO_blank 41 = .ok (.sipush 8202, 3) := by decide +kernel
theorem d_MO_blank_44 : decode b_MO_blank 44 = .ok (.if_icmp .le 24, 3) := by decide +kernel
theorem d_MO_blank_47 : decode b_MO_blank 47 = .ok (.iload_n 1, 1) := by decide +kernel
theorem d_MO_blank_48 : decode b_MO_blank 48 = .ok (.sipush 8239, 3) := by decide +kernel
theorem d_MO_blank_51 : decode b_MO_blank 51 = .ok (.if_icmp .eq 17, 3) := by decide +kernel
theorem d_MO_blank_54 : decode b_MO_blank 54 = .ok (.iload_n 1, 1) := by decide +kernel
theorem d_MO_blank_55 : decode b_MO_blank 55 = .ok (.sipush 8287, 3) := by decide +kernel
theorem d_MO_blank_58 : decode b_MO_blank 58 = .ok (.if_icmp .eq 10, 3) := by decide +kernel
theorem d_MO_blank_61 : decode b_MO_blank 61 = .ok (.iload_n 1, 1) := by decide +kernel
theorem d_MO_blank_62 : decode b_MO_blank 62 = .ok (.sipush 12288, 3) := by decide +kernel
theorem d_MO_blank_65 : decode b_MO_blank 65 = .ok (.if_icmp .ne 7, 3) := by decide +kernel
theorem d_MO_blank_68 : decode b_MO_blank 68 = .ok (.iconst 1, 1) := by decide +kernel
theorem d_MO_blank_69 : decode b_MO_blank 69 = .ok (.goto 4, 3) := by decide +kernel
theorem d_MO_blank_72 : decode b_MO_blank 72 = .ok (.iconst 0, 1) := by decide +kernel
theorem d_MO_blank_73 : decode b_MO_blank 73 = .ok (.ireturn, 1) := by decide +kernel
theorem d_MO_plainly_0 : decode b_MO_plainly 0 = .ok (.iload_n 2, 1) := by decide +kernel
theorem d_MO_plainly_1 : decode b_MO_plainly 1 = .ok (.bipush 33, 2) := by decide +kernel
theorem d_MO_plainly_3 : decode b_MO_plainly 3 = .ok (.if_icmp .lt 13, 3) := by decide +kernel
theorem d_MO_plainly_6 : decode b_MO_plainly 6 = .ok (.iload_n 2, 1) := by decide +kernel
theorem d_MO_plainly_7 : decode b_MO_plainly 7 = .ok (.bipush 126, 2) := by decide +kernel
theorem d_MO_plainly_9 : decode b_MO_plainly 9 = .ok (.if_icmp .gt 7, 3) := by decide +kernel
theorem d_MO_plainly_12 : decode b_MO_plainly 12 = .ok (.iconst 1, 1) := by decide +kernel
theorem d_MO_plainly_13 : decode b_MO_plainly 13 = .ok (.goto 4, 3) := by decide +kernel
theorem d_MO_plainly_16 : decode b_MO_plainly 16 = .ok (.iconst 0, 1) := by decide +kernel
theorem d_MO_plainly_17 : decode b_MO_plainly 17 = .ok (.istore_n 3, 1) := by decide +kernel
theorem d_MO_plainly_18 : decode b_MO_plainly 18 = .ok (.iload_n 1, 1) := by decide +kernel
theorem d_MO_plainly_19 : decode b_MO_plainly 19 = .ok (.tableswitch 374 0 17 #[85, 91, 119, 143, 149, 188, 194, 214, 85, 234, 91, 119, 256, 274, 292, 294, 310, 336], 85) := by decide +kernel
theorem d_MO_plainly_104 : decode b_MO_plainly 104 = .ok (.aload_n 0, 1) := by decide +kernel
theorem d_MO_plainly_105 : decode b_MO_plainly 105 = .ok (.iload_n 2, 1) := by decide +kernel
theorem d_MO_plainly_106 : decode b_MO_plainly 106 = .ok (.invokevirtual 137, 3) := by decide +kernel
theorem d_MO_plainly_109 : decode b_MO_plainly 109 = .ok (.ireturn, 1) := by decide +kernel
theorem d_MO_plainly_110 : decode b_MO_plainly 110 = .ok (.aload_n 0, 1) := by decide +kernel
theorem d_MO_plainly_111 : decode b_MO_plainly 111 = .ok (.iload_n 2, 1) := by decide +kernel
theorem d_MO_plainly_112 : decode b_MO_plainly 112 = .ok (.invokevirtual 140, 3) := by decide +kernel
theorem d_MO_plainly_115 : decode b_MO_plainly 115 = .ok (.ifCond .ne 17, 3) := by decide +kernel
theorem d_MO_plainly_118 : decode b_MO_plainly 118 = .ok (.aload_n 0, 1) := by decide +kernel
theorem d_MO_plainly_119 : decode b_MO_plainly 119 = .ok (.iload_n 2, 1) := by decide +kernel
theorem d_MO_plainly_120 : decode b_MO_plainly 120 = .ok (.invokevirtual 137, 3) := by decide +kernel
theorem d_MO_plainly_123 : decode b_MO_plainly 123 = .ok (.ifCond .ne 9, 3) := by decide +kernel
theorem d_MO_plainly_126 : decode b_MO_plainly 126 = .ok (.iload_n 2, 1) := by decide +kernel
theorem d_MO_plainly_127 : decode b_MO_plainly 127 = .ok (.bipush 95, 2) := by decide +kernel
theorem d_MO_plainly_129 : decode b_MO_plainly 129 = .ok (.if_icmp .ne 7, 3) := by decide +kernel
theorem d_MO_plainly_132 : decode b_MO_plainly 132 = .ok (.iconst 1, 1) := by decide +kernel
theorem d_MO_plainly_133 : decode b_MO_plainly 133 = .ok (.goto 4, 3) := by decide +kernel
theorem d_MO_plainly_136 : decode b_MO_plainly 136 = .ok (.iconst 0, 1) := by decide +kernel
theorem d_MO_plainly_137 : decode b_MO_plainly 137 = .ok (.ireturn, 1) := by decide +kernel
theorem d_MO_plainly_138 : decode b_MO_plainly 138 = .ok (.iload_n 2, 1) := by decide +kernel
theorem d_MO_plainly_139 : decode b_MO_plainly 139 = .ok (.bipush 9, 2) := by decide +kernel
theorem d_MO_plainly_141 : decode b_MO_plainly 141 = .ok (.if_icmp .lt 9, 3) := by decide +kernel
theorem d_MO_plainly_144 : decode b_MO_plainly 144 = .ok (.iload_n 2, 1) := by decide +kernel
theorem d_MO_plainly_145 : decode b_MO_plainly 145 = .ok (.bipush 13, 2) := by decide +kernel
theorem d_MO_plainly_147 : decode b_MO_plainly 147 = .ok (.if_icmp .le 9, 3) := by decide +kernel
theorem d_MO_plainly_150 : decode b_MO_plainly 150 = .ok (.iload_n 2, 1) := by decide +kernel
theorem d_MO_plainly_151 : decode b_MO_plainly 151 = .ok (.bipush 32, 2) := by decide +kernel
theorem d_MO_plainly_153 : decode b_MO_plainly 153 = .ok (.if_icmp .ne 7, 3) := by decide +kernel
theorem d_MO_plainly_156 : decode b_MO_plainly 156 = .ok (.iconst 1, 1) := by decide +kernel
theorem d_MO_plainly_157 : decode b_MO_plainly 157 = .ok (.goto 4, 3) := by decide +kernel
theorem d_MO_plainly_160 : decode b_MO_plainly 160 = .ok (.iconst 0, 1) := by decide +kernel
theorem d_MO_plainly_161 : decode b_MO_plainly 161 = .ok (.ireturn, 1) := by decide +kernel
theorem d_MO_plainly_162 : decode b_MO_plainly 162 = .ok (.aload_n 0, 1) := by decide +kernel
theorem d_MO_plainly_163 : decode b_MO_plainly 163 = .ok (.iload_n 2, 1) := by decide +kernel
theorem d_MO_plainly_164 : decode b_MO_plainly 164 = .ok (.invokevirtual 143, 3) := by decide +kernel
theorem d_MO_plainly_167 : decode b_MO_plainly 167 = .ok (.ireturn, 1) := by decide +kernel
theorem d_MO_plainly_168 : decode b_MO_plainly 168 = .ok (.iload_n 2, 1) := by decide +kernel
theorem d_MO_plainly_169 : decode b_MO_plainly 169 = .ok (.bipush 10, 2) := by decide +kernel
theorem d_MO_plainly_171 : decode b_MO_plainly 171 = .ok (.if_icmp .lt 9, 3) := by decide +kernel
theorem d_MO_plainly_174 : decode b_MO_plainly 174 = .ok (.iload_n 2, 1) := by decide +kernel
theorem d_MO_plainly_175 : decode b_MO_plainly 175 = .ok (.bipush 13, 2) := by decide +kernel
theorem d_MO_plainly_177 : decode b_MO_plainly 177 = .ok (.if_icmp .le 24, 3) := by decide +kernel
theorem d_MO_plainly_180 : decode b_MO_plainly 180 = .ok (.iload_n 2, 1) := by decide +kernel
theorem d_MO_plainly_181 : decode b_MO_plainly 181 = .ok (.sipush 133, 3) := by decide +kernel
theorem d_MO_plainly_184 : decode b_MO_plainly 184 = .ok (.if_icmp .eq 17, 3) := by decide +kernel
theorem d_MO_plainly_187 : decode b_MO_plainly 187 = .ok (.iload_n 2, 1) := by decide +kernel
theorem d_MO_plainly_188 : decode b_MO_plainly 188 = .ok (.sipush 8232, 3) := by decide +kernel
theorem d_MO_plainly_191 : decode b_MO_plainly 191 = .ok (.if_icmp .eq 10, 3) := by decide +kernel
theorem d_MO_plainly_194 : decode b_MO_plainly 194 = .ok (.iload_n 2, 1) := by decide +kernel
theorem d_MO_plainly_195 : decode b_MO_plainly 195 = .ok (.sipush 8233, 3) := by decide +kernel
theorem d_MO_plainly_198 : decode b_MO_plainly 198 = .ok (.if_icmp .ne 7, 3) := by decide +kernel
theorem d_MO_plainly_201 : decode b_MO_plainly 201 = .ok (.iconst 1, 1) := by decide +kernel
theorem d_MO_plainly_202 : decode b_MO_plainly 202 = .ok (.goto 4, 3) := by decide +kernel
theorem d_MO_plainly_205 : decode b_MO_plainly 205 = .ok (.iconst 0, 1) := by decide +kernel
theorem d_MO_plainly_206 : decode b_MO_plainly 206 = .ok (.ireturn, 1) := by decide +kernel
theorem d_MO_plainly_207 : decode b_MO_plainly 207 = .ok (.aload_n 0, 1) := by decide +kernel
theorem d_MO_plainly_208 : decode b_MO_plainly 208 = .ok (.iload_n 2, 1) := by decide +kernel
theorem d_MO_plainly_209 : decode b_MO_plainly 209 = .ok (.invokevirtual 140, 3) := by decide +kernel
theorem d_MO_plainly_212 : decode b_MO_plainly 212 = .ok (.ireturn, 1) := by decide +kernel
theorem d_MO_plainly_213 : decode b_MO_plainly 213 = .ok (.aload_n 0, 1) := by decide +kernel
theorem d_MO_plainly_214 : decode b_MO_plainly 214 = .ok (.iload_n 2, 1) := by decide +kernel
theorem d_MO_plainly_215 : decode b_MO_plainly 215 = .ok (.invokevirtual 140, 3) := by decide +kernel
theorem d_MO_plainly_218 : decode b_MO_plainly 218 = .ok (.ifCond .eq 13, 3) := by decide +kernel
theorem d_MO_plainly_221 : decode b_MO_plainly 221 = .ok (.iload_n 2, 1) := by decide +kernel
theorem d_MO_plainly_222 : decode b_MO_plainly 222 = .ok (.bipush 96, 2) := by decide +kernel
theorem d_MO_plainly_224 : decode b_MO_plainly 224 = .ok (.if_icmp .le 7, 3) := by decide +kernel
theorem d_MO_plainly_227 : decode b_MO_plainly 227 = .ok (.iconst 1, 1) := by decide +kernel
theorem d_MO_plainly_228 : decode b_MO_plainly 228 = .ok (.goto 4, 3) := by decide +kernel
theorem d_MO_plainly_231 : decode b_MO_plainly 231 = .ok (.iconst 0, 1) := by decide +kernel
theorem d_MO_plainly_232 : decode b_MO_plainly 232 = .ok (.ireturn, 1) := by decide +kernel
theorem d_MO_plainly_233 : decode b_MO_plainly 233 = .ok (.aload_n 0, 1) := by decide +kernel
theorem d_MO_plainly_234 : decode b_MO_plainly 234 = .ok (.iload_n 2, 1) := by decide +kernel
theorem d_MO_plainly_235 : decode b_MO_plainly 235 = .ok (.invokevirtual 140, 3) := by decide +kernel
theorem d_MO_plainly_238 : decode b_MO_plainly 238 = .ok (.ifCond .eq 13, 3) := by decide +kernel
theorem d_MO_plainly_241 : decode b_MO_plainly 241 = .ok (.iload_n 2, 1) := by decide +kernel
theorem d_MO_plainly_242 : decode b_MO_plainly 242 = .ok (.bipush 96, 2) := by decide +kernel
theorem d_MO_plainly_244 : decode b_MO_plainly 244 = .ok (.if_icmp .ge 7, 3) := by decide +kernel
theorem d_MO_plainly_247 : decode b_MO_plainly 247 = .ok (.iconst 1, 1) := by decide +kernel
theorem d_MO_plainly_248 : decode b_MO_plainly 248 = .ok (.goto 4, 3) := by decide +kernel
theorem d_MO_plainly_251 : decode b_MO_plainly 251 = .ok (.iconst 0, 1) := by decide +kernel
theorem d_MO_plainly_252 : decode b_MO_plainly 252 = .ok (.ireturn, 1) := by decide +kernel
theorem d_MO_plainly_253 : decode b_MO_plainly 253 = .ok (.aload_n 0, 1) := by decide +kernel
theorem d_MO_plainly_254 : decode b_MO_plainly 254 = .ok (.iload_n 2, 1) := by decide +kernel
theorem d_MO_plainly_255 : decode b_MO_plainly 255 = .ok (.invokevirtual 140, 3) := by decide +kernel
theorem d_MO_plainly_258 : decode b_MO_plainly 258 = .ok (.ifCond .ne 11, 3) := by decide +kernel
theorem d_MO_plainly_261 : decode b_MO_plainly 261 = .ok (.aload_n 0, 1) := by decide +kernel
theorem d_MO_plainly_262 : decode b_MO_plainly 262 = .ok (.iload_n 2, 1) := by decide +kernel
theorem d_MO_plainly_263 : decode b_MO_plainly 263 = .ok (.invokevirtual 137, 3) := by decide +kernel
theorem d_MO_plainly_266 : decode b_MO_plainly 266 = .ok (.ifCond .eq 7, 3) := by decide +kernel
theorem d_MO_plainly_269 : decode b_MO_plainly 269 = .ok (.iconst 1, 1) := by decide +kernel
theorem d_MO_plainly_270 : decode b_MO_plainly 270 = .ok (.goto 4, 3) := by decide +kernel
theorem d_MO_plainly_273 : decode b_MO_plainly 273 = .ok (.iconst 0, 1) := by decide +kernel
theorem d_MO_plainly_274 : decode b_MO_plainly 274 = .ok (.ireturn, 1) := by decide +kernel
theorem d_MO_plainly_275 : decode b_MO_plainly 275 = .ok (.iload_n 2, 1) := by decide +kernel
theorem d_MO_plainly_276 : decode b_MO_plainly 276 = .ok (.bipush 9, 2) := by decide +kernel
theorem d_MO_plainly_278 : decode b_MO_plainly 278 = .ok (.if_icmp .eq 9, 3) := by decide +kernel
theorem d_MO_plainly_281 : decode b_MO_plainly 281 = .ok (.iload_n 2, 1) := by decide +kernel
theorem d_MO_plainly_282 : decode b_MO_plainly 282 = .ok (.bipush 32, 2) := by decide +kernel
theorem d_MO_plainly_284 : decode b_MO_plainly 284 = .ok (.if_icmp .ne 7, 3) := by decide +kernel
theorem d_MO_plainly_287 : decode b_MO_plainly 287 = .ok (.iconst 1, 1) := by decide +kernel
theorem d_MO_plainly_288 : decode b_MO_plainly 288 = .ok (.goto 4, 3) := by decide +kernel
theorem d_MO_plainly_291 : decode b_MO_plainly 291 = .ok (.iconst 0, 1) := by decide +kernel
theorem d_MO_plainly_292 : decode b_MO_plainly 292 = .ok (.ireturn, 1) := by decide +kernel
theorem d_MO_plainly_293 : decode b_MO_plainly 293 = .ok (.iload_n 2, 1) := by decide +kernel
theorem d_MO_plainly_294 : decode b_MO_plainly 294 = .ok (.bipush 32, 2) := by decide +kernel
theorem d_MO_plainly_296 : decode b_MO_plainly 296 = .ok (.if_icmp .lt 9, 3) := by decide +kernel
theorem d_MO_plainly_299 : decode b_MO_plainly 299 = .ok (.iload_n 2, 1) := by decide +kernel
theorem d_MO_plainly_300 : decode b_MO_plainly 300 = .ok (.bipush 127, 2) := by decide +kernel
theorem d_MO_plainly_302 : decode b_MO_plainly 302 = .ok (.if_icmp .ne 7, 3) := by decide +kernel
theorem d_MO_plainly_305 : decode b_MO_plainly 305 = .ok (.iconst 1, 1) := by decide +kernel
theorem d_MO_plainly_306 : decode b_MO_plainly 306 = .ok (.goto 4, 3) := by decide +kernel
theorem d_MO_plainly_309 : decode b_MO_plainly 309 = .ok (.iconst 0, 1) := by decide +kernel
theorem d_MO_plainly_310 : decode b_MO_plainly 310 = .ok (.ireturn, 1) := by decide +kernel
theorem d_MO_plainly_311 : decode b_MO_plainly 311 = .ok (.iload_n 3, 1) := by decide +kernel
theorem d_MO_plainly_312 : decode b_MO_plainly 312 = .ok (.ireturn, 1) := by decide +kernel
theorem d_MO_plainly_313 : decode b_MO_plainly 313 = .ok (.iload_n 3, 1) := by decide +kernel
theorem d_MO_plainly_314 : decode b_MO_plainly 314 = .ok (.ifCond .ne 9, 3) := by decide +kernel
theorem d_MO_plainly_317 : decode b_MO_plainly 317 = .ok (.iload_n 2, 1) := by decide +kernel
theorem d_MO_plainly_318 : decode b_MO_plainly 318 = .ok (.bipush 32, 2) := by decide +kernel
theorem d_MO_plainly_320 : decode b_MO_plainly 320 = .ok (.if_icmp .ne 7, 3) := by decide +kernel
theorem d_MO_plainly_323 : decode b_MO_plainly 323 = .ok (.iconst 1, 1) := by decide +kernel
theorem d_MO_plainly_324 : decode b_MO_plainly 324 = .ok (.goto 4, 3) := by decide +kernel
theorem d_MO_plainly_327 : decode b_MO_plainly 327 = .ok (.iconst 0, 1) := by decide +kernel
theorem d_MO_plainly_328 : decode b_MO_plainly 328 = .ok (.ireturn, 1) := by decide +kernel
theorem d_MO_plainly_329 : decode b_MO_plainly 329 = .ok (.iload_n 3, 1) := by decide +kernel
theorem d_MO_plainly_330 : decode b_MO_plainly 330 = .ok (.ifCond .eq 23, 3) := by decide +kernel
theorem d_MO_plainly_333 : decode b_MO_plainly 333 = .ok (.aload_n 0, 1) := by decide +kernel
theorem d_MO_plainly_334 : decode b_MO_plainly 334 = .ok (.iload_n 2, 1) := by decide +kernel
theorem d_MO_plainly_335 : decode b_MO_plainly 335 = .ok (.invokevirtual 140, 3) := by decide +kernel
theorem d_MO_plainly_338 : decode b_MO_plainly 338 = .ok (.ifCond .ne 15, 3) := by decide +kernel
theorem d_MO_plainly_341 : decode b_MO_plainly 341 = .ok (.aload_n 0, 1) := by decide +kernel
theorem d_MO_plainly_342 : decode b_MO_plainly 342 = .ok (.iload_n 2, 1) := by decide +kernel
theorem d_MO_plainly_343 : decode b_MO_plainly 343 = .ok (.invokevirtual 137, 3) := by decide +kernel
theorem d_MO_plainly_346 : decode b_MO_plainly 346 = .ok (.ifCond .ne 7, 3) := by decide +kernel
theorem d_MO_plainly_349 : decode b_MO_plainly 349 = .ok (.iconst 1, 1) := by decide +kernel
theorem d_MO_plainly_350 : decode b_MO_plainly 350 = .ok (.goto 4, 3) := by decide +kernel
theorem d_MO_plainly_353 : decode b_MO_plainly 353 = .ok (.iconst 0, 1) := by decide +kernel
theorem d_MO_plainly_354 : decode b_MO_plainly 354 = .ok (.ireturn, 1) := by decide +kernel
theorem d_MO_plainly_355 : decode b_MO_plainly 355 = .ok (.aload_n 0, 1) := by decide +kernel
theorem d_MO_plainly_356 : decode b_MO_plainly 356 = .ok (.iload_n 2, 1) := by decide +kernel
theorem d_MO_plainly_357 : decode b_MO_plainly 357 = .ok (.invokevirtual 137, 3) := by decide +kernel
theorem d_MO_plainly_360 : decode b_MO_plainly 360 = .ok (.ifCond .ne 27, 3) := by decide +kernel
theorem d_MO_plainly_363 : decode b_MO_plainly 363 = .ok (.iload_n 2, 1) := by decide +kernel
theorem d_MO_plainly_364 : decode b_MO_plainly 364 = .ok (.bipush 65, 2) := by decide +kernel
theorem d_MO_plainly_366 : decode b_MO_plainly 366 = .ok (.if_icmp .lt 9, 3) := by decide +kernel
theorem d_MO_plainly_369 : decode b_MO_plainly 369 = .ok (.iload_n 2, 1) := by decide +kernel
theorem d_MO_plainly_370 : decode b_MO_plainly 370 = .ok (.bipush 70, 2) := by decide +kernel
theorem d_MO_plainly_372 : decode b_MO_plainly 372 = .ok (.if_icmp .le 15, 3) := by decide +kernel
theorem d_MO_plainly_375 : decode b_MO_plainly 375 = .ok (.iload_n 2, 1) := by decide +kernel
theorem d_MO_plainly_376 : decode b_MO_plainly 376 = .ok (.bipush 97, 2) := by decide +kernel
theorem d_MO_plainly_378 : decode b_MO_plainly 378 = .ok (.if_icmp .lt 13, 3) := by decide +kernel
theorem d_MO_plainly_381 : decode b_MO_plainly 381 = .ok (.iload_n 2, 1) := by decide +kernel
theorem d_MO_plainly_382 : decode b_MO_plainly 382 = .ok (.bipush 102, 2) := by decide +kernel
theorem d_MO_plainly_384 : decode b_MO_plainly 384 = .ok (.if_icmp .gt 7, 3) := by decide +kernel
theorem d_MO_plainly_387 : decode b_MO_plainly 387 = .ok (.iconst 1, 1) := by decide +kernel
theorem d_MO_plainly_388 : decode b_MO_plainly 388 = .ok (.goto 4, 3) := by decide +kernel
theorem d_MO_plainly_391 : decode b_MO_plainly 391 = .ok (.iconst 0, 1) := by decide +kernel
theorem d_MO_plainly_392 : decode b_MO_plainly 392 = .ok (.ireturn, 1) := by decide +kernel
theorem d_MO_plainly_393 : decode b_MO_plainly 393 = .ok (.iload_n 2, 1) := by decide +kernel
theorem d_MO_plainly_394 : decode b_MO_plainly 394 = .ok (.sipush 128, 3) := by decide +kernel
theorem d_MO_plainly_397 : decode b_MO_plainly 397 = .ok (.if_icmp .ge 7, 3) := by decide +kernel
theorem d_MO_plainly_400 : decode b_MO_plainly 400 = .ok (.iconst 1, 1) := by decide +kernel
theorem d_MO_plainly_401 : decode b_MO_plainly 401 = .ok (.goto 4, 3) := by decide +kernel
theorem d_MO_plainly_404 : decode b_MO_plainly 404 = .ok (.iconst 0, 1) := by decide +kernel
theorem d_MO_plainly_405 : decode b_MO_plainly 405 = .ok (.ireturn, 1) := by decide +kernel
theorem d_MO_widely_0 : decode b_MO_widely 0 = .ok (.aload_n 0, 1) := by decide +kernel
theorem d_MO_widely_1 : decode b_MO_widely 1 = .ok (.iload_n 2, 1) := by decide +kernel
theorem d_MO_widely_2 : decode b_MO_widely 2 = .ok (.invokevirtual 75, 3) := by decide +kernel
theorem d_MO_widely_5 : decode b_MO_widely 5 = .ok (.istore_n 3, 1) := by decide +kernel
theorem d_MO_widely_6 : decode b_MO_widely 6 = .ok (.aload_n 0, 1) := by decide +kernel
theorem d_MO_widely_7 : decode b_MO_widely 7 = .ok (.bipush 6, 2) := by decide +kernel
theorem d_MO_widely_9 : decode b_MO_widely 9 = .ok (.iload_n 3, 1) := by decide +kernel
theorem d_MO_widely_10 : decode b_MO_widely 10 = .ok (.invokevirtual 127, 3) := by decide +kernel
theorem d_MO_widely_13 : decode b_MO_widely 13 = .ok (.ifCond .ne 16, 3) := by decide +kernel
theorem d_MO_widely_16 : decode b_MO_widely 16 = .ok (.iload_n 3, 1) := by decide +kernel
theorem d_MO_widely_17 : decode b_MO_widely 17 = .ok (.iconst 1, 1) := by decide +kernel
theorem d_MO_widely_18 : decode b_MO_widely 18 = .ok (.if_icmp .eq 11, 3) := by decide +kernel
theorem d_MO_widely_21 : decode b_MO_widely 21 = .ok (.iload_n 3, 1) := by decide +kernel
theorem d_MO_widely_22 : decode b_MO_widely 22 = .ok (.ifCond .eq 7, 3) := by decide +kernel
theorem d_MO_widely_25 : decode b_MO_widely 25 = .ok (.iconst 1, 1) := by decide +kernel
theorem d_MO_widely_26 : decode b_MO_widely 26 = .ok (.goto 4, 3) := by decide +kernel
theorem d_MO_widely_29 : decode b_MO_widely 29 = .ok (.iconst 0, 1) := by decide +kernel
theorem d_MO_widely_30 : decode b_MO_widely 30 = .ok (.istore 4, 2) := by decide +kernel
theorem d_MO_widely_32 : decode b_MO_widely 32 = .ok (.iload_n 1, 1) := by decide +kernel
theorem d_MO_widely_33 : decode b_MO_widely 33 = .ok (.tableswitch 217 0 16 #[83, 95, 103, 217, 217, 117, 124, 135, 83, 147, 95, 103, 111, 155, 166, 169, 186], 83) := by decide +kernel
theorem d_MO_widely_116 : decode b_MO_widely 116 = .ok (.iload_n 3, 1) := by decide +kernel
theorem d_MO_widely_117 : decode b_MO_widely 117 = .ok (.bipush 8, 2) := by decide +kernel
theorem d_MO_widely_119 : decode b_MO_widely 119 = .ok (.if_icmp .ne 7, 3) := by decide +kernel
theorem d_MO_widely_122 : decode b_MO_widely 122 = .ok (.iconst 1, 1) := by decide +kernel
theorem d_MO_widely_123 : decode b_MO_widely 123 = .ok (.goto 4, 3) := by decide +kernel
theorem d_MO_widely_126 : decode b_MO_widely 126 = .ok (.iconst 0, 1) := by decide +kernel
theorem d_MO_widely_127 : decode b_MO_widely 127 = .ok (.ireturn, 1) := by decide +kernel
theorem d_MO_widely_128 : decode b_MO_widely 128 = .ok (.aload_n 0, 1) := by decide +kernel
theorem d_MO_widely_129 : decode b_MO_widely 129 = .ok (.bipush 47, 2) := by decide +kernel
theorem d_MO_widely_131 : decode b_MO_widely 131 = .ok (.iload_n 2, 1) := by decide +kernel
theorem d_MO_widely_132 : decode b_MO_widely 132 = .ok (.invokevirtual 134, 3) := by decide +kernel
theorem d_MO_widely_135 : decode b_MO_widely 135 = .ok (.ireturn, 1) := by decide +kernel
theorem d_MO_widely_136 : decode b_MO_widely 136 = .ok (.aload_n 0, 1) := by decide +kernel
theorem d_MO_widely_137 : decode b_MO_widely 137 = .ok (.bipush 48, 2) := by decide +kernel
theorem d_MO_widely_139 : decode b_MO_widely 139 = .ok (.iload_n 2, 1) := by decide +kernel
theorem d_MO_widely_140 : decode b_MO_widely 140 = .ok (.invokevirtual 134, 3) := by decide +kernel
theorem d_MO_widely_143 : decode b_MO_widely 143 = .ok (.ireturn, 1) := by decide +kernel
theorem d_MO_widely_144 : decode b_MO_widely 144 = .ok (.aload_n 0, 1) := by decide +kernel
theorem d_MO_widely_145 : decode b_MO_widely 145 = .ok (.iload_n 2, 1) := by decide +kernel
theorem d_MO_widely_146 : decode b_MO_widely 146 = .ok (.invokevirtual 143, 3) := by decide +kernel
theorem d_MO_widely_149 : decode b_MO_widely 149 = .ok (.ireturn, 1) := by decide +kernel
theorem d_MO_widely_150 : decode b_MO_widely 150 = .ok (.aload_n 0, 1) := by decide +kernel
theorem d_MO_widely_151 : decode b_MO_widely 151 = .ok (.iconst 1, 1) := by decide +kernel
theorem d_MO_widely_152 : decode b_MO_widely 152 = .ok (.iload_n 3, 1) := by decide +kernel
theorem d_MO_widely_153 : decode b_MO_widely 153 = .ok (.invokevirtual 127, 3) := by decide +kernel
theorem d_MO_widely_156 : decode b_MO_widely 156 = .ok (.ireturn, 1) := by decide +kernel
theorem d_MO_widely_157 : decode b_MO_widely 157 = .ok (.iload_n 3, 1) := by decide +kernel
theorem d_MO_widely_158 : decode b_MO_widely 158 = .ok (.iconst 4, 1) := by decide +kernel
theorem d_MO_widely_159 : decode b_MO_widely 159 = .ok (.if_icmp .ne 7, 3) := by decide +kernel
theorem d_MO_widely_162 : decode b_MO_widely 162 = .ok (.iconst 1, 1) := by decide +kernel
theorem d_MO_widely_163 : decode b_MO_widely 163 = .ok (.goto 4, 3) := by decide +kernel
theorem d_MO_widely_166 : decode b_MO_widely 166 = .ok (.iconst 0, 1) := by decide +kernel
theorem d_MO_widely_167 : decode b_MO_widely 167 = .ok (.ireturn, 1) := by decide +kernel
theorem d_MO_widely_168 : decode b_MO_widely 168 = .ok (.iload_n 3, 1) := by decide +kernel
theorem d_MO_widely_169 : decode b_MO_widely 169 = .ok (.bipush 6, 2) := by decide +kernel
theorem d_MO_widely_171 : decode b_MO_widely 171 = .ok (.if_icmp .ne 7, 3) := by decide +kernel
theorem d_MO_widely_174 : decode b_MO_widely 174 = .ok (.iconst 1, 1) := by decide +kernel
theorem d_MO_widely_175 : decode b_MO_widely 175 = .ok (.goto 4, 3) := by decide +kernel
theorem d_MO_widely_178 : decode b_MO_widely 178 = .ok (.iconst 0, 1) := by decide +kernel
theorem d_MO_widely_179 : decode b_MO_widely 179 = .ok (.ireturn, 1) := by decide +kernel
theorem d_MO_widely_180 : decode b_MO_widely 180 = .ok (.aload_n 0, 1) := by decide +kernel
theorem d_MO_widely_181 : decode b_MO_widely 181 = .ok (.bipush 46, 2) := by decide +kernel
theorem d_MO_widely_183 : decode b_MO_widely 183 = .ok (.iload_n 2, 1) := by decide +kernel
theorem d_MO_widely_184 : decode b_MO_widely 184 = .ok (.invokevirtual 134, 3) := by decide +kernel
theorem d_MO_widely_187 : decode b_MO_widely 187 = .ok (.ireturn, 1) := by decide +kernel
theorem d_MO_widely_188 : decode b_MO_widely 188 = .ok (.iload_n 3, 1) := by decide +kernel
theorem d_MO_widely_189 : decode b_MO_widely 189 = .ok (.iconst 1, 1) := by decide +kernel
theorem d_MO_widely_190 : decode b_MO_widely 190 = .ok (.if_icmp .ne 7, 3) := by decide +kernel
theorem d_MO_widely_193 : decode b_MO_widely 193 = .ok (.iconst 1, 1) := by decide +kernel
theorem d_MO_widely_194 : decode b_MO_widely 194 = .ok (.goto 4, 3) := by decide +kernel
theorem d_MO_widely_197 : decode b_MO_widely 197 = .ok (.iconst 0, 1) := by decide +kernel
theorem d_MO_widely_198 : decode b_MO_widely 198 = .ok (.ireturn, 1) := by decide +kernel
theorem d_MO_widely_199 : decode b_MO_widely 199 = .ok (.iload 4, 2) := by decide +kernel
theorem d_MO_widely_201 : decode b_MO_widely 201 = .ok (.ireturn, 1) := by decide +kernel
theorem d_MO_widely_202 : decode b_MO_widely 202 = .ok (.iload 4, 2) := by decide +kernel
theorem d_MO_widely_204 : decode b_MO_widely 204 = .ok (.ifCond .ne 9, 3) := by decide +kernel
theorem d_MO_widely_207 : decode b_MO_widely 207 = .ok (.iload_n 3, 1) := by decide +kernel
theorem d_MO_widely_208 : decode b_MO_widely 208 = .ok (.bipush 24, 2) := by decide +kernel
theorem d_MO_widely_210 : decode b_MO_widely 210 = .ok (.if_icmp .ne 7, 3) := by decide +kernel
theorem d_MO_widely_213 : decode b_MO_widely 213 = .ok (.iconst 1, 1) := by decide +kernel
theorem d_MO_widely_214 : decode b_MO_widely 214 = .ok (.goto 4, 3) := by decide +kernel
theorem d_MO_widely_217 : decode b_MO_widely 217 = .ok (.iconst 0, 1) := by decide +kernel
theorem d_MO_widely_218 : decode b_MO_widely 218 = .ok (.ireturn, 1) := by decide +kernel
theorem d_MO_widely_219 : decode b_MO_widely 219 = .ok (.aload_n 0, 1) := by decide +kernel
theorem d_MO_widely_220 : decode b_MO_widely 220 = .ok (.iconst 4, 1) := by decide +kernel
theorem d_MO_widely_221 : decode b_MO_widely 221 = .ok (.iload_n 3, 1) := by decide +kernel
theorem d_MO_widely_222 : decode b_MO_widely 222 = .ok (.invokevirtual 127, 3) := by decide +kernel
theorem d_MO_widely_225 : decode b_MO_widely 225 = .ok (.ifCond .ne 19, 3) := by decide +kernel
theorem d_MO_widely_228 : decode b_MO_widely 228 = .ok (.aload_n 0, 1) := by decide +kernel
theorem d_MO_widely_229 : decode b_MO_widely 229 = .ok (.iconst 5, 1) := by decide +kernel
theorem d_MO_widely_230 : decode b_MO_widely 230 = .ok (.iload_n 3, 1) := by decide +kernel
theorem d_MO_widely_231 : decode b_MO_widely 231 = .ok (.invokevirtual 127, 3) := by decide +kernel
theorem d_MO_widely_234 : decode b_MO_widely 234 = .ok (.ifCond .eq 14, 3) := by decide +kernel
theorem d_MO_widely_237 : decode b_MO_widely 237 = .ok (.iload_n 2, 1) := by decide +kernel
theorem d_MO_widely_238 : decode b_MO_widely 238 = .ok (.sipush 128, 3) := by decide +kernel
theorem d_MO_widely_241 : decode b_MO_widely 241 = .ok (.if_icmp .ge 7, 3) := by decide +kernel
theorem d_MO_widely_244 : decode b_MO_widely 244 = .ok (.iconst 1, 1) := by decide +kernel
theorem d_MO_widely_245 : decode b_MO_widely 245 = .ok (.goto 4, 3) := by decide +kernel
theorem d_MO_widely_248 : decode b_MO_widely 248 = .ok (.iconst 0, 1) := by decide +kernel
theorem d_MO_widely_249 : decode b_MO_widely 249 = .ok (.ireturn, 1) := by decide +kernel
theorem d_MO_widely_250 : decode b_MO_widely 250 = .ok (.aload_n 0, 1) := by decide +kernel
theorem d_MO_widely_251 : decode b_MO_widely 251 = .ok (.iload_n 1, 1) := by decide +kernel
theorem d_MO_widely_252 : decode b_MO_widely 252 = .ok (.iload_n 2, 1) := by decide +kernel
theorem d_MO_widely_253 : decode b_MO_widely 253 = .ok (.invokevirtual 146, 3) := by decide +kernel
theorem d_MO_widely_256 : decode b_MO_widely 256 = .ok (.ireturn, 1) := by decide +kernel
theorem d_MO_names_0 : decode b_MO_names 0 = .ok (.aload_n 0, 1) := by decide +kernel
theorem d_MO_names_1 : decode b_MO_names 1 = .ok (.getfield 45, 3) := by decide +kernel
theorem d_MO_names_4 : decode b_MO_names 4 = .ok (.ifCond .eq 12, 3) := by decide +kernel
theorem d_MO_names_7 : decode b_MO_names 7 = .ok (.aload_n 0, 1) := by decide +kernel
theorem d_MO_names_8 : decode b_MO_names 8 = .ok (.iload_n 1, 1) := by decide +kernel
theorem d_MO_names_9 : decode b_MO_names 9 = .ok (.iload_n 2, 1) := by decide +kernel
theorem d_MO_names_10 : decode b_MO_names 10 = .ok (.invokevirtual 149, 3) := by decide +kernel
theorem d_MO_names_13 : decode b_MO_names 13 = .ok (.goto 9, 3) := by decide +kernel
theorem d_MO_names_16 : decode b_MO_names 16 = .ok (.aload_n 0, 1) := by decide +kernel
theorem d_MO_names_17 : decode b_MO_names 17 = .ok (.iload_n 1, 1) := by decide +kernel
theorem d_MO_names_18 : decode b_MO_names 18 = .ok (.iload_n 2, 1) := by decide +kernel
theorem d_MO_names_19 : decode b_MO_names 19 = .ok (.invokevirtual 146, 3) := by decide +kernel
theorem d_MO_names_22 : decode b_MO_names 22 = .ok (.ireturn, 1) := by decide +kernel
theorem d_MO_named_0 : decode b_MO_named 0 = .ok (.aload_n 0, 1) := by decide +kernel
theorem d_MO_named_1 : decode b_MO_named 1 = .ok (.iload_n 1, 1) := by decide +kernel
theorem d_MO_named_2 : decode b_MO_named 2 = .ok (.invokevirtual 117, 3) := by decide +kernel
theorem d_MO_named_5 : decode b_MO_named 5 = .ok (.ifCond .ne 13, 3) := by decide +kernel
theorem d_MO_named_8 : decode b_MO_named 8 = .ok (.iload_n 2, 1) := by decide +kernel
theorem d_MO_named_9 : decode b_MO_named 9 = .ok (.ifCond .lt 9, 3) := by decide +kernel
theorem d_MO_named_12 : decode b_MO_named 12 = .ok (.iload_n 2, 1) := by decide +kernel
theorem d_MO_named_13 : decode b_MO_named 13 = .ok (.bipush 18, 2) := by decide +kernel
theorem d_MO_named_15 : decode b_MO_named 15 = .ok (.if_icmp .le 6, 3) := by decide +kernel
theorem d_MO_named_18 : decode b_MO_named 18 = .ok (.bipush (-2), 2) := by decide +kernel
theorem d_MO_named_20 : decode b_MO_named 20 = .ok (.ireturn, 1) := by decide +kernel
theorem d_MO_named_21 : decode b_MO_named 21 = .ok (.iload 4, 2) := by decide +kernel
theorem d_MO_named_23 : decode b_MO_named 23 = .ok (.ifCond .eq 19, 3) := by decide +kernel
theorem d_MO_named_26 : decode b_MO_named 26 = .ok (.iload_n 2, 1) := by decide +kernel
theorem d_MO_named_27 : decode b_MO_named 27 = .ok (.bipush 6, 2) := by decide +kernel
theorem d_MO_named_29 : decode b_MO_named 29 = .ok (.if_icmp .eq 9, 3) := by decide +kernel
theorem d_MO_named_32 : decode b_MO_named 32 = .ok (.iload_n 2, 1) := by decide +kernel
theorem d_MO_named_33 : decode b_MO_named 33 = .ok (.bipush 7, 2) := by decide +kernel
theorem d_MO_named_35 : decode b_MO_named 35 = .ok (.if_icmp .ne 7, 3) := by decide +kernel
theorem d_MO_named_38 : decode b_MO_named 38 = .ok (.iconst 5, 1) := by decide +kernel
theorem d_MO_named_39 : decode b_MO_named 39 = .ok (.goto 4, 3) := by decide +kernel
theorem d_MO_named_42 : decode b_MO_named 42 = .ok (.iload_n 2, 1) := by decide +kernel
theorem d_MO_named_43 : decode b_MO_named 43 = .ok (.istore 5, 2) := by decide +kernel
theorem d_MO_named_45 : decode b_MO_named 45 = .ok (.aload_n 0, 1) := by decide +kernel
theorem d_MO_named_46 : decode b_MO_named 46 = .ok (.getfield 49, 3) := by decide +kernel
theorem d_MO_named_49 : decode b_MO_named 49 = .ok (.sipush 12544, 3) := by decide +kernel
theorem d_MO_named_52 : decode b_MO_named 52 = .ok (.if_icmp .ge 12, 3) := by decide +kernel
theorem d_MO_named_55 : decode b_MO_named 55 = .ok (.aload_n 0, 1) := by decide +kernel
theorem d_MO_named_56 : decode b_MO_named 56 = .ok (.getfield 49, 3) := by decide +kernel
theorem d_MO_named_59 : decode b_MO_named 59 = .ok (.iconst 1, 1) := by decide +kernel
theorem d_MO_named_60 : decode b_MO_named 60 = .ok (.iadd, 1) := by decide +kernel
theorem d_MO_named_61 : decode b_MO_named 61 = .ok (.goto 6, 3) := by decide +kernel
theorem d_MO_named_64 : decode b_MO_named 64 = .ok (.sipush 12544, 3) := by decide +kernel
theorem d_MO_named_67 : decode b_MO_named 67 = .ok (.istore 6, 2) := by decide +kernel
theorem d_MO_named_69 : decode b_MO_named 69 = .ok (.iconst 0, 1) := by decide +kernel
theorem d_MO_named_70 : decode b_MO_named 70 = .ok (.istore 7, 2) := by decide +kernel
theorem d_MO_named_72 : decode b_MO_named 72 = .ok (.iload 7, 2) := by decide +kernel
theorem d_MO_named_74 : decode b_MO_named 74 = .ok (.iload 6, 2) := by decide +kernel
theorem d_MO_named_76 : decode b_MO_named 76 = .ok (.if_icmp .ge 28, 3) := by decide +kernel
theorem d_MO_named_79 : decode b_MO_named 79 = .ok (.aload_n 0, 1) := by decide +kernel
theorem d_MO_named_80 : decode b_MO_named 80 = .ok (.iload 5, 2) := by decide +kernel
theorem d_MO_named_82 : decode b_MO_named 82 = .ok (.iload 7, 2) := by decide +kernel
theorem d_MO_named_84 : decode b_MO_named 84 = .ok (.invokevirtual 152, 3) := by decide +kernel
theorem d_MO_named_87 : decode b_MO_named 87 = .ok (.iload_n 3, 1) := by decide +kernel
theorem d_MO_named_88 : decode b_MO_named 88 = .ok (.if_icmp .eq 10, 3) := by decide +kernel
theorem d_MO_named_91 : decode b_MO_named 91 = .ok (.aload_n 0, 1) := by decide +kernel
theorem d_MO_named_92 : decode b_MO_named 92 = .ok (.iload_n 1, 1) := by decide +kernel
theorem d_MO_named_93 : decode b_MO_named 93 = .ok (.iload 7, 2) := by decide +kernel
theorem d_MO_named_95 : decode b_MO_named 95 = .ok (.invokevirtual 101, 3) := by decide +kernel
theorem d_MO_named_98 : decode b_MO_named 98 = .ok (.iinc 7 1, 3) := by decide +kernel
theorem d_MO_named_101 : decode b_MO_named 101 = .ok (.goto (-29), 3) := by decide +kernel
theorem d_MO_named_104 : decode b_MO_named 104 = .ok (.aload_n 0, 1) := by decide +kernel
theorem d_MO_named_105 : decode b_MO_named 105 = .ok (.getfield 41, 3) := by decide +kernel
theorem d_MO_named_108 : decode b_MO_named 108 = .ok (.ifCond .ne 9, 3) := by decide +kernel
theorem d_MO_named_111 : decode b_MO_named 111 = .ok (.aload_n 0, 1) := by decide +kernel
theorem d_MO_named_112 : decode b_MO_named 112 = .ok (.iload_n 1, 1) := by decide +kernel
theorem d_MO_named_113 : decode b_MO_named 113 = .ok (.invokevirtual 124, 3) := by decide +kernel
theorem d_MO_named_116 : decode b_MO_named 116 = .ok (.ireturn, 1) := by decide +kernel
theorem d_MO_named_117 : decode b_MO_named 117 = .ok (.iconst 0, 1) := by decide +kernel
theorem d_MO_named_118 : decode b_MO_named 118 = .ok (.istore 7, 2) := by decide +kernel
theorem d_MO_named_120 : decode b_MO_named 120 = .ok (.iload 7, 2) := by decide +kernel
theorem d_MO_named_122 : decode b_MO_named 122 = .ok (.bipush 13, 2) := by decide +kernel
theorem d_MO_named_124 : decode b_MO_named 124 = .ok (.if_icmp .ge 49, 3) := by decide +kernel
theorem d_MO_named_127 : decode b_MO_named 127 = .ok (.aload_n 0, 1) := by decide +kernel
theorem d_MO_named_128 : decode b_MO_named 128 = .ok (.iload 5, 2) := by decide +kernel
theorem d_MO_named_130 : decode b_MO_named 130 = .ok (.aload_n 0, 1) := by decide +kernel
theorem d_MO_named_131 : decode b_MO_named 131 = .ok (.getfield 38, 3) := by decide +kernel
theorem d_MO_named_134 : decode b_MO_named 134 = .ok (.iload 7, 2) := by decide +kernel
theorem d_MO_named_136 : decode b_MO_named 136 = .ok (.iaload, 1) := by decide +kernel
theorem d_MO_named_137 : decode b_MO_named 137 = .ok (.invokevirtual 152, 3) := by decide +kernel
theorem d_MO_named_140 : decode b_MO_named 140 = .ok (.iload_n 3, 1) := by decide +kernel
theorem d_MO_named_141 : decode b_MO_named 141 = .ok (.if_icmp .eq 26, 3) := by decide +kernel
theorem d_MO_named_144 : decode b_MO_named 144 = .ok (.aload_n 0, 1) := by decide +kernel
theorem d_MO_named_145 : decode b_MO_named 145 = .ok (.iload_n 1, 1) := by decide +kernel
theorem d_MO_named_146 : decode b_MO_named 146 = .ok (.aload_n 0, 1) := by decide +kernel
theorem d_MO_named_147 : decode b_MO_named 147 = .ok (.getfield 38, 3) := by decide +kernel
theorem d_MO_named_150 : decode b_MO_named 150 = .ok (.iload 7, 2) := by decide +kernel
theorem d_MO_named_152 : decode b_MO_named 152 = .ok (.iaload, 1) := by decide +kernel
theorem d_MO_named_153 : decode b_MO_named 153 = .ok (.aload_n 0, 1) := by decide +kernel
theorem d_MO_named_154 : decode b_MO_named 154 = .ok (.getfield 38, 3) := by decide +kernel
theorem d_MO_named_157 : decode b_MO_named 157 = .ok (.iload 7, 2) := by decide +kernel
theorem d_MO_named_159 : decode b_MO_named 159 = .ok (.iconst 1, 1) := by decide +kernel
theorem d_MO_named_160 : decode b_MO_named 160 = .ok (.iadd, 1) := by decide +kernel
theorem d_MO_named_161 : decode b_MO_named 161 = .ok (.iaload, 1) := by decide +kernel
theorem d_MO_named_162 : decode b_MO_named 162 = .ok (.iconst 1, 1) := by decide +kernel
theorem d_MO_named_163 : decode b_MO_named 163 = .ok (.isub, 1) := by decide +kernel
theorem d_MO_named_164 : decode b_MO_named 164 = .ok (.invokevirtual 121, 3) := by decide +kernel
theorem d_MO_named_167 : decode b_MO_named 167 = .ok (.iinc 7 1, 3) := by decide +kernel
theorem d_MO_named_170 : decode b_MO_named 170 = .ok (.goto (-50), 3) := by decide +kernel
theorem d_MO_named_173 : decode b_MO_named 173 = .ok (.aload_n 0, 1) := by decide +kernel
theorem d_MO_named_174 : decode b_MO_named 174 = .ok (.iload_n 1, 1) := by decide +kernel
theorem d_MO_named_175 : decode b_MO_named 175 = .ok (.invokevirtual 124, 3) := by decide +kernel
theorem d_MO_named_178 : decode b_MO_named 178 = .ok (.ireturn, 1) := by decide +kernel
theorem d_MO_count_0 : decode b_MO_count 0 = .ok (.iconst 0, 1) := by decide +kernel
theorem d_MO_count_1 : decode b_MO_count 1 = .ok (.istore_n 2, 1) := by decide +kernel
theorem d_MO_count_2 : decode b_MO_count 2 = .ok (.iconst 0, 1) := by decide +kernel
theorem d_MO_count_3 : decode b_MO_count 3 = .ok (.istore_n 3, 1) := by decide +kernel
theorem d_MO_count_4 : decode b_MO_count 4 = .ok (.iload_n 3, 1) := by decide +kernel
theorem d_MO_count_5 : decode b_MO_count 5 = .ok (.aload_n 0, 1) := by decide +kernel
theorem d_MO_count_6 : decode b_MO_count 6 = .ok (.getfield 52, 3) := by decide +kernel
theorem d_MO_count_9 : decode b_MO_count 9 = .ok (.if_icmp .ge 28, 3) := by decide +kernel
theorem d_MO_count_12 : decode b_MO_count 12 = .ok (.iload_n 2, 1) := by decide +kernel
theorem d_MO_count_13 : decode b_MO_count 13 = .ok (.aload_n 0, 1) := by decide +kernel
theorem d_MO_count_14 : decode b_MO_count 14 = .ok (.aload_n 0, 1) := by decide +kernel
theorem d_MO_count_15 : decode b_MO_count 15 = .ok (.getfield 8, 3) := by decide +kernel
theorem d_MO_count_18 : decode b_MO_count 18 = .ok (.iload_n 1, 1) := by decide +kernel
theorem d_MO_count_19 : decode b_MO_count 19 = .ok (.sipush 17408, 3) := by decide +kernel
theorem d_MO_count_22 : decode b_MO_count 22 = .ok (.imul, 1) := by decide +kernel
theorem d_MO_count_23 : decode b_MO_count 23 = .ok (.iload_n 3, 1) := by decide +kernel
theorem d_MO_count_24 : decode b_MO_count 24 = .ok (.iadd, 1) := by decide +kernel
theorem d_MO_count_25 : decode b_MO_count 25 = .ok (.laload, 1) := by decide +kernel
theorem d_MO_count_26 : decode b_MO_count 26 = .ok (.invokevirtual 113, 3) := by decide +kernel
theorem d_MO_count_29 : decode b_MO_count 29 = .ok (.iadd, 1) := by decide +kernel
theorem d_MO_count_30 : decode b_MO_count 30 = .ok (.istore_n 2, 1) := by decide +kernel
theorem d_MO_count_31 : decode b_MO_count 31 = .ok (.iinc 3 1, 3) := by decide +kernel
theorem d_MO_count_34 : decode b_MO_count 34 = .ok (.goto (-30), 3) := by decide +kernel
theorem d_MO_count_37 : decode b_MO_count 37 = .ok (.iload_n 2, 1) := by decide +kernel
theorem d_MO_count_38 : decode b_MO_count 38 = .ok (.ireturn, 1) := by decide +kernel
theorem d_MO_close_0 : decode b_MO_close 0 = .ok (.aload_n 0, 1) := by decide +kernel
theorem d_MO_close_1 : decode b_MO_close 1 = .ok (.iload_n 1, 1) := by decide +kernel
theorem d_MO_close_2 : decode b_MO_close 2 = .ok (.invokevirtual 117, 3) := by decide +kernel
theorem d_MO_close_5 : decode b_MO_close 5 = .ok (.ifCond .eq 6, 3) := by decide +kernel
theorem d_MO_close_8 : decode b_MO_close 8 = .ok (.bipush (-2), 2) := by decide +kernel
theorem d_MO_close_10 : decode b_MO_close 10 = .ok (.ireturn, 1) := by decide +kernel
theorem d_MO_close_11 : decode b_MO_close 11 = .ok (.aload_n 0, 1) := by decide +kernel
theorem d_MO_close_12 : decode b_MO_close 12 = .ok (.iload_n 1, 1) := by decide +kernel
theorem d_MO_close_13 : decode b_MO_close 13 = .ok (.invokevirtual 155, 3) := by decide +kernel
theorem d_MO_close_16 : decode b_MO_close 16 = .ok (.istore_n 2, 1) := by decide +kernel
theorem d_MO_close_17 : decode b_MO_close 17 = .ok (.aload_n 0, 1) := by decide +kernel
theorem d_MO_close_18 : decode b_MO_close 18 = .ok (.getfield 49, 3) := by decide +kernel
theorem d_MO_close_21 : decode b_MO_close 21 = .ok (.sipush 8704, 3) := by decide +kernel
theorem d_MO_close_24 : decode b_MO_close 24 = .ok (.if_icmp .ge 10, 3) := by decide +kernel
theorem d_MO_close_27 : decode b_MO_close 27 = .ok (.aload_n 0, 1) := by decide +kernel
theorem d_MO_close_28 : decode b_MO_close 28 = .ok (.getfield 49, 3) := by decide +kernel
theorem d_MO_close_31 : decode b_MO_close 31 = .ok (.goto 6, 3) := by decide +kernel
theorem d_MO_close_34 : decode b_MO_close 34 = .ok (.sipush 8704, 3) := by decide +kernel
theorem d_MO_close_37 : decode b_MO_close 37 = .ok (.istore_n 3, 1) := by decide +kernel
theorem d_MO_close_38 : decode b_MO_close 38 = .ok (.iconst 0, 1) := by decide +kernel
theorem d_MO_close_39 : decode b_MO_close 39 = .ok (.istore 4, 2) := by decide +kernel
theorem d_MO_close_41 : decode b_MO_close 41 = .ok (.iload 4, 2) := by decide +kernel
theorem d_MO_close_43 : decode b_MO_close 43 = .ok (.iload_n 3, 1) := by decide +kernel
theorem d_MO_close_44 : decode b_MO_close 44 = .ok (.if_icmp .gt 58, 3) := by decide +kernel
theorem d_MO_close_47 : decode b_MO_close 47 = .ok (.aload_n 0, 1) := by decide +kernel
theorem d_MO_close_48 : decode b_MO_close 48 = .ok (.iload_n 1, 1) := by decide +kernel
theorem d_MO_close_49 : decode b_MO_close 49 = .ok (.iload 4, 2) := by decide +kernel
theorem d_MO_close_51 : decode b_MO_close 51 = .ok (.invokevirtual 158, 3) := by decide +kernel
theorem d_MO_close_54 : decode b_MO_close 54 = .ok (.ifCond .ne 6, 3) := by decide +kernel
theorem d_MO_close_57 : decode b_MO_close 57 = .ok (.goto 39, 3) := by decide +kernel
theorem d_MO_close_60 : decode b_MO_close 60 = .ok (.aload_n 0, 1) := by decide +kernel
theorem d_MO_close_61 : decode b_MO_close 61 = .ok (.iload 4, 2) := by decide +kernel
theorem d_MO_close_63 : decode b_MO_close 63 = .ok (.invokevirtual 96, 3) := by decide +kernel
theorem d_MO_close_66 : decode b_MO_close 66 = .ok (.iconst 0, 1) := by decide +kernel
theorem d_MO_close_67 : decode b_MO_close 67 = .ok (.istore 5, 2) := by decide +kernel
theorem d_MO_close_69 : decode b_MO_close 69 = .ok (.iload 5, 2) := by decide +kernel
theorem d_MO_close_71 : decode b_MO_close 71 = .ok (.aload_n 0, 1) := by decide +kernel
theorem d_MO_close_72 : decode b_MO_close 72 = .ok (.getfield 22, 3) := by decide +kernel
theorem d_MO_close_75 : decode b_MO_close 75 = .ok (.if_icmp .ge 21, 3) := by decide +kernel
theorem d_MO_close_78 : decode b_MO_close 78 = .ok (.aload_n 0, 1) := by decide +kernel
theorem d_MO_close_79 : decode b_MO_close 79 = .ok (.iload_n 1, 1) := by decide +kernel
theorem d_MO_close_80 : decode b_MO_close 80 = .ok (.aload_n 0, 1) := by decide +kernel
theorem d_MO_close_81 : decode b_MO_close 81 = .ok (.getfield 18, 3) := by decide +kernel
theorem d_MO_close_84 : decode b_MO_close 84 = .ok (.iload 5, 2) := by decide +kernel
theorem d_MO_close_86 : decode b_MO_close 86 = .ok (.iaload, 1) := by decide +kernel
theorem d_MO_close_87 : decode b_MO_close 87 = .ok (.invokevirtual 101, 3) := by decide +kernel
theorem d_MO_close_90 : decode b_MO_close 90 = .ok (.iinc 5 1, 3) := by decide +kernel
theorem d_MO_close_93 : decode b_MO_close 93 = .ok (.goto (-24), 3) := by decide +kernel
theorem d_MO_close_96 : decode b_MO_close 96 = .ok (.iinc 4 1, 3) := by decide +kernel
theorem d_MO_close_99 : decode b_MO_close 99 = .ok (.goto (-58), 3) := by decide +kernel
theorem d_MO_close_102 : decode b_MO_close 102 = .ok (.aload_n 0, 1) := by decide +kernel
theorem d_MO_close_103 : decode b_MO_close 103 = .ok (.iload_n 1, 1) := by decide +kernel
theorem d_MO_close_104 : decode b_MO_close 104 = .ok (.invokevirtual 155, 3) := by decide +kernel
theorem d_MO_close_107 : decode b_MO_close 107 = .ok (.iload_n 2, 1) := by decide +kernel
theorem d_MO_close_108 : decode b_MO_close 108 = .ok (.isub, 1) := by decide +kernel
theorem d_MO_close_109 : decode b_MO_close 109 = .ok (.ireturn, 1) := by decide +kernel
end
section
theorem d_MO_invert_0 : decode b_MO_invert 0 = .ok (.aload_n 0, 1) := by decide +kernel
theorem d_MO_invert_1 : decode b_MO_invert 1 = .ok (.iload_n 1, 1) := by decide +kernel
theorem d_MO_invert_2 : decode b_MO_invert 2 = .ok (.invokevirtual 117, 3) := by decide +kernel
theorem d_MO_invert_5 : decode b_MO_invert 5 = .ok (.ifCond .eq 6, 3) := by decide +kernel
theorem d_MO_invert_8 : decode b_MO_invert 8 = .ok (.bipush (-2), 2) := by decide +kernel
theorem d_MO_invert_10 : decode b_MO_invert 10 = .ok (.ireturn, 1) := by decide +kernel
theorem d_MO_invert_11 : decode b_MO_invert 11 = .ok (.iconst 0, 1) := by decide +kernel
theorem d_MO_invert_12 : decode b_MO_invert 12 = .ok (.istore_n 2, 1) := by decide +kernel
theorem d_MO_invert_13 : decode b_MO_invert 13 = .ok (.iload_n 2, 1) := by decide +kernel
theorem d_MO_invert_14 : decode b_MO_invert 14 = .ok (.aload_n 0, 1) := by decide +kernel
theorem d_MO_invert_15 : decode b_MO_invert 15 = .ok (.getfield 52, 3) := by decide +kernel
theorem d_MO_invert_18 : decode b_MO_invert 18 = .ok (.if_icmp .ge 37, 3) := by decide +kernel
theorem d_MO_invert_21 : decode b_MO_invert 21 = .ok (.aload_n 0, 1) := by decide +kernel
theorem d_MO_invert_22 : decode b_MO_invert 22 = .ok (.getfield 8, 3) := by decide +kernel
theorem d_MO_invert_25 : decode b_MO_invert 25 = .ok (.iload_n 1, 1) := by decide +kernel
theorem d_MO_invert_26 : decode b_MO_invert 26 = .ok (.sipush 17408, 3) := by decide +kernel
theorem d_MO_invert_29 : decode b_MO_invert 29 = .ok (.imul, 1) := by decide +kernel
theorem d_MO_invert_30 : decode b_MO_invert 30 = .ok (.iload_n 2, 1) := by decide +kernel
theorem d_MO_invert_31 : decode b_MO_invert 31 = .ok (.iadd, 1) := by decide +kernel
theorem d_MO_invert_32 : decode b_MO_invert 32 = .ok (.aload_n 0, 1) := by decide +kernel
theorem d_MO_invert_33 : decode b_MO_invert 33 = .ok (.getfield 8, 3) := by decide +kernel
theorem d_MO_invert_36 : decode b_MO_invert 36 = .ok (.iload_n 1, 1) := by decide +kernel
theorem d_MO_invert_37 : decode b_MO_invert 37 = .ok (.sipush 17408, 3) := by decide +kernel
theorem d_MO_invert_40 : decode b_MO_invert 40 = .ok (.imul, 1) := by decide +kernel
theorem d_MO_invert_41 : decode b_MO_invert 41 = .ok (.iload_n 2, 1) := by decide +kernel
theorem d_MO_invert_42 : decode b_MO_invert 42 = .ok (.iadd, 1) := by decide +kernel
theorem d_MO_invert_43 : decode b_MO_invert 43 = .ok (.laload, 1) := by decide +kernel
theorem d_MO_invert_44 : decode b_MO_invert 44 = .ok (.ldc2_w 99, 3) := by decide +kernel
theorem d_MO_invert_47 : decode b_MO_invert 47 = .ok (.lxor, 1) := by decide +kernel
theorem d_MO_invert_48 : decode b_MO_invert 48 = .ok (.lastore, 1) := by decide +kernel
theorem d_MO_invert_49 : decode b_MO_invert 49 = .ok (.iinc 2 1, 3) := by decide +kernel
theorem d_MO_invert_52 : decode b_MO_invert 52 = .ok (.goto (-39), 3) := by decide +kernel
theorem d_MO_invert_55 : decode b_MO_invert 55 = .ok (.aload_n 0, 1) := by decide +kernel
theorem d_MO_invert_56 : decode b_MO_invert 56 = .ok (.iload_n 1, 1) := by decide +kernel
theorem d_MO_invert_57 : decode b_MO_invert 57 = .ok (.invokevirtual 124, 3) := by decide +kernel
theorem d_MO_invert_60 : decode b_MO_invert 60 = .ok (.ireturn, 1) := by decide +kernel
theorem d_MO_join_0 : decode b_MO_join 0 = .ok (.aload_n 0, 1) := by decide +kernel
theorem d_MO_join_1 : decode b_MO_join 1 = .ok (.iload_n 1, 1) := by decide +kernel
theorem d_MO_join_2 : decode b_MO_join 2 = .ok (.invokevirtual 117, 3) := by decide +kernel
theorem d_MO_join_5 : decode b_MO_join 5 = .ok (.ifCond .ne 11, 3) := by decide +kernel
theorem d_MO_join_8 : decode b_MO_join 8 = .ok (.aload_n 0, 1) := by decide +kernel
theorem d_MO_join_9 : decode b_MO_join 9 = .ok (.iload_n 2, 1) := by decide +kernel
theorem d_MO_join_10 : decode b_MO_join 10 = .ok (.invokevirtual 117, 3) := by decide +kernel
theorem d_MO_join_13 : decode b_MO_join 13 = .ok (.ifCond .eq 6, 3) := by decide +kernel
theorem d_MO_join_16 : decode b_MO_join 16 = .ok (.bipush (-2), 2) := by decide +kernel
theorem d_MO_join_18 : decode b_MO_join 18 = .ok (.ireturn, 1) := by decide +kernel
theorem d_MO_join_19 : decode b_MO_join 19 = .ok (.iconst 0, 1) := by decide +kernel
theorem d_MO_join_20 : decode b_MO_join 20 = .ok (.istore_n 3, 1) := by decide +kernel
theorem d_MO_join_21 : decode b_MO_join 21 = .ok (.iload_n 3, 1) := by decide +kernel
theorem d_MO_join_22 : decode b_MO_join 22 = .ok (.aload_n 0, 1) := by decide +kernel
theorem d_MO_join_23 : decode b_MO_join 23 = .ok (.getfield 52, 3) := by decide +kernel
theorem d_MO_join_26 : decode b_MO_join 26 = .ok (.if_icmp .ge 36, 3) := by decide +kernel
theorem d_MO_join_29 : decode b_MO_join 29 = .ok (.aload_n 0, 1) := by decide +kernel
theorem d_MO_join_30 : decode b_MO_join 30 = .ok (.getfield 8, 3) := by decide +kernel
theorem d_MO_join_33 : decode b_MO_join 33 = .ok (.iload_n 1, 1) := by decide +kernel
theorem d_MO_join_34 : decode b_MO_join 34 = .ok (.sipush 17408, 3) := by decide +kernel
theorem d_MO_join_37 : decode b_MO_join 37 = .ok (.imul, 1) := by decide +kernel
theorem d_MO_join_38 : decode b_MO_join 38 = .ok (.iload_n 3, 1) := by decide +kernel
theorem d_MO_join_39 : decode b_MO_join 39 = .ok (.iadd, 1) := by decide +kernel
theorem d_MO_join_40 : decode b_MO_join 40 = .ok (.dup2, 1) := by decide +kernel
theorem d_MO_join_41 : decode b_MO_join 41 = .ok (.laload, 1) := by decide +kernel
theorem d_MO_join_42 : decode b_MO_join 42 = .ok (.aload_n 0, 1) := by decide +kernel
theorem d_MO_join_43 : decode b_MO_join 43 = .ok (.getfield 8, 3) := by decide +kernel
theorem d_MO_join_46 : decode b_MO_join 46 = .ok (.iload_n 2, 1) := by decide +kernel
theorem d_MO_join_47 : decode b_MO_join 47 = .ok (.sipush 17408, 3) := by decide +kernel
theorem d_MO_join_50 : decode b_MO_join 50 = .ok (.imul, 1) := by decide +kernel
theorem d_MO_join_51 : decode b_MO_join 51 = .ok (.iload_n 3, 1) := by decide +kernel
theorem d_MO_join_52 : decode b_MO_join 52 = .ok (.iadd, 1) := by decide +kernel
theorem d_MO_join_53 : decode b_MO_join 53 = .ok (.laload, 1) := by decide +kernel
theorem d_MO_join_54 : decode b_MO_join 54 = .ok (.lor, 1) := by decide +kernel
theorem d_MO_join_55 : decode b_MO_join 55 = .ok (.lastore, 1) := by decide +kernel
theorem d_MO_join_56 : decode b_MO_join 56 = .ok (.iinc 3 1, 3) := by decide +kernel
theorem d_MO_join_59 : decode b_MO_join 59 = .ok (.goto (-38), 3) := by decide +kernel
theorem d_MO_join_62 : decode b_MO_join 62 = .ok (.aload_n 0, 1) := by decide +kernel
theorem d_MO_join_63 : decode b_MO_join 63 = .ok (.iload_n 1, 1) := by decide +kernel
theorem d_MO_join_64 : decode b_MO_join 64 = .ok (.invokevirtual 124, 3) := by decide +kernel
theorem d_MO_join_67 : decode b_MO_join 67 = .ok (.ireturn, 1) := by decide +kernel
theorem d_MO_meets_0 : decode b_MO_meets 0 = .ok (.aload_n 0, 1) := by decide +kernel
theorem d_MO_meets_1 : decode b_MO_meets 1 = .ok (.iload_n 1, 1) := by decide +kernel
theorem d_MO_meets_2 : decode b_MO_meets 2 = .ok (.invokevirtual 117, 3) := by decide +kernel
theorem d_MO_meets_5 : decode b_MO_meets 5 = .ok (.ifCond .ne 11, 3) := by decide +kernel
theorem d_MO_meets_8 : decode b_MO_meets 8 = .ok (.aload_n 0, 1) := by decide +kernel
theorem d_MO_meets_9 : decode b_MO_meets 9 = .ok (.iload_n 2, 1) := by decide +kernel
theorem d_MO_meets_10 : decode b_MO_meets 10 = .ok (.invokevirtual 117, 3) := by decide +kernel
theorem d_MO_meets_13 : decode b_MO_meets 13 = .ok (.ifCond .eq 6, 3) := by decide +kernel
theorem d_MO_meets_16 : decode b_MO_meets 16 = .ok (.bipush (-2), 2) := by decide +kernel
theorem d_MO_meets_18 : decode b_MO_meets 18 = .ok (.ireturn, 1) := by decide +kernel
theorem d_MO_meets_19 : decode b_MO_meets 19 = .ok (.lconst 0, 1) := by decide +kernel
theorem d_MO_meets_20 : decode b_MO_meets 20 = .ok (.lstore_n 3, 1) := by decide +kernel
theorem d_MO_meets_21 : decode b_MO_meets 21 = .ok (.iconst 0, 1) := by decide +kernel
theorem d_MO_meets_22 : decode b_MO_meets 22 = .ok (.istore 5, 2) := by decide +kernel
theorem d_MO_meets_24 : decode b_MO_meets 24 = .ok (.iload 5, 2) := by decide +kernel
theorem d_MO_meets_26 : decode b_MO_meets 26 = .ok (.aload_n 0, 1) := by decide +kernel
theorem d_MO_meets_27 : decode b_MO_meets 27 = .ok (.getfield 52, 3) := by decide +kernel
theorem d_MO_meets_30 : decode b_MO_meets 30 = .ok (.if_icmp .ge 39, 3) := by decide +kernel
theorem d_MO_meets_33 : decode b_MO_meets 33 = .ok (.lload_n 3, 1) := by decide +kernel
theorem d_MO_meets_34 : decode b_MO_meets 34 = .ok (.aload_n 0, 1) := by decide +kernel
theorem d_MO_meets_35 : decode b_MO_meets 35 = .ok (.getfield 8, 3) := by decide +kernel
theorem d_MO_meets_38 : decode b_MO_meets 38 = .ok (.iload_n 1, 1) := by decide +kernel
theorem d_MO_meets_39 : decode b_MO_meets 39 = .ok (.sipush 17408, 3) := by decide +kernel
theorem d_MO_meets_42 : decode b_MO_meets 42 = .ok (.imul, 1) := by decide +kernel
theorem d_MO_meets_43 : decode b_MO_meets 43 = .ok (.iload 5, 2) := by decide +kernel
theorem d_MO_meets_45 : decode b_MO_meets 45 = .ok (.iadd, 1) := by decide +kernel
theorem d_MO_meets_46 : decode b_MO_meets 46 = .ok (.laload, 1) := by decide +kernel
theorem d_MO_meets_47 : decode b_MO_meets 47 = .ok (.aload_n 0, 1) := by decide +kernel
theorem d_MO_meets_48 : decode b_MO_meets 48 = .ok (.getfield 8, 3) := by decide +kernel
theorem d_MO_meets_51 : decode b_MO_meets 51 = .ok (.iload_n 2, 1) := by decide +kernel
theorem d_MO_meets_52 : decode b_MO_meets 52 = .ok (.sipush 17408, 3) := by decide +kernel
theorem d_MO_meets_55 : decode b_MO_meets 55 = .ok (.imul, 1) := by decide +kernel
theorem d_MO_meets_56 : decode b_MO_meets 56 = .ok (.iload 5, 2) := by decide +kernel
theorem d_MO_meets_58 : decode b_MO_meets 58 = .ok (.iadd, 1) := by decide +kernel
theorem d_MO_meets_59 : decode b_MO_meets 59 = .ok (.laload, 1) := by decide +kernel
theorem d_MO_meets_60 : decode b_MO_meets 60 = .ok (.land, 1) := by decide +kernel
theorem d_MO_meets_61 : decode b_MO_meets 61 = .ok (.lor, 1) := by decide +kernel
theorem d_MO_meets_62 : decode b_MO_meets 62 = .ok (.lstore_n 3, 1) := by decide +kernel
theorem d_MO_meets_63 : decode b_MO_meets 63 = .ok (.iinc 5 1, 3) := by decide +kernel
theorem d_MO_meets_66 : decode b_MO_meets 66 = .ok (.goto (-42), 3) := by decide +kernel
theorem d_MO_meets_69 : decode b_MO_meets 69 = .ok (.lload_n 3, 1) := by decide +kernel
theorem d_MO_meets_70 : decode b_MO_meets 70 = .ok (.lconst 0, 1) := by decide +kernel
theorem d_MO_meets_71 : decode b_MO_meets 71 = .ok (.lcmp, 1) := by decide +kernel
theorem d_MO_meets_72 : decode b_MO_meets 72 = .ok (.ifCond .eq 7, 3) := by decide +kernel
theorem d_MO_meets_75 : decode b_MO_meets 75 = .ok (.iconst 1, 1) := by decide +kernel
theorem d_MO_meets_76 : decode b_MO_meets 76 = .ok (.goto 4, 3) := by decide +kernel
theorem d_MO_meets_79 : decode b_MO_meets 79 = .ok (.iconst 0, 1) := by decide +kernel
theorem d_MO_meets_80 : decode b_MO_meets 80 = .ok (.ireturn, 1) := by decide +kernel
theorem d_MO_same_0 : decode b_MO_same 0 = .ok (.aload_n 0, 1) := by decide +kernel
theorem d_MO_same_1 : decode b_MO_same 1 = .ok (.iload_n 1, 1) := by decide +kernel
theorem d_MO_same_2 : decode b_MO_same 2 = .ok (.invokevirtual 117, 3) := by decide +kernel
theorem d_MO_same_5 : decode b_MO_same 5 = .ok (.ifCond .ne 11, 3) := by decide +kernel
theorem d_MO_same_8 : decode b_MO_same 8 = .ok (.aload_n 0, 1) := by decide +kernel
theorem d_MO_same_9 : decode b_MO_same 9 = .ok (.iload_n 2, 1) := by decide +kernel
theorem d_MO_same_10 : decode b_MO_same 10 = .ok (.invokevirtual 117, 3) := by decide +kernel
theorem d_MO_same_13 : decode b_MO_same 13 = .ok (.ifCond .eq 6, 3) := by decide +kernel
theorem d_MO_same_16 : decode b_MO_same 16 = .ok (.bipush (-2), 2) := by decide +kernel
theorem d_MO_same_18 : decode b_MO_same 18 = .ok (.ireturn, 1) := by decide +kernel
theorem d_MO_same_19 : decode b_MO_same 19 = .ok (.lconst 0, 1) := by decide +kernel
theorem d_MO_same_20 : decode b_MO_same 20 = .ok (.lstore_n 3, 1) := by decide +kernel
theorem d_MO_same_21 : decode b_MO_same 21 = .ok (.iconst 0, 1) := by decide +kernel
theorem d_MO_same_22 : decode b_MO_same 22 = .ok (.istore 5, 2) := by decide +kernel
theorem d_MO_same_24 : decode b_MO_same 24 = .ok (.iload 5, 2) := by decide +kernel
theorem d_MO_same_26 : decode b_MO_same 26 = .ok (.aload_n 0, 1) := by decide +kernel
theorem d_MO_same_27 : decode b_MO_same 27 = .ok (.getfield 52, 3) := by decide +kernel
theorem d_MO_same_30 : decode b_MO_same 30 = .ok (.if_icmp .ge 39, 3) := by decide +kernel
theorem d_MO_same_33 : decode b_MO_same 33 = .ok (.lload_n 3, 1) := by decide +kernel
theorem d_MO_same_34 : decode b_MO_same 34 = .ok (.aload_n 0, 1) := by decide +kernel
theorem d_MO_same_35 : decode b_MO_same 35 = .ok (.getfield 8, 3) := by decide +kernel
theorem d_MO_same_38 : decode b_MO_same 38 = .ok (.iload_n 1, 1) := by decide +kernel
theorem d_MO_same_39 : decode b_MO_same 39 = .ok (.sipush 17408, 3) := by decide +kernel
theorem d_MO_same_42 : decode b_MO_same 42 = .ok (.imul, 1) := by decide +kernel
theorem d_MO_same_43 : decode b_MO_same 43 = .ok (.iload 5, 2) := by decide +kernel
theorem d_MO_same_45 : decode b_MO_same 45 = .ok (.iadd, 1) := by decide +kernel
theorem d_MO_same_46 : decode b_MO_same 46 = .ok (.laload, 1) := by decide +kernel
theorem d_MO_same_47 : decode b_MO_same 47 = .ok (.aload_n 0, 1) := by decide +kernel
theorem d_MO_same_48 : decode b_MO_same 48 = .ok (.getfield 8, 3) := by decide +kernel
theorem d_MO_same_51 : decode b_MO_same 51 = .ok (.iload_n 2, 1) := by decide +kernel
theorem d_MO_same_52 : decode b_MO_same 52 = .ok (.sipush 17408, 3) := by decide +kernel
theorem d_MO_same_55 : decode b_MO_same 55 = .ok (.imul, 1) := by decide +kernel
theorem d_MO_same_56 : decode b_MO_same 56 = .ok (.iload 5, 2) := by decide +kernel
theorem d_MO_same_58 : decode b_MO_same 58 = .ok (.iadd, 1) := by decide +kernel
theorem d_MO_same_59 : decode b_MO_same 59 = .ok (.laload, 1) := by decide +kernel
theorem d_MO_same_60 : decode b_MO_same 60 = .ok (.lxor, 1) := by decide +kernel
theorem d_MO_same_61 : decode b_MO_same 61 = .ok (.lor, 1) := by decide +kernel
theorem d_MO_same_62 : decode b_MO_same 62 = .ok (.lstore_n 3, 1) := by decide +kernel
theorem d_MO_same_63 : decode b_MO_same 63 = .ok (.iinc 5 1, 3) := by decide +kernel
theorem d_MO_same_66 : decode b_MO_same 66 = .ok (.goto (-42), 3) := by decide +kernel
theorem d_MO_same_69 : decode b_MO_same 69 = .ok (.lload_n 3, 1) := by decide +kernel
theorem d_MO_same_70 : decode b_MO_same 70 = .ok (.lconst 0, 1) := by decide +kernel
theorem d_MO_same_71 : decode b_MO_same 71 = .ok (.lcmp, 1) := by decide +kernel
theorem d_MO_same_72 : decode b_MO_same 72 = .ok (.ifCond .ne 7, 3) := by decide +kernel
theorem d_MO_same_75 : decode b_MO_same 75 = .ok (.iconst 1, 1) := by decide +kernel
theorem d_MO_same_76 : decode b_MO_same 76 = .ok (.goto 4, 3) := by decide +kernel
theorem d_MO_same_79 : decode b_MO_same 79 = .ok (.iconst 0, 1) := by decide +kernel
theorem d_MO_same_80 : decode b_MO_same 80 = .ok (.ireturn, 1) := by decide +kernel
theorem d_MO_has_0 : decode b_MO_has 0 = .ok (.aload_n 0, 1) := by decide +kernel
theorem d_MO_has_1 : decode b_MO_has 1 = .ok (.iload_n 1, 1) := by decide +kernel
theorem d_MO_has_2 : decode b_MO_has 2 = .ok (.invokevirtual 117, 3) := by decide +kernel
theorem d_MO_has_5 : decode b_MO_has 5 = .ok (.ifCond .eq 6, 3) := by decide +kernel
theorem d_MO_has_8 : decode b_MO_has 8 = .ok (.bipush (-2), 2) := by decide +kernel
theorem d_MO_has_10 : decode b_MO_has 10 = .ok (.ireturn, 1) := by decide +kernel
theorem d_MO_has_11 : decode b_MO_has 11 = .ok (.iload_n 2, 1) := by decide +kernel
theorem d_MO_has_12 : decode b_MO_has 12 = .ok (.ifCond .lt 24, 3) := by decide +kernel
theorem d_MO_has_15 : decode b_MO_has 15 = .ok (.iload_n 2, 1) := by decide +kernel
theorem d_MO_has_16 : decode b_MO_has 16 = .ok (.aload_n 0, 1) := by decide +kernel
theorem d_MO_has_17 : decode b_MO_has 17 = .ok (.getfield 49, 3) := by decide +kernel
theorem d_MO_has_20 : decode b_MO_has 20 = .ok (.if_icmp .gt 16, 3) := by decide +kernel
theorem d_MO_has_23 : decode b_MO_has 23 = .ok (.aload_n 0, 1) := by decide +kernel
theorem d_MO_has_24 : decode b_MO_has 24 = .ok (.iload_n 1, 1) := by decide +kernel
theorem d_MO_has_25 : decode b_MO_has 25 = .ok (.iload_n 2, 1) := by decide +kernel
theorem d_MO_has_26 : decode b_MO_has 26 = .ok (.invokevirtual 158, 3) := by decide +kernel
theorem d_MO_has_29 : decode b_MO_has 29 = .ok (.ifCond .eq 7, 3) := by decide +kernel
theorem d_MO_has_32 : decode b_MO_has 32 = .ok (.iconst 1, 1) := by decide +kernel
theorem d_MO_has_33 : decode b_MO_has 33 = .ok (.goto 4, 3) := by decide +kernel
theorem d_MO_has_36 : decode b_MO_has 36 = .ok (.iconst 0, 1) := by decide +kernel
theorem d_MO_has_37 : decode b_MO_has 37 = .ok (.ireturn, 1) := by decide +kernel
theorem d_MO_size_0 : decode b_MO_size 0 = .ok (.aload_n 0, 1) := by decide +kernel
theorem d_MO_size_1 : decode b_MO_size 1 = .ok (.iload_n 1, 1) := by decide +kernel
theorem d_MO_size_2 : decode b_MO_size 2 = .ok (.invokevirtual 117, 3) := by decide +kernel
theorem d_MO_size_5 : decode b_MO_size 5 = .ok (.ifCond .eq 8, 3) := by decide +kernel
theorem d_MO_size_8 : decode b_MO_size 8 = .ok (.bipush (-2), 2) := by decide +kernel
theorem d_MO_size_10 : decode b_MO_size 10 = .ok (.goto 8, 3) := by decide +kernel
theorem d_MO_size_13 : decode b_MO_size 13 = .ok (.aload_n 0, 1) := by decide +kernel
theorem d_MO_size_14 : decode b_MO_size 14 = .ok (.iload_n 1, 1) := by decide +kernel
theorem d_MO_size_15 : decode b_MO_size 15 = .ok (.invokevirtual 155, 3) := by decide +kernel
theorem d_MO_size_18 : decode b_MO_size 18 = .ok (.ireturn, 1) := by decide +kernel
theorem d_MO_least_0 : decode b_MO_least 0 = .ok (.aload_n 0, 1) := by decide +kernel
theorem d_MO_least_1 : decode b_MO_least 1 = .ok (.iload_n 1, 1) := by decide +kernel
theorem d_MO_least_2 : decode b_MO_least 2 = .ok (.invokevirtual 117, 3) := by decide +kernel
theorem d_MO_least_5 : decode b_MO_least 5 = .ok (.ifCond .eq 6, 3) := by decide +kernel
theorem d_MO_least_8 : decode b_MO_least 8 = .ok (.bipush (-2), 2) := by decide +kernel
theorem d_MO_least_10 : decode b_MO_least 10 = .ok (.ireturn, 1) := by decide +kernel
theorem d_MO_least_11 : decode b_MO_least 11 = .ok (.iload_n 2, 1) := by decide +kernel
theorem d_MO_least_12 : decode b_MO_least 12 = .ok (.ifCond .ge 7, 3) := by decide +kernel
theorem d_MO_least_15 : decode b_MO_least 15 = .ok (.iconst 0, 1) := by decide +kernel
theorem d_MO_least_16 : decode b_MO_least 16 = .ok (.goto 4, 3) := by decide +kernel
theorem d_MO_least_19 : decode b_MO_least 19 = .ok (.iload_n 2, 1) := by decide +kernel
theorem d_MO_least_20 : decode b_MO_least 20 = .ok (.istore_n 3, 1) := by decide +kernel
theorem d_MO_least_21 : decode b_MO_least 21 = .ok (.iload_n 3, 1) := by decide +kernel
theorem d_MO_least_22 : decode b_MO_least 22 = .ok (.aload_n 0, 1) := by decide +kernel
theorem d_MO_least_23 : decode b_MO_least 23 = .ok (.getfield 49, 3) := by decide +kernel
theorem d_MO_least_26 : decode b_MO_least 26 = .ok (.if_icmp .gt 53, 3) := by decide +kernel
theorem d_MO_least_29 : decode b_MO_least 29 = .ok (.aload_n 0, 1) := by decide +kernel
theorem d_MO_least_30 : decode b_MO_least 30 = .ok (.getfield 8, 3) := by decide +kernel
theorem d_MO_least_33 : decode b_MO_least 33 = .ok (.iload_n 1, 1) := by decide +kernel
theorem d_MO_least_34 : decode b_MO_least 34 = .ok (.sipush 17408, 3) := by decide +kernel
theorem d_MO_least_37 : decode b_MO_least 37 = .ok (.imul, 1) := by decide +kernel
theorem d_MO_least_38 : decode b_MO_least 38 = .ok (.iload_n 3, 1) := by decide +kernel
theorem d_MO_least_39 : decode b_MO_least 39 = .ok (.bipush 6, 2) := by decide +kernel
theorem d_MO_least_41 : decode b_MO_least 41 = .ok (.ishr, 1) := by decide +kernel
theorem d_MO_least_42 : decode b_MO_least 42 = .ok (.iadd, 1) := by decide +kernel
theorem d_MO_least_43 : decode b_MO_least 43 = .ok (.laload, 1) := by decide +kernel
theorem d_MO_least_44 : decode b_MO_least 44 = .ok (.lconst 0, 1) := by decide +kernel
theorem d_MO_least_45 : decode b_MO_least 45 = .ok (.lcmp, 1) := by decide +kernel
theorem d_MO_least_46 : decode b_MO_least 46 = .ok (.ifCond .ne 16, 3) := by decide +kernel
theorem d_MO_least_49 : decode b_MO_least 49 = .ok (.iload_n 3, 1) := by decide +kernel
theorem d_MO_least_50 : decode b_MO_least 50 = .ok (.bipush 6, 2) := by decide +kernel
theorem d_MO_least_52 : decode b_MO_least 52 = .ok (.ishr, 1) := by decide +kernel
theorem d_MO_least_53 : decode b_MO_least 53 = .ok (.iconst 1, 1) := by decide +kernel
theorem d_MO_least_54 : decode b_MO_least 54 = .ok (.iadd, 1) := by decide +kernel
theorem d_MO_least_55 : decode b_MO_least 55 = .ok (.bipush 6, 2) := by decide +kernel
theorem d_MO_least_57 : decode b_MO_least 57 = .ok (.ishl, 1) := by decide +kernel
theorem d_MO_least_58 : decode b_MO_least 58 = .ok (.istore_n 3, 1) := by decide +kernel
theorem d_MO_least_59 : decode b_MO_least 59 = .ok (.goto (-38), 3) := by decide +kernel
theorem d_MO_least_62 : decode b_MO_least 62 = .ok (.aload_n 0, 1) := by decide +kernel
theorem d_MO_least_63 : decode b_MO_least 63 = .ok (.iload_n 1, 1) := by decide +kernel
theorem d_MO_least_64 : decode b_MO_least 64 = .ok (.iload_n 3, 1) := by decide +kernel
theorem d_MO_least_65 : decode b_MO_least 65 = .ok (.invokevirtual 158, 3) := by decide +kernel
theorem d_MO_least_68 : decode b_MO_least 68 = .ok (.ifCond .eq 5, 3) := by decide +kernel
theorem d_MO_least_71 : decode b_MO_least 71 = .ok (.iload_n 3, 1) := by decide +kernel
theorem d_MO_least_72 : decode b_MO_least 72 = .ok (.ireturn, 1) := by decide +kernel
theorem d_MO_least_73 : decode b_MO_least 73 = .ok (.iinc 3 1, 3) := by decide +kernel
theorem d_MO_least_76 : decode b_MO_least 76 = .ok (.goto (-55), 3) := by decide +kernel
theorem d_MO_least_79 : decode b_MO_least 79 = .ok (.iconst (-1), 1) := by decide +kernel
theorem d_MO_least_80 : decode b_MO_least 80 = .ok (.ireturn, 1) := by decide +kernel
theorem d_MO_bound_0 : decode b_MO_bound 0 = .ok (.aload_n 0, 1) := by decide +kernel
theorem d_MO_bound_1 : decode b_MO_bound 1 = .ok (.iload_n 1, 1) := by decide +kernel
theorem d_MO_bound_2 : decode b_MO_bound 2 = .ok (.invokevirtual 117, 3) := by decide +kernel
theorem d_MO_bound_5 : decode b_MO_bound 5 = .ok (.ifCond .ne 7, 3) := by decide +kernel
theorem d_MO_bound_8 : decode b_MO_bound 8 = .ok (.iload_n 2, 1) := by decide +kernel
theorem d_MO_bound_9 : decode b_MO_bound 9 = .ok (.ifCond .ge 6, 3) := by decide +kernel
theorem d_MO_bound_12 : decode b_MO_bound 12 = .ok (.bipush (-2), 2) := by decide +kernel
theorem d_MO_bound_14 : decode b_MO_bound 14 = .ok (.ireturn, 1) := by decide +kernel
theorem d_MO_bound_15 : decode b_MO_bound 15 = .ok (.iconst 0, 1) := by decide +kernel
theorem d_MO_bound_16 : decode b_MO_bound 16 = .ok (.istore 4, 2) := by decide +kernel
theorem d_MO_bound_18 : decode b_MO_bound 18 = .ok (.aload_n 0, 1) := by decide +kernel
theorem d_MO_bound_19 : decode b_MO_bound 19 = .ok (.iload_n 1, 1) := by decide +kernel
theorem d_MO_bound_20 : decode b_MO_bound 20 = .ok (.iconst 0, 1) := by decide +kernel
theorem d_MO_bound_21 : decode b_MO_bound 21 = .ok (.invokevirtual 161, 3) := by decide +kernel
theorem d_MO_bound_24 : decode b_MO_bound 24 = .ok (.istore 5, 2) := by decide +kernel
theorem d_MO_bound_26 : decode b_MO_bound 26 = .ok (.iload 5, 2) := by decide +kernel
theorem d_MO_bound_28 : decode b_MO_bound 28 = .ok (.ifCond .lt 29, 3) := by decide +kernel
theorem d_MO_bound_31 : decode b_MO_bound 31 = .ok (.iload 4, 2) := by decide +kernel
theorem d_MO_bound_33 : decode b_MO_bound 33 = .ok (.iload_n 2, 1) := by decide +kernel
theorem d_MO_bound_34 : decode b_MO_bound 34 = .ok (.if_icmp .ge 23, 3) := by decide +kernel
theorem d_MO_bound_37 : decode b_MO_bound 37 = .ok (.aload_n 0, 1) := by decide +kernel
theorem d_MO_bound_38 : decode b_MO_bound 38 = .ok (.iload_n 1, 1) := by decide +kernel
theorem d_MO_bound_39 : decode b_MO_bound 39 = .ok (.aload_n 0, 1) := by decide +kernel
theorem d_MO_bound_40 : decode b_MO_bound 40 = .ok (.iload_n 1, 1) := by decide +kernel
theorem d_MO_bound_41 : decode b_MO_bound 41 = .ok (.iload 5, 2) := by decide +kernel
theorem d_MO_bound_43 : decode b_MO_bound 43 = .ok (.invokevirtual 165, 3) := by decide +kernel
theorem d_MO_bound_46 : decode b_MO_bound 46 = .ok (.invokevirtual 161, 3) := by decide +kernel
theorem d_MO_bound_49 : decode b_MO_bound 49 = .ok (.istore 5, 2) := by decide +kernel
theorem d_MO_bound_51 : decode b_MO_bound 51 = .ok (.iinc 4 1, 3) := by decide +kernel
theorem d_MO_bound_54 : decode b_MO_bound 54 = .ok (.goto (-28), 3) := by decide +kernel
theorem d_MO_bound_57 : decode b_MO_bound 57 = .ok (.iload 5, 2) := by decide +kernel
theorem d_MO_bound_59 : decode b_MO_bound 59 = .ok (.ifCond .ge 6, 3) := by decide +kernel
theorem d_MO_bound_62 : decode b_MO_bound 62 = .ok (.bipush (-2), 2) := by decide +kernel
theorem d_MO_bound_64 : decode b_MO_bound 64 = .ok (.ireturn, 1) := by decide +kernel
theorem d_MO_bound_65 : decode b_MO_bound 65 = .ok (.iload_n 3, 1) := by decide +kernel
theorem d_MO_bound_66 : decode b_MO_bound 66 = .ok (.ifCond .eq 15, 3) := by decide +kernel
theorem d_MO_bound_69 : decode b_MO_bound 69 = .ok (.aload_n 0, 1) := by decide +kernel
theorem d_MO_bound_70 : decode b_MO_bound 70 = .ok (.iload_n 1, 1) := by decide +kernel
theorem d_MO_bound_71 : decode b_MO_bound 71 = .ok (.iload 5, 2) := by decide +kernel
theorem d_MO_bound_73 : decode b_MO_bound 73 = .ok (.invokevirtual 165, 3) := by decide +kernel
theorem d_MO_bound_76 : decode b_MO_bound 76 = .ok (.iconst 1, 1) := by decide +kernel
theorem d_MO_bound_77 : decode b_MO_bound 77 = .ok (.isub, 1) := by decide +kernel
theorem d_MO_bound_78 : decode b_MO_bound 78 = .ok (.goto 5, 3) := by decide +kernel
theorem d_MO_bound_81 : decode b_MO_bound 81 = .ok (.iload 5, 2) := by decide +kernel
theorem d_MO_bound_83 : decode b_MO_bound 83 = .ok (.ireturn, 1) := by decide +kernel
theorem d_MO_after_0 : decode b_MO_after 0 = .ok (.iload_n 2, 1) := by decide +kernel
theorem d_MO_after_1 : decode b_MO_after 1 = .ok (.istore_n 3, 1) := by decide +kernel
theorem d_MO_after_2 : decode b_MO_after 2 = .ok (.iload_n 3, 1) := by decide +kernel
theorem d_MO_after_3 : decode b_MO_after 3 = .ok (.aload_n 0, 1) := by decide +kernel
theorem d_MO_after_4 : decode b_MO_after 4 = .ok (.getfield 49, 3) := by decide +kernel
theorem d_MO_after_7 : decode b_MO_after 7 = .ok (.if_icmp .gt 55, 3) := by decide +kernel
theorem d_MO_after_10 : decode b_MO_after 10 = .ok (.aload_n 0, 1) := by decide +kernel
theorem d_MO_after_11 : decode b_MO_after 11 = .ok (.getfield 8, 3) := by decide +kernel
theorem d_MO_after_14 : decode b_MO_after 14 = .ok (.iload_n 1, 1) := by decide +kernel
theorem d_MO_after_15 : decode b_MO_after 15 = .ok (.sipush 17408, 3) := by decide +kernel
theorem d_MO_after_18 : decode b_MO_after 18 = .ok (.imul, 1) := by decide +kernel
theorem d_MO_after_19 : decode b_MO_after 19 = .ok (.iload_n 3, 1) := by decide +kernel
theorem d_MO_after_20 : decode b_MO_after 20 = .ok (.bipush 6, 2) := by decide +kernel
theorem d_MO_after_22 : decode b_MO_after 22 = .ok (.ishr, 1) := by decide +kernel
theorem d_MO_after_23 : decode b_MO_after 23 = .ok (.iadd, 1) := by decide +kernel
theorem d_MO_after_24 : decode b_MO_after 24 = .ok (.laload, 1) := by decide +kernel
theorem d_MO_after_25 : decode b_MO_after 25 = .ok (.ldc2_w 99, 3) := by decide +kernel
theorem d_MO_after_28 : decode b_MO_after 28 = .ok (.lcmp, 1) := by decide +kernel
theorem d_MO_after_29 : decode b_MO_after 29 = .ok (.ifCond .ne 16, 3) := by decide +kernel
theorem d_MO_after_32 : decode b_MO_after 32 = .ok (.iload_n 3, 1) := by decide +kernel
theorem d_MO_after_33 : decode b_MO_after 33 = .ok (.bipush 6, 2) := by decide +kernel
theorem d_MO_after_35 : decode b_MO_after 35 = .ok (.ishr, 1) := by decide +kernel
theorem d_MO_after_36 : decode b_MO_after 36 = .ok (.iconst 1, 1) := by decide +kernel
theorem d_MO_after_37 : decode b_MO_after 37 = .ok (.iadd, 1) := by decide +kernel
theorem d_MO_after_38 : decode b_MO_after 38 = .ok (.bipush 6, 2) := by decide +kernel
theorem d_MO_after_40 : decode b_MO_after 40 = .ok (.ishl, 1) := by decide +kernel
theorem d_MO_after_41 : decode b_MO_after 41 = .ok (.istore_n 3, 1) := by decide +kernel
theorem d_MO_after_42 : decode b_MO_after 42 = .ok (.goto (-40), 3) := by decide +kernel
theorem d_MO_after_45 : decode b_MO_after 45 = .ok (.aload_n 0, 1) := by decide +kernel
theorem d_MO_after_46 : decode b_MO_after 46 = .ok (.iload_n 1, 1) := by decide +kernel
theorem d_MO_after_47 : decode b_MO_after 47 = .ok (.iload_n 3, 1) := by decide +kernel
theorem d_MO_after_48 : decode b_MO_after 48 = .ok (.invokevirtual 158, 3) := by decide +kernel
theorem d_MO_after_51 : decode b_MO_after 51 = .ok (.ifCond .ne 5, 3) := by decide +kernel
theorem d_MO_after_54 : decode b_MO_after 54 = .ok (.iload_n 3, 1) := by decide +kernel
theorem d_MO_after_55 : decode b_MO_after 55 = .ok (.ireturn, 1) := by decide +kernel
theorem d_MO_after_56 : decode b_MO_after 56 = .ok (.iinc 3 1, 3) := by decide +kernel
theorem d_MO_after_59 : decode b_MO_after 59 = .ok (.goto (-57), 3) := by decide +kernel
theorem d_MO_after_62 : decode b_MO_after 62 = .ok (.iload_n 3, 1) := by decide +kernel
theorem d_MO_after_63 : decode b_MO_after 63 = .ok (.ireturn, 1) := by decide +kernel
theorem d_MO_about_0 : decode b_MO_about 0 = .ok (.iload_n 1, 1) := by decide +kernel
theorem d_MO_about_1 : decode b_MO_about 1 = .ok (.ifCond .lt 18, 3) := by decide +kernel
theorem d_MO_about_4 : decode b_MO_about 4 = .ok (.iload_n 1, 1) := by decide +kernel
theorem d_MO_about_5 : decode b_MO_about 5 = .ok (.ldc 48, 2) := by decide +kernel
theorem d_MO_about_7 : decode b_MO_about 7 = .ok (.if_icmp .gt 12, 3) := by decide +kernel
theorem d_MO_about_10 : decode b_MO_about 10 = .ok (.iload_n 2, 1) := by decide +kernel
theorem d_MO_about_11 : decode b_MO_about 11 = .ok (.ifCond .lt 8, 3) := by decide +kernel
theorem d_MO_about_14 : decode b_MO_about 14 = .ok (.iload_n 2, 1) := by decide +kernel
theorem d_MO_about_15 : decode b_MO_about 15 = .ok (.iconst 4, 1) := by decide +kernel
theorem d_MO_about_16 : decode b_MO_about 16 = .ok (.if_icmp .le 6, 3) := by decide +kernel
theorem d_MO_about_19 : decode b_MO_about 19 = .ok (.bipush (-2), 2) := by decide +kernel
theorem d_MO_about_21 : decode b_MO_about 21 = .ok (.ireturn, 1) := by decide +kernel
theorem d_MO_about_22 : decode b_MO_about 22 = .ok (.iload_n 2, 1) := by decide +kernel
theorem d_MO_about_23 : decode b_MO_about 23 = .ok (.ifCond .ne 9, 3) := by decide +kernel
theorem d_MO_about_26 : decode b_MO_about 26 = .ok (.aload_n 0, 1) := by decide +kernel
theorem d_MO_about_27 : decode b_MO_about 27 = .ok (.iload_n 1, 1) := by decide +kernel
theorem d_MO_about_28 : decode b_MO_about 28 = .ok (.invokevirtual 75, 3) := by decide +kernel
theorem d_MO_about_31 : decode b_MO_about 31 = .ok (.ireturn, 1) := by decide +kernel
theorem d_MO_about_32 : decode b_MO_about 32 = .ok (.iload_n 2, 1) := by decide +kernel
theorem d_MO_about_33 : decode b_MO_about 33 = .ok (.iconst 1, 1) := by decide +kernel
theorem d_MO_about_34 : decode b_MO_about 34 = .ok (.if_icmp .ne 9, 3) := by decide +kernel
theorem d_MO_about_37 : decode b_MO_about 37 = .ok (.aload_n 0, 1) := by decide +kernel
theorem d_MO_about_38 : decode b_MO_about 38 = .ok (.iload_n 1, 1) := by decide +kernel
theorem d_MO_about_39 : decode b_MO_about 39 = .ok (.invokevirtual 131, 3) := by decide +kernel
theorem d_MO_about_42 : decode b_MO_about 42 = .ok (.ireturn, 1) := by decide +kernel
theorem d_MO_about_43 : decode b_MO_about 43 = .ok (.iload_n 1, 1) := by decide +kernel
theorem d_MO_about_44 : decode b_MO_about 44 = .ok (.aload_n 0, 1) := by decide +kernel
theorem d_MO_about_45 : decode b_MO_about 45 = .ok (.getfield 49, 3) := by decide +kernel
theorem d_MO_about_48 : decode b_MO_about 48 = .ok (.if_icmp .le 6, 3) := by decide +kernel
theorem d_MO_about_51 : decode b_MO_about 51 = .ok (.bipush (-2), 2) := by decide +kernel
theorem d_MO_about_53 : decode b_MO_about 53 = .ok (.ireturn, 1) := by decide +kernel
theorem d_MO_about_54 : decode b_MO_about 54 = .ok (.iload_n 2, 1) := by decide +kernel
theorem d_MO_about_55 : decode b_MO_about 55 = .ok (.iconst 2, 1) := by decide +kernel
theorem d_MO_about_56 : decode b_MO_about 56 = .ok (.if_icmp .ne 11, 3) := by decide +kernel
theorem d_MO_about_59 : decode b_MO_about 59 = .ok (.aload_n 0, 1) := by decide +kernel
theorem d_MO_about_60 : decode b_MO_about 60 = .ok (.iload_n 1, 1) := by decide +kernel
theorem d_MO_about_61 : decode b_MO_about 61 = .ok (.invokevirtual 168, 3) := by decide +kernel
theorem d_MO_about_64 : decode b_MO_about 64 = .ok (.goto 21, 3) := by decide +kernel
theorem d_MO_about_67 : decode b_MO_about 67 = .ok (.iload_n 2, 1) := by decide +kernel
theorem d_MO_about_68 : decode b_MO_about 68 = .ok (.iconst 3, 1) := by decide +kernel
theorem d_MO_about_69 : decode b_MO_about 69 = .ok (.if_icmp .ne 11, 3) := by decide +kernel
theorem d_MO_about_72 : decode b_MO_about 72 = .ok (.aload_n 0, 1) := by decide +kernel
theorem d_MO_about_73 : decode b_MO_about 73 = .ok (.iload_n 1, 1) := by decide +kernel
theorem d_MO_about_74 : decode b_MO_about 74 = .ok (.invokevirtual 171, 3) := by decide +kernel
theorem d_MO_about_77 : decode b_MO_about 77 = .ok (.goto 8, 3) := by decide +kernel
theorem d_MO_about_80 : decode b_MO_about 80 = .ok (.aload_n 0, 1) := by decide +kernel
theorem d_MO_about_81 : decode b_MO_about 81 = .ok (.iload_n 1, 1) := by decide +kernel
theorem d_MO_about_82 : decode b_MO_about 82 = .ok (.invokevirtual 174, 3) := by decide +kernel
theorem d_MO_about_85 : decode b_MO_about 85 = .ok (.ireturn, 1) := by decide +kernel
theorem d_CR_init_0 : decode b_CR_init 0 = .ok (.aload_n 0, 1) := by decide +kernel
theorem d_CR_init_1 : decode b_CR_init 1 = .ok (.invokespecial 3, 3) := by decide +kernel
theorem d_CR_init_4 : decode b_CR_init 4 = .ok (.aload_n 0, 1) := by decide +kernel
theorem d_CR_init_5 : decode b_CR_init 5 = .ok (.iload_n 2, 1) := by decide +kernel
theorem d_CR_init_6 : decode b_CR_init 6 = .ok (.putfield 9, 3) := by decide +kernel
theorem d_CR_init_9 : decode b_CR_init 9 = .ok (.aload_n 0, 1) := by decide +kernel
theorem d_CR_init_10 : decode b_CR_init 10 = .ok (.sipush 1122, 3) := by decide +kernel
theorem d_CR_init_13 : decode b_CR_init 13 = .ok (.newarray .int, 2) := by decide +kernel
theorem d_CR_init_15 : decode b_CR_init 15 = .ok (.putfield 13, 3) := by decide +kernel
theorem d_CR_init_18 : decode b_CR_init 18 = .ok (.iconst 0, 1) := by decide +kernel
theorem d_CR_init_19 : decode b_CR_init 19 = .ok (.istore_n 3, 1) := by decide +kernel
theorem d_CR_init_20 : decode b_CR_init 20 = .ok (.iload_n 3, 1) := by decide +kernel
theorem d_CR_init_21 : decode b_CR_init 21 = .ok (.sipush 1122, 3) := by decide +kernel
theorem d_CR_init_24 : decode b_CR_init 24 = .ok (.if_icmp .ge 19, 3) := by decide +kernel
theorem d_CR_init_27 : decode b_CR_init 27 = .ok (.aload_n 0, 1) := by decide +kernel
theorem d_CR_init_28 : decode b_CR_init 28 = .ok (.getfield 13, 3) := by decide +kernel
theorem d_CR_init_31 : decode b_CR_init 31 = .ok (.iload_n 3, 1) := by decide +kernel
theorem d_CR_init_32 : decode b_CR_init 32 = .ok (.iload_n 3, 1) := by decide +kernel
theorem d_CR_init_33 : decode b_CR_init 33 = .ok (.invokestatic 17, 3) := by decide +kernel
theorem d_CR_init_36 : decode b_CR_init 36 = .ok (.iastore, 1) := by decide +kernel
theorem d_CR_init_37 : decode b_CR_init 37 = .ok (.iinc 3 1, 3) := by decide +kernel
theorem d_CR_init_40 : decode b_CR_init 40 = .ok (.goto (-20), 3) := by decide +kernel
theorem d_CR_init_43 : decode b_CR_init 43 = .ok (.iload_n 1, 1) := by decide +kernel
theorem d_CR_init_44 : decode b_CR_init 44 = .ok (.ifCond .eq 10, 3) := by decide +kernel
theorem d_CR_init_47 : decode b_CR_init 47 = .ok (.getstatic 21, 3) := by decide +kernel
theorem d_CR_init_50 : decode b_CR_init 50 = .ok (.arraylength, 1) := by decide +kernel
theorem d_CR_init_51 : decode b_CR_init 51 = .ok (.goto 4, 3) := by decide +kernel
theorem d_CR_init_54 : decode b_CR_init 54 = .ok (.iconst 4, 1) := by decide +kernel
theorem d_CR_init_55 : decode b_CR_init 55 = .ok (.istore_n 3, 1) := by decide +kernel
theorem d_CR_init_56 : decode b_CR_init 56 = .ok (.iconst 0, 1) := by decide +kernel
theorem d_CR_init_57 : decode b_CR_init 57 = .ok (.istore 4, 2) := by decide +kernel
theorem d_CR_init_59 : decode b_CR_init 59 = .ok (.iload 4, 2) := by decide +kernel
theorem d_CR_init_61 : decode b_CR_init 61 = .ok (.iconst 3, 1) := by decide +kernel
theorem d_CR_init_62 : decode b_CR_init 62 = .ok (.iadd, 1) := by decide +kernel
theorem d_CR_init_63 : decode b_CR_init 63 = .ok (.iload_n 3, 1) := by decide +kernel
theorem d_CR_init_64 : decode b_CR_init 64 = .ok (.if_icmp .ge 15, 3) := by decide +kernel
theorem d_CR_init_67 : decode b_CR_init 67 = .ok (.aload_n 0, 1) := by decide +kernel
theorem d_CR_init_68 : decode b_CR_init 68 = .ok (.iload 4, 2) := by decide +kernel
theorem d_CR_init_70 : decode b_CR_init 70 = .ok (.invokevirtual 24, 3) := by decide +kernel
theorem d_CR_init_73 : decode b_CR_init 73 = .ok (.iinc 4 4, 3) := by decide +kernel
theorem d_CR_init_76 : decode b_CR_init 76 = .ok (.goto (-17), 3) := by decide +kernel
theorem d_CR_init_79 : decode b_CR_init 79 = .ok (.iconst 0, 1) := by decide +kernel
theorem d_CR_init_80 : decode b_CR_init 80 = .ok (.istore 4, 2) := by decide +kernel
theorem d_CR_init_82 : decode b_CR_init 82 = .ok (.iload 4, 2) := by decide +kernel
theorem d_CR_init_84 : decode b_CR_init 84 = .ok (.iconst 2, 1) := by decide +kernel
theorem d_CR_init_85 : decode b_CR_init 85 = .ok (.iadd, 1) := by decide +kernel
theorem d_CR_init_86 : decode b_CR_init 86 = .ok (.getstatic 28, 3) := by decide +kernel
theorem d_CR_init_89 : decode b_CR_init 89 = .ok (.arraylength, 1) := by decide +kernel
theorem d_CR_init_90 : decode b_CR_init 90 = .ok (.if_icmp .ge 35, 3) := by decide +kernel
theorem d_CR_init_93 : decode b_CR_init 93 = .ok (.aload_n 0, 1) := by decide +kernel
theorem d_CR_init_94 : decode b_CR_init 94 = .ok (.getstatic 28, 3) := by decide +kernel
theorem d_CR_init_97 : decode b_CR_init 97 = .ok (.iload 4, 2) := by decide +kernel
theorem d_CR_init_99 : decode b_CR_init 99 = .ok (.iaload, 1) := by decide +kernel
theorem d_CR_init_100 : decode b_CR_init 100 = .ok (.getstatic 28, 3) := by decide +kernel
theorem d_CR_init_103 : decode b_CR_init 103 = .ok (.iload 4, 2) := by decide +kernel
theorem d_CR_init_105 : decode b_CR_init 105 = .ok (.iconst 1, 1) := by decide +kernel
theorem d_CR_init_106 : decode b_CR_init 106 = .ok (.iadd, 1) := by decide +kernel
theorem d_CR_init_107 : decode b_CR_init 107 = .ok (.iaload, 1) := by decide +kernel
theorem d_CR_init_108 : decode b_CR_init 108 = .ok (.getstatic 28, 3) := by decide +kernel
theorem d_CR_init_111 : decode b_CR_init 111 = .ok (.iload 4, 2) := by decide +kernel
theorem d_CR_init_113 : decode b_CR_init 113 = .ok (.iconst 2, 1) := by decide +kernel
theorem d_CR_init_114 : decode b_CR_init 114 = .ok (.iadd, 1) := by decide +kernel
theorem d_CR_init_115 : decode b_CR_init 115 = .ok (.iaload, 1) := by decide +kernel
theorem d_CR_init_116 : decode b_CR_init 116 = .ok (.invokevirtual 31, 3) := by decide +kernel
theorem d_CR_init_119 : decode b_CR_init 119 = .ok (.iinc 4 3, 3) := by decide +kernel
theorem d_CR_init_122 : decode b_CR_init 122 = .ok (.goto (-40), 3) := by decide +kernel
theorem d_CR_init_125 : decode b_CR_init 125 = .ok (.return_, 1) := by decide +kernel
theorem d_CR_characterAt_0 : decode b_CR_characterAt 0 = .ok (.iload_n 0, 1) := by decide +kernel
theorem d_CR_characterAt_1 : decode b_CR_characterAt 1 = .ok (.sipush 1120, 3) := by decide +kernel
theorem d_CR_characterAt_4 : decode b_CR_characterAt 4 = .ok (.if_icmp .ge 7, 3) := by decide +kernel
theorem d_CR_characterAt_7 : decode b_CR_characterAt 7 = .ok (.iload_n 0, 1) := by decide +kernel
theorem d_CR_characterAt_8 : decode b_CR_characterAt 8 = .ok (.goto 12, 3) := by decide +kernel
theorem d_CR_characterAt_11 : decode b_CR_characterAt 11 = .ok (.sipush 8490, 3) := by decide +kernel
theorem d_CR_characterAt_14 : decode b_CR_characterAt 14 = .ok (.iload_n 0, 1) := by decide +kernel
theorem d_CR_characterAt_15 : decode b_CR_characterAt 15 = .ok (.iadd, 1) := by decide +kernel
theorem d_CR_characterAt_16 : decode b_CR_characterAt 16 = .ok (.sipush 1120, 3) := by decide +kernel
theorem d_CR_characterAt_19 : decode b_CR_characterAt 19 = .ok (.isub, 1) := by decide +kernel
theorem d_CR_characterAt_20 : decode b_CR_characterAt 20 = .ok (.ireturn, 1) := by decide +kernel
theorem d_CR_nextOf_0 : decode b_CR_nextOf 0 = .ok (.iload_n 1, 1) := by decide +kernel
theorem d_CR_nextOf_1 : decode b_CR_nextOf 1 = .ok (.invokestatic 35, 3) := by decide +kernel
theorem d_CR_nextOf_4 : decode b_CR_nextOf 4 = .ok (.istore_n 2, 1) := by decide +kernel
theorem d_CR_nextOf_5 : decode b_CR_nextOf 5 = .ok (.iload_n 2, 1) := by decide +kernel
theorem d_CR_nextOf_6 : decode b_CR_nextOf 6 = .ok (.ifCond .ge 7, 3) := by decide +kernel
theorem d_CR_nextOf_9 : decode b_CR_nextOf 9 = .ok (.iload_n 1, 1) := by decide +kernel
theorem d_CR_nextOf_10 : decode b_CR_nextOf 10 = .ok (.goto 9, 3) := by decide +kernel
theorem d_CR_nextOf_13 : decode b_CR_nextOf 13 = .ok (.aload_n 0, 1) := by decide +kernel
theorem d_CR_nextOf_14 : decode b_CR_nextOf 14 = .ok (.getfield 13, 3) := by decide +kernel
theorem d_CR_nextOf_17 : decode b_CR_nextOf 17 = .ok (.iload_n 2, 1) := by decide +kernel
theorem d_CR_nextOf_18 : decode b_CR_nextOf 18 = .ok (.iaload, 1) := by decide +kernel
theorem d_CR_nextOf_19 : decode b_CR_nextOf 19 = .ok (.ireturn, 1) := by decide +kernel
theorem d_CR_slotOf_0 : decode b_CR_slotOf 0 = .ok (.iload_n 0, 1) := by decide +kernel
theorem d_CR_slotOf_1 : decode b_CR_slotOf 1 = .ok (.ifCond .lt 12, 3) := by decide +kernel
theorem d_CR_slotOf_4 : decode b_CR_slotOf 4 = .ok (.iload_n 0, 1) := by decide +kernel
theorem d_CR_slotOf_5 : decode b_CR_slotOf 5 = .ok (.sipush 1120, 3) := by decide +kernel
theorem d_CR_slotOf_8 : decode b_CR_slotOf 8 = .ok (.if_icmp .ge 5, 3) := by decide +kernel
theorem d_CR_slotOf_11 : decode b_CR_slotOf 11 = .ok (.iload_n 0, 1) := by decide +kernel
theorem d_CR_slotOf_12 : decode b_CR_slotOf 12 = .ok (.ireturn, 1) := by decide +kernel
theorem d_CR_slotOf_13 : decode b_CR_slotOf 13 = .ok (.iload_n 0, 1) := by decide +kernel
theorem d_CR_slotOf_14 : decode b_CR_slotOf 14 = .ok (.sipush 8490, 3) := by decide +kernel
theorem d_CR_slotOf_17 : decode b_CR_slotOf 17 = .ok (.if_icmp .lt 22, 3) := by decide +kernel
theorem d_CR_slotOf_20 : decode b_CR_slotOf 20 = .ok (.iload_n 0, 1) := by decide +kernel
theorem d_CR_slotOf_21 : decode b_CR_slotOf 21 = .ok (.sipush 8491, 3) := by decide +kernel
theorem d_CR_slotOf_24 : decode b_CR_slotOf 24 = .ok (.if_icmp .gt 15, 3) := by decide +kernel
theorem d_CR_slotOf_27 : decode b_CR_slotOf 27 = .ok (.sipush 1120, 3) := by decide +kernel
theorem d_CR_slotOf_30 : decode b_CR_slotOf 30 = .ok (.iload_n 0, 1) := by decide +kernel
theorem d_CR_slotOf_31 : decode b_CR_slotOf 31 = .ok (.iadd, 1) := by decide +kernel
theorem d_CR_slotOf_32 : decode b_CR_slotOf 32 = .ok (.sipush 8490, 3) := by decide +kernel
theorem d_CR_slotOf_35 : decode b_CR_slotOf 35 = .ok (.isub, 1) := by decide +kernel
theorem d_CR_slotOf_36 : decode b_CR_slotOf 36 = .ok (.goto 4, 3) := by decide +kernel
theorem d_CR_slotOf_39 : decode b_CR_slotOf 39 = .ok (.iconst (-1), 1) := by decide +kernel
theorem d_CR_slotOf_40 : decode b_CR_slotOf 40 = .ok (.ireturn, 1) := by decide +kernel
theorem d_CR_linkPairs_0 : decode b_CR_linkPairs 0 = .ok (.getstatic 21, 3) := by decide +kernel
theorem d_CR_linkPairs_3 : decode b_CR_linkPairs 3 = .ok (.iload_n 1, 1) := by decide +kernel
theorem d_CR_linkPairs_4 : decode b_CR_linkPairs 4 = .ok (.iconst 2, 1) := by decide +kernel
theorem d_CR_linkPairs_5 : decode b_CR_linkPairs 5 = .ok (.iadd, 1) := by decide +kernel
theorem d_CR_linkPairs_6 : decode b_CR_linkPairs 6 = .ok (.iaload, 1) := by decide +kernel
theorem d_CR_linkPairs_7 : decode b_CR_linkPairs 7 = .ok (.istore_n 2, 1) := by decide +kernel
theorem d_CR_linkPairs_8 : decode b_CR_linkPairs 8 = .ok (.getstatic 21, 3) := by decide +kernel
theorem d_CR_linkPairs_11 : decode b_CR_linkPairs 11 = .ok (.iload_n 1, 1) := by decide +kernel
theorem d_CR_linkPairs_12 : decode b_CR_linkPairs 12 = .ok (.iconst 3, 1) := by decide +kernel
theorem d_CR_linkPairs_13 : decode b_CR_linkPairs 13 = .ok (.iadd, 1) := by decide +kernel
theorem d_CR_linkPairs_14 : decode b_CR_linkPairs 14 = .ok (.iaload, 1) := by decide +kernel
theorem d_CR_linkPairs_15 : decode b_CR_linkPairs 15 = .ok (.iconst 2, 1) := by decide +kernel
theorem d_CR_linkPairs_16 : decode b_CR_linkPairs 16 = .ok (.if_icmp .ne 7, 3) := by decide +kernel
theorem d_CR_linkPairs_19 : decode b_CR_linkPairs 19 = .ok (.iconst 2, 1) := by decide +kernel
theorem d_CR_linkPairs_20 : decode b_CR_linkPairs 20 = .ok (.goto 4, 3) := by decide +kernel
theorem d_CR_linkPairs_23 : decode b_CR_linkPairs 23 = .ok (.iconst 1, 1) := by decide +kernel
theorem d_CR_linkPairs_24 : decode b_CR_linkPairs 24 = .ok (.istore_n 3, 1) := by decide +kernel
theorem d_CR_linkPairs_25 : decode b_CR_linkPairs 25 = .ok (.getstatic 21, 3) := by decide +kernel
theorem d_CR_linkPairs_28 : decode b_CR_linkPairs 28 = .ok (.iload_n 1, 1) := by decide +kernel
theorem d_CR_linkPairs_29 : decode b_CR_linkPairs 29 = .ok (.iaload, 1) := by decide +kernel
theorem d_CR_linkPairs_30 : decode b_CR_linkPairs 30 = .ok (.istore 4, 2) := by decide +kernel
theorem d_CR_linkPairs_32 : decode b_CR_linkPairs 32 = .ok (.iload 4, 2) := by decide +kernel
theorem d_CR_linkPairs_34 : decode b_CR_linkPairs 34 = .ok (.getstatic 21, 3) := by decide +kernel
theorem d_CR_linkPairs_37 : decode b_CR_linkPairs 37 = .ok (.iload_n 1, 1) := by decide +kernel
theorem d_CR_linkPairs_38 : decode b_CR_linkPairs 38 = .ok (.iconst 1, 1) := by decide +kernel
theorem d_CR_linkPairs_39 : decode b_CR_linkPairs 39 = .ok (.iadd, 1) := by decide +kernel
theorem d_CR_linkPairs_40 : decode b_CR_linkPairs 40 = .ok (.iaload, 1) := by decide +kernel
theorem d_CR_linkPairs_41 : decode b_CR_linkPairs 41 = .ok (.if_icmp .gt 43, 3) := by decide +kernel
theorem d_CR_linkPairs_44 : decode b_CR_linkPairs 44 = .ok (.iload 4, 2) := by decide +kernel
theorem d_CR_linkPairs_46 : decode b_CR_linkPairs 46 = .ok (.iload_n 2, 1) := by decide +kernel
theorem d_CR_linkPairs_47 : decode b_CR_linkPairs 47 = .ok (.iadd, 1) := by decide +kernel
theorem d_CR_linkPairs_48 : decode b_CR_linkPairs 48 = .ok (.aload_n 0, 1) := by decide +kernel
theorem d_CR_linkPairs_49 : decode b_CR_linkPairs 49 = .ok (.getfield 9, 3) := by decide +kernel
theorem d_CR_linkPairs_52 : decode b_CR_linkPairs 52 = .ok (.if_icmp .gt 23, 3) := by decide +kernel
theorem d_CR_linkPairs_55 : decode b_CR_linkPairs 55 = .ok (.aload_n 0, 1) := by decide +kernel
theorem d_CR_linkPairs_56 : decode b_CR_linkPairs 56 = .ok (.iload 4, 2) := by decide +kernel
theorem d_CR_linkPairs_58 : decode b_CR_linkPairs 58 = .ok (.iload 4, 2) := by decide +kernel
theorem d_CR_linkPairs_60 : decode b_CR_linkPairs 60 = .ok (.iload_n 2, 1) := by decide +kernel
theorem d_CR_linkPairs_61 : decode b_CR_linkPairs 61 = .ok (.iadd, 1) := by decide +kernel
theorem d_CR_linkPairs_62 : decode b_CR_linkPairs 62 = .ok (.invokevirtual 38, 3) := by decide +kernel
theorem d_CR_linkPairs_65 : decode b_CR_linkPairs 65 = .ok (.aload_n 0, 1) := by decide +kernel
theorem d_CR_linkPairs_66 : decode b_CR_linkPairs 66 = .ok (.iload 4, 2) := by decide +kernel
theorem d_CR_linkPairs_68 : decode b_CR_linkPairs 68 = .ok (.iload_n 2, 1) := by decide +kernel
theorem d_CR_linkPairs_69 : decode b_CR_linkPairs 69 = .ok (.iadd, 1) := by decide +kernel
theorem d_CR_linkPairs_70 : decode b_CR_linkPairs 70 = .ok (.iload 4, 2) := by decide +kernel
theorem d_CR_linkPairs_72 : decode b_CR_linkPairs 72 = .ok (.invokevirtual 38, 3) := by decide +kernel
theorem d_CR_linkPairs_75 : decode b_CR_linkPairs 75 = .ok (.iload 4, 2) := by decide +kernel
theorem d_CR_linkPairs_77 : decode b_CR_linkPairs 77 = .ok (.iload_n 3, 1) := by decide +kernel
theorem d_CR_linkPairs_78 : decode b_CR_linkPairs 78 = .ok (.iadd, 1) := by decide +kernel
theorem d_CR_linkPairs_79 : decode b_CR_linkPairs 79 = .ok (.istore 4, 2) := by decide +kernel
theorem d_CR_linkPairs_81 : decode b_CR_linkPairs 81 = .ok (.goto (-49), 3) := by decide +kernel
theorem d_CR_linkPairs_84 : decode b_CR_linkPairs 84 = .ok (.return_, 1) := by decide +kernel
end
section
theorem d_CR_linkThree_0 : decode b_CR_linkThree 0 = .ok (.iload_n 3, 1) := by decide +kernel
theorem d_CR_linkThree_1 : decode b_CR_linkThree 1 = .ok (.aload_n 0, 1) := by decide +kernel
theorem d_CR_linkThree_2 : decode b_CR_linkThree 2 = .ok (.getfield 9, 3) := by decide +kernel
theorem d_CR_linkThree_5 : decode b_CR_linkThree 5 = .ok (.if_icmp .gt 21, 3) := by decide +kernel
theorem d_CR_linkThree_8 : decode b_CR_linkThree 8 = .ok (.aload_n 0, 1) := by decide +kernel
theorem d_CR_linkThree_9 : decode b_CR_linkThree 9 = .ok (.iload_n 1, 1) := by decide +kernel
theorem d_CR_linkThree_10 : decode b_CR_linkThree 10 = .ok (.iload_n 2, 1) := by decide +kernel
theorem d_CR_linkThree_11 : decode b_CR_linkThree 11 = .ok (.invokevirtual 38, 3) := by decide +kernel
theorem d_CR_linkThree_14 : decode b_CR_linkThree 14 = .ok (.aload_n 0, 1) := by decide +kernel
theorem d_CR_linkThree_15 : decode b_CR_linkThree 15 = .ok (.iload_n 2, 1) := by decide +kernel
theorem d_CR_linkThree_16 : decode b_CR_linkThree 16 = .ok (.iload_n 3, 1) := by decide +kernel
theorem d_CR_linkThree_17 : decode b_CR_linkThree 17 = .ok (.invokevirtual 38, 3) := by decide +kernel
theorem d_CR_linkThree_20 : decode b_CR_linkThree 20 = .ok (.aload_n 0, 1) := by decide +kernel
theorem d_CR_linkThree_21 : decode b_CR_linkThree 21 = .ok (.iload_n 3, 1) := by decide +kernel
theorem d_CR_linkThree_22 : decode b_CR_linkThree 22 = .ok (.iload_n 1, 1) := by decide +kernel
theorem d_CR_linkThree_23 : decode b_CR_linkThree 23 = .ok (.invokevirtual 38, 3) := by decide +kernel
theorem d_CR_linkThree_26 : decode b_CR_linkThree 26 = .ok (.return_, 1) := by decide +kernel
theorem d_CR_point_0 : decode b_CR_point 0 = .ok (.iload_n 1, 1) := by decide +kernel
theorem d_CR_point_1 : decode b_CR_point 1 = .ok (.invokestatic 35, 3) := by decide +kernel
theorem d_CR_point_4 : decode b_CR_point 4 = .ok (.istore_n 3, 1) := by decide +kernel
theorem d_CR_point_5 : decode b_CR_point 5 = .ok (.iload_n 3, 1) := by decide +kernel
theorem d_CR_point_6 : decode b_CR_point 6 = .ok (.ifCond .lt 10, 3) := by decide +kernel
theorem d_CR_point_9 : decode b_CR_point 9 = .ok (.aload_n 0, 1) := by decide +kernel
theorem d_CR_point_10 : decode b_CR_point 10 = .ok (.getfield 13, 3) := by decide +kernel
theorem d_CR_point_13 : decode b_CR_point 13 = .ok (.iload_n 3, 1) := by decide +kernel
theorem d_CR_point_14 : decode b_CR_point 14 = .ok (.iload_n 2, 1) := by decide +kernel
theorem d_CR_point_15 : decode b_CR_point 15 = .ok (.iastore, 1) := by decide +kernel
theorem d_CR_point_16 : decode b_CR_point 16 = .ok (.return_, 1) := by decide +kernel
theorem d_RG_init_0 : decode b_RG_init 0 = .ok (.aload_n 0, 1) := by decide +kernel
theorem d_RG_init_1 : decode b_RG_init 1 = .ok (.invokespecial 1, 3) := by decide +kernel
theorem d_RG_init_4 : decode b_RG_init 4 = .ok (.aload_n 0, 1) := by decide +kernel
theorem d_RG_init_5 : decode b_RG_init 5 = .ok (.sipush 2048, 3) := by decide +kernel
theorem d_RG_init_8 : decode b_RG_init 8 = .ok (.newarray .int, 2) := by decide +kernel
theorem d_RG_init_10 : decode b_RG_init 10 = .ok (.putfield 9, 3) := by decide +kernel
theorem d_RG_init_13 : decode b_RG_init 13 = .ok (.aload_n 0, 1) := by decide +kernel
theorem d_RG_init_14 : decode b_RG_init 14 = .ok (.iconst 0, 1) := by decide +kernel
theorem d_RG_init_15 : decode b_RG_init 15 = .ok (.putfield 13, 3) := by decide +kernel
theorem d_RG_init_18 : decode b_RG_init 18 = .ok (.return_, 1) := by decide +kernel
theorem d_RG_empty_0 : decode b_RG_empty 0 = .ok (.aload_n 0, 1) := by decide +kernel
theorem d_RG_empty_1 : decode b_RG_empty 1 = .ok (.iconst 0, 1) := by decide +kernel
theorem d_RG_empty_2 : decode b_RG_empty 2 = .ok (.putfield 13, 3) := by decide +kernel
theorem d_RG_empty_5 : decode b_RG_empty 5 = .ok (.return_, 1) := by decide +kernel
theorem d_RG_rangeCount_0 : decode b_RG_rangeCount 0 = .ok (.aload_n 0, 1) := by decide +kernel
theorem d_RG_rangeCount_1 : decode b_RG_rangeCount 1 = .ok (.getfield 13, 3) := by decide +kernel
theorem d_RG_rangeCount_4 : decode b_RG_rangeCount 4 = .ok (.iconst 2, 1) := by decide +kernel
theorem d_RG_rangeCount_5 : decode b_RG_rangeCount 5 = .ok (.idiv, 1) := by decide +kernel
theorem d_RG_rangeCount_6 : decode b_RG_rangeCount 6 = .ok (.ireturn, 1) := by decide +kernel
theorem d_RG_lowOf_0 : decode b_RG_lowOf 0 = .ok (.aload_n 0, 1) := by decide +kernel
theorem d_RG_lowOf_1 : decode b_RG_lowOf 1 = .ok (.getfield 9, 3) := by decide +kernel
theorem d_RG_lowOf_4 : decode b_RG_lowOf 4 = .ok (.iconst 2, 1) := by decide +kernel
theorem d_RG_lowOf_5 : decode b_RG_lowOf 5 = .ok (.iload_n 1, 1) := by decide +kernel
theorem d_RG_lowOf_6 : decode b_RG_lowOf 6 = .ok (.imul, 1) := by decide +kernel
theorem d_RG_lowOf_7 : decode b_RG_lowOf 7 = .ok (.iaload, 1) := by decide +kernel
theorem d_RG_lowOf_8 : decode b_RG_lowOf 8 = .ok (.ireturn, 1) := by decide +kernel
theorem d_RG_highOf_0 : decode b_RG_highOf 0 = .ok (.aload_n 0, 1) := by decide +kernel
theorem d_RG_highOf_1 : decode b_RG_highOf 1 = .ok (.getfield 9, 3) := by decide +kernel
theorem d_RG_highOf_4 : decode b_RG_highOf 4 = .ok (.iconst 2, 1) := by decide +kernel
theorem d_RG_highOf_5 : decode b_RG_highOf 5 = .ok (.iload_n 1, 1) := by decide +kernel
theorem d_RG_highOf_6 : decode b_RG_highOf 6 = .ok (.imul, 1) := by decide +kernel
theorem d_RG_highOf_7 : decode b_RG_highOf 7 = .ok (.iconst 1, 1) := by decide +kernel
theorem d_RG_highOf_8 : decode b_RG_highOf 8 = .ok (.iadd, 1) := by decide +kernel
theorem d_RG_highOf_9 : decode b_RG_highOf 9 = .ok (.iaload, 1) := by decide +kernel
theorem d_RG_highOf_10 : decode b_RG_highOf 10 = .ok (.iconst 1, 1) := by decide +kernel
theorem d_RG_highOf_11 : decode b_RG_highOf 11 = .ok (.isub, 1) := by decide +kernel
theorem d_RG_highOf_12 : decode b_RG_highOf 12 = .ok (.ireturn, 1) := by decide +kernel
theorem d_RG_memberCount_0 : decode b_RG_memberCount 0 = .ok (.iconst 0, 1) := by decide +kernel
theorem d_RG_memberCount_1 : decode b_RG_memberCount 1 = .ok (.istore_n 1, 1) := by decide +kernel
theorem d_RG_memberCount_2 : decode b_RG_memberCount 2 = .ok (.iconst 0, 1) := by decide +kernel
theorem d_RG_memberCount_3 : decode b_RG_memberCount 3 = .ok (.istore_n 2, 1) := by decide +kernel
theorem d_RG_memberCount_4 : decode b_RG_memberCount 4 = .ok (.iload_n 2, 1) := by decide +kernel
theorem d_RG_memberCount_5 : decode b_RG_memberCount 5 = .ok (.iconst 1, 1) := by decide +kernel
theorem d_RG_memberCount_6 : decode b_RG_memberCount 6 = .ok (.iadd, 1) := by decide +kernel
theorem d_RG_memberCount_7 : decode b_RG_memberCount 7 = .ok (.aload_n 0, 1) := by decide +kernel
theorem d_RG_memberCount_8 : decode b_RG_memberCount 8 = .ok (.getfield 13, 3) := by decide +kernel
theorem d_RG_memberCount_11 : decode b_RG_memberCount 11 = .ok (.if_icmp .ge 27, 3) := by decide +kernel
theorem d_RG_memberCount_14 : decode b_RG_memberCount 14 = .ok (.iload_n 1, 1) := by decide +kernel
theorem d_RG_memberCount_15 : decode b_RG_memberCount 15 = .ok (.aload_n 0, 1) := by decide +kernel
theorem d_RG_memberCount_16 : decode b_RG_memberCount 16 = .ok (.getfield 9, 3) := by decide +kernel
theorem d_RG_memberCount_19 : decode b_RG_memberCount 19 = .ok (.iload_n 2, 1) := by decide +kernel
theorem d_RG_memberCount_20 : decode b_RG_memberCount 20 = .ok (.iconst 1, 1) := by decide +kernel
theorem d_RG_memberCount_21 : decode b_RG_memberCount 21 = .ok (.iadd, 1) := by decide +kernel
theorem d_RG_memberCount_22 : decode b_RG_memberCount 22 = .ok (.iaload, 1) := by decide +kernel
theorem d_RG_memberCount_23 : decode b_RG_memberCount 23 = .ok (.aload_n 0, 1) := by decide +kernel
theorem d_RG_memberCount_24 : decode b_RG_memberCount 24 = .ok (.getfield 9, 3) := by decide +kernel
theorem d_RG_memberCount_27 : decode b_RG_memberCount 27 = .ok (.iload_n 2, 1) := by decide +kernel
theorem d_RG_memberCount_28 : decode b_RG_memberCount 28 = .ok (.iaload, 1) := by decide +kernel
theorem d_RG_memberCount_29 : decode b_RG_memberCount 29 = .ok (.isub, 1) := by decide +kernel
theorem d_RG_memberCount_30 : decode b_RG_memberCount 30 = .ok (.iadd, 1) := by decide +kernel
theorem d_RG_memberCount_31 : decode b_RG_memberCount 31 = .ok (.istore_n 1, 1) := by decide +kernel
theorem d_RG_memberCount_32 : decode b_RG_memberCount 32 = .ok (.iinc 2 2, 3) := by decide +kernel
theorem d_RG_memberCount_35 : decode b_RG_memberCount 35 = .ok (.goto (-31), 3) := by decide +kernel
theorem d_RG_memberCount_38 : decode b_RG_memberCount 38 = .ok (.iload_n 1, 1) := by decide +kernel
theorem d_RG_memberCount_39 : decode b_RG_memberCount 39 = .ok (.ireturn, 1) := by decide +kernel
theorem d_RG_contains_0 : decode b_RG_contains 0 = .ok (.aload_n 0, 1) := by decide +kernel
theorem d_RG_contains_1 : decode b_RG_contains 1 = .ok (.iload_n 1, 1) := by decide +kernel
theorem d_RG_contains_2 : decode b_RG_contains 2 = .ok (.invokevirtual 17, 3) := by decide +kernel
theorem d_RG_contains_5 : decode b_RG_contains 5 = .ok (.iconst 2, 1) := by decide +kernel
theorem d_RG_contains_6 : decode b_RG_contains 6 = .ok (.irem, 1) := by decide +kernel
theorem d_RG_contains_7 : decode b_RG_contains 7 = .ok (.iconst 1, 1) := by decide +kernel
theorem d_RG_contains_8 : decode b_RG_contains 8 = .ok (.if_icmp .ne 7, 3) := by decide +kernel
theorem d_RG_contains_11 : decode b_RG_contains 11 = .ok (.iconst 1, 1) := by decide +kernel
theorem d_RG_contains_12 : decode b_RG_contains 12 = .ok (.goto 4, 3) := by decide +kernel
theorem d_RG_contains_15 : decode b_RG_contains 15 = .ok (.iconst 0, 1) := by decide +kernel
theorem d_RG_contains_16 : decode b_RG_contains 16 = .ok (.ireturn, 1) := by decide +kernel
theorem d_RG_firstFrom_0 : decode b_RG_firstFrom 0 = .ok (.aload_n 0, 1) := by decide +kernel
theorem d_RG_firstFrom_1 : decode b_RG_firstFrom 1 = .ok (.iload_n 1, 1) := by decide +kernel
theorem d_RG_firstFrom_2 : decode b_RG_firstFrom 2 = .ok (.invokevirtual 17, 3) := by decide +kernel
theorem d_RG_firstFrom_5 : decode b_RG_firstFrom 5 = .ok (.istore_n 2, 1) := by decide +kernel
theorem d_RG_firstFrom_6 : decode b_RG_firstFrom 6 = .ok (.iload_n 2, 1) := by decide +kernel
theorem d_RG_firstFrom_7 : decode b_RG_firstFrom 7 = .ok (.iconst 2, 1) := by decide +kernel
theorem d_RG_firstFrom_8 : decode b_RG_firstFrom 8 = .ok (.irem, 1) := by decide +kernel
theorem d_RG_firstFrom_9 : decode b_RG_firstFrom 9 = .ok (.iconst 1, 1) := by decide +kernel
theorem d_RG_firstFrom_10 : decode b_RG_firstFrom 10 = .ok (.if_icmp .ne 5, 3) := by decide +kernel
theorem d_RG_firstFrom_13 : decode b_RG_firstFrom 13 = .ok (.iload_n 1, 1) := by decide +kernel
theorem d_RG_firstFrom_14 : decode b_RG_firstFrom 14 = .ok (.ireturn, 1) := by decide +kernel
theorem d_RG_firstFrom_15 : decode b_RG_firstFrom 15 = .ok (.iload_n 2, 1) := by decide +kernel
theorem d_RG_firstFrom_16 : decode b_RG_firstFrom 16 = .ok (.aload_n 0, 1) := by decide +kernel
theorem d_RG_firstFrom_17 : decode b_RG_firstFrom 17 = .ok (.getfield 13, 3) := by decide +kernel
theorem d_RG_firstFrom_20 : decode b_RG_firstFrom 20 = .ok (.if_icmp .ge 12, 3) := by decide +kernel
theorem d_RG_firstFrom_23 : decode b_RG_firstFrom 23 = .ok (.aload_n 0, 1) := by decide +kernel
theorem d_RG_firstFrom_24 : decode b_RG_firstFrom 24 = .ok (.getfield 9, 3) := by decide +kernel
theorem d_RG_firstFrom_27 : decode b_RG_firstFrom 27 = .ok (.iload_n 2, 1) := by decide +kernel
theorem d_RG_firstFrom_28 : decode b_RG_firstFrom 28 = .ok (.iaload, 1) := by decide +kernel
theorem d_RG_firstFrom_29 : decode b_RG_firstFrom 29 = .ok (.goto 4, 3) := by decide +kernel
theorem d_RG_firstFrom_32 : decode b_RG_firstFrom 32 = .ok (.iconst (-1), 1) := by decide +kernel
theorem d_RG_firstFrom_33 : decode b_RG_firstFrom 33 = .ok (.ireturn, 1) := by decide +kernel
theorem d_RG_matches_0 : decode b_RG_matches 0 = .ok (.aload_n 0, 1) := by decide +kernel
theorem d_RG_matches_1 : decode b_RG_matches 1 = .ok (.getfield 13, 3) := by decide +kernel
theorem d_RG_matches_4 : decode b_RG_matches 4 = .ok (.aload_n 1, 1) := by decide +kernel
theorem d_RG_matches_5 : decode b_RG_matches 5 = .ok (.getfield 13, 3) := by decide +kernel
theorem d_RG_matches_8 : decode b_RG_matches 8 = .ok (.if_icmp .eq 5, 3) := by decide +kernel
theorem d_RG_matches_11 : decode b_RG_matches 11 = .ok (.iconst 0, 1) := by decide +kernel
theorem d_RG_matches_12 : decode b_RG_matches 12 = .ok (.ireturn, 1) := by decide +kernel
theorem d_RG_matches_13 : decode b_RG_matches 13 = .ok (.iconst 0, 1) := by decide +kernel
theorem d_RG_matches_14 : decode b_RG_matches 14 = .ok (.istore_n 2, 1) := by decide +kernel
theorem d_RG_matches_15 : decode b_RG_matches 15 = .ok (.iload_n 2, 1) := by decide +kernel
theorem d_RG_matches_16 : decode b_RG_matches 16 = .ok (.aload_n 0, 1) := by decide +kernel
theorem d_RG_matches_17 : decode b_RG_matches 17 = .ok (.getfield 13, 3) := by decide +kernel
theorem d_RG_matches_20 : decode b_RG_matches 20 = .ok (.if_icmp .ge 26, 3) := by decide +kernel
theorem d_RG_matches_23 : decode b_RG_matches 23 = .ok (.aload_n 0, 1) := by decide +kernel
theorem d_RG_matches_24 : decode b_RG_matches 24 = .ok (.getfield 9, 3) := by decide +kernel
theorem d_RG_matches_27 : decode b_RG_matches 27 = .ok (.iload_n 2, 1) := by decide +kernel
theorem d_RG_matches_28 : decode b_RG_matches 28 = .ok (.iaload, 1) := by decide +kernel
theorem d_RG_matches_29 : decode b_RG_matches 29 = .ok (.aload_n 1, 1) := by decide +kernel
theorem d_RG_matches_30 : decode b_RG_matches 30 = .ok (.getfield 9, 3) := by decide +kernel
theorem d_RG_matches_33 : decode b_RG_matches 33 = .ok (.iload_n 2, 1) := by decide +kernel
theorem d_RG_matches_34 : decode b_RG_matches 34 = .ok (.iaload, 1) := by decide +kernel
theorem d_RG_matches_35 : decode b_RG_matches 35 = .ok (.if_icmp .eq 5, 3) := by decide +kernel
theorem d_RG_matches_38 : decode b_RG_matches 38 = .ok (.iconst 0, 1) := by decide +kernel
theorem d_RG_matches_39 : decode b_RG_matches 39 = .ok (.ireturn, 1) := by decide +kernel
theorem d_RG_matches_40 : decode b_RG_matches 40 = .ok (.iinc 2 1, 3) := by decide +kernel
theorem d_RG_matches_43 : decode b_RG_matches 43 = .ok (.goto (-28), 3) := by decide +kernel
theorem d_RG_matches_46 : decode b_RG_matches 46 = .ok (.iconst 1, 1) := by decide +kernel
theorem d_RG_matches_47 : decode b_RG_matches 47 = .ok (.ireturn, 1) := by decide +kernel
theorem d_RG_overlaps_0 : decode b_RG_overlaps 0 = .ok (.iconst 0, 1) := by decide +kernel
theorem d_RG_overlaps_1 : decode b_RG_overlaps 1 = .ok (.istore_n 2, 1) := by decide +kernel
theorem d_RG_overlaps_2 : decode b_RG_overlaps 2 = .ok (.iload_n 2, 1) := by decide +kernel
theorem d_RG_overlaps_3 : decode b_RG_overlaps 3 = .ok (.aload_n 0, 1) := by decide +kernel
theorem d_RG_overlaps_4 : decode b_RG_overlaps 4 = .ok (.invokevirtual 21, 3) := by decide +kernel
theorem d_RG_overlaps_7 : decode b_RG_overlaps 7 = .ok (.if_icmp .ge 34, 3) := by decide +kernel
theorem d_RG_overlaps_10 : decode b_RG_overlaps 10 = .ok (.aload_n 1, 1) := by decide +kernel
theorem d_RG_overlaps_11 : decode b_RG_overlaps 11 = .ok (.aload_n 0, 1) := by decide +kernel
theorem d_RG_overlaps_12 : decode b_RG_overlaps 12 = .ok (.iload_n 2, 1) := by decide +kernel
theorem d_RG_overlaps_13 : decode b_RG_overlaps 13 = .ok (.invokevirtual 25, 3) := by decide +kernel
theorem d_RG_overlaps_16 : decode b_RG_overlaps 16 = .ok (.invokevirtual 28, 3) := by decide +kernel
theorem d_RG_overlaps_19 : decode b_RG_overlaps 19 = .ok (.istore_n 3, 1) := by decide +kernel
theorem d_RG_overlaps_20 : decode b_RG_overlaps 20 = .ok (.iload_n 3, 1) := by decide +kernel
theorem d_RG_overlaps_21 : decode b_RG_overlaps 21 = .ok (.ifCond .lt 14, 3) := by decide +kernel
theorem d_RG_overlaps_24 : decode b_RG_overlaps 24 = .ok (.iload_n 3, 1) := by decide +kernel
theorem d_RG_overlaps_25 : decode b_RG_overlaps 25 = .ok (.aload_n 0, 1) := by decide +kernel
theorem d_RG_overlaps_26 : decode b_RG_overlaps 26 = .ok (.iload_n 2, 1) := by decide +kernel
theorem d_RG_overlaps_27 : decode b_RG_overlaps 27 = .ok (.invokevirtual 31, 3) := by decide +kernel
theorem d_RG_overlaps_30 : decode b_RG_overlaps 30 = .ok (.if_icmp .gt 5, 3) := by decide +kernel
theorem d_RG_overlaps_33 : decode b_RG_overlaps 33 = .ok (.iconst 1, 1) := by decide +kernel
theorem d_RG_overlaps_34 : decode b_RG_overlaps 34 = .ok (.ireturn, 1) := by decide +kernel
theorem d_RG_overlaps_35 : decode b_RG_overlaps 35 = .ok (.iinc 2 1, 3) := by decide +kernel
theorem d_RG_overlaps_38 : decode b_RG_overlaps 38 = .ok (.goto (-36), 3) := by decide +kernel
theorem d_RG_overlaps_41 : decode b_RG_overlaps 41 = .ok (.iconst 0, 1) := by decide +kernel
theorem d_RG_overlaps_42 : decode b_RG_overlaps 42 = .ok (.ireturn, 1) := by decide +kernel
theorem d_RG_insert_0 : decode b_RG_insert 0 = .ok (.aload_n 0, 1) := by decide +kernel
theorem d_RG_insert_1 : decode b_RG_insert 1 = .ok (.iload_n 1, 1) := by decide +kernel
theorem d_RG_insert_2 : decode b_RG_insert 2 = .ok (.iconst 1, 1) := by decide +kernel
theorem d_RG_insert_3 : decode b_RG_insert 3 = .ok (.isub, 1) := by decide +kernel
theorem d_RG_insert_4 : decode b_RG_insert 4 = .ok (.invokevirtual 17, 3) := by decide +kernel
theorem d_RG_insert_7 : decode b_RG_insert 7 = .ok (.istore_n 3, 1) := by decide +kernel
theorem d_RG_insert_8 : decode b_RG_insert 8 = .ok (.aload_n 0, 1) := by decide +kernel
theorem d_RG_insert_9 : decode b_RG_insert 9 = .ok (.iload_n 2, 1) := by decide +kernel
theorem d_RG_insert_10 : decode b_RG_insert 10 = .ok (.iconst 1, 1) := by decide +kernel
theorem d_RG_insert_11 : decode b_RG_insert 11 = .ok (.iadd, 1) := by decide +kernel
theorem d_RG_insert_12 : decode b_RG_insert 12 = .ok (.invokevirtual 17, 3) := by decide +kernel
theorem d_RG_insert_15 : decode b_RG_insert 15 = .ok (.istore 4, 2) := by decide +kernel
theorem d_RG_insert_17 : decode b_RG_insert 17 = .ok (.iload_n 3, 1) := by decide +kernel
theorem d_RG_insert_18 : decode b_RG_insert 18 = .ok (.iconst 2, 1) := by decide +kernel
theorem d_RG_insert_19 : decode b_RG_insert 19 = .ok (.irem, 1) := by decide +kernel
theorem d_RG_insert_20 : decode b_RG_insert 20 = .ok (.ifCond .ne 7, 3) := by decide +kernel
theorem d_RG_insert_23 : decode b_RG_insert 23 = .ok (.iconst 1, 1) := by decide +kernel
theorem d_RG_insert_24 : decode b_RG_insert 24 = .ok (.goto 4, 3) := by decide +kernel
theorem d_RG_insert_27 : decode b_RG_insert 27 = .ok (.iconst 0, 1) := by decide +kernel
theorem d_RG_insert_28 : decode b_RG_insert 28 = .ok (.istore 5, 2) := by decide +kernel
theorem d_RG_insert_30 : decode b_RG_insert 30 = .ok (.iload 4, 2) := by decide +kernel
theorem d_RG_insert_32 : decode b_RG_insert 32 = .ok (.iconst 2, 1) := by decide +kernel
theorem d_RG_insert_33 : decode b_RG_insert 33 = .ok (.irem, 1) := by decide +kernel
theorem d_RG_insert_34 : decode b_RG_insert 34 = .ok (.ifCond .ne 7, 3) := by decide +kernel
theorem d_RG_insert_37 : decode b_RG_insert 37 = .ok (.iconst 1, 1) := by decide +kernel
theorem d_RG_insert_38 : decode b_RG_insert 38 = .ok (.goto 4, 3) := by decide +kernel
theorem d_RG_insert_41 : decode b_RG_insert 41 = .ok (.iconst 0, 1) := by decide +kernel
theorem d_RG_insert_42 : decode b_RG_insert 42 = .ok (.istore 6, 2) := by decide +kernel
theorem d_RG_insert_44 : decode b_RG_insert 44 = .ok (.iload_n 3, 1) := by decide +kernel
theorem d_RG_insert_45 : decode b_RG_insert 45 = .ok (.iload 5, 2) := by decide +kernel
theorem d_RG_insert_47 : decode b_RG_insert 47 = .ok (.ifCond .eq 7, 3) := by decide +kernel
theorem d_RG_insert_50 : decode b_RG_insert 50 = .ok (.iconst 1, 1) := by decide +kernel
theorem d_RG_insert_51 : decode b_RG_insert 51 = .ok (.goto 4, 3) := by decide +kernel
theorem d_RG_insert_54 : decode b_RG_insert 54 = .ok (.iconst 0, 1) := by decide +kernel
theorem d_RG_insert_55 : decode b_RG_insert 55 = .ok (.iadd, 1) := by decide +kernel
theorem d_RG_insert_56 : decode b_RG_insert 56 = .ok (.iload 6, 2) := by decide +kernel
theorem d_RG_insert_58 : decode b_RG_insert 58 = .ok (.ifCond .eq 7, 3) := by decide +kernel
theorem d_RG_insert_61 : decode b_RG_insert 61 = .ok (.iconst 1, 1) := by decide +kernel
theorem d_RG_insert_62 : decode b_RG_insert 62 = .ok (.goto 4, 3) := by decide +kernel
theorem d_RG_insert_65 : decode b_RG_insert 65 = .ok (.iconst 0, 1) := by decide +kernel
theorem d_RG_insert_66 : decode b_RG_insert 66 = .ok (.iadd, 1) := by decide +kernel
theorem d_RG_insert_67 : decode b_RG_insert 67 = .ok (.istore 7, 2) := by decide +kernel
theorem d_RG_insert_69 : decode b_RG_insert 69 = .ok (.iload 7, 2) := by decide +kernel
theorem d_RG_insert_71 : decode b_RG_insert 71 = .ok (.aload_n 0, 1) := by decide +kernel
theorem d_RG_insert_72 : decode b_RG_insert 72 = .ok (.getfield 13, 3) := by decide +kernel
theorem d_RG_insert_75 : decode b_RG_insert 75 = .ok (.iadd, 1) := by decide +kernel
theorem d_RG_insert_76 : decode b_RG_insert 76 = .ok (.iload 4, 2) := by decide +kernel
theorem d_RG_insert_78 : decode b_RG_insert 78 = .ok (.isub, 1) := by decide +kernel
theorem d_RG_insert_79 : decode b_RG_insert 79 = .ok (.istore 8, 2) := by decide +kernel
theorem d_RG_insert_81 : decode b_RG_insert 81 = .ok (.iload 8, 2) := by decide +kernel
theorem d_RG_insert_83 : decode b_RG_insert 83 = .ok (.aload_n 0, 1) := by decide +kernel
theorem d_RG_insert_84 : decode b_RG_insert 84 = .ok (.getfield 9, 3) := by decide +kernel
theorem d_RG_insert_87 : decode b_RG_insert 87 = .ok (.arraylength, 1) := by decide +kernel
theorem d_RG_insert_88 : decode b_RG_insert 88 = .ok (.if_icmp .le 4, 3) := by decide +kernel
theorem d_RG_insert_91 : decode b_RG_insert 91 = .ok (.return_, 1) := by decide +kernel
theorem d_RG_insert_92 : decode b_RG_insert 92 = .ok (.aload_n 0, 1) := by decide +kernel
theorem d_RG_insert_93 : decode b_RG_insert 93 = .ok (.getfield 9, 3) := by decide +kernel
theorem d_RG_insert_96 : decode b_RG_insert 96 = .ok (.iload 4, 2) := by decide +kernel
theorem d_RG_insert_98 : decode b_RG_insert 98 = .ok (.aload_n 0, 1) := by decide +kernel
theorem d_RG_insert_99 : decode b_RG_insert 99 = .ok (.getfield 9, 3) := by decide +kernel
theorem d_RG_insert_102 : decode b_RG_insert 102 = .ok (.iload 7, 2) := by decide +kernel
theorem d_RG_insert_104 : decode b_RG_insert 104 = .ok (.aload_n 0, 1) := by decide +kernel
theorem d_RG_insert_105 : decode b_RG_insert 105 = .ok (.getfield 13, 3) := by decide +kernel
theorem d_RG_insert_108 : decode b_RG_insert 108 = .ok (.iload 4, 2) := by decide +kernel
theorem d_RG_insert_110 : decode b_RG_insert 110 = .ok (.isub, 1) := by decide +kernel
theorem d_RG_insert_111 : decode b_RG_insert 111 = .ok (.invokestatic 34, 3) := by decide +kernel
theorem d_RG_insert_114 : decode b_RG_insert 114 = .ok (.iload 5, 2) := by decide +kernel
theorem d_RG_insert_116 : decode b_RG_insert 116 = .ok (.ifCond .eq 10, 3) := by decide +kernel
theorem d_RG_insert_119 : decode b_RG_insert 119 = .ok (.aload_n 0, 1) := by decide +kernel
theorem d_RG_insert_120 : decode b_RG_insert 120 = .ok (.getfield 9, 3) := by decide +kernel
theorem d_RG_insert_123 : decode b_RG_insert 123 = .ok (.iload_n 3, 1) := by decide +kernel
theorem d_RG_insert_124 : decode b_RG_insert 124 = .ok (.iload_n 1, 1) := by decide +kernel
theorem d_RG_insert_125 : decode b_RG_insert 125 = .ok (.iastore, 1) := by decide +kernel
theorem d_RG_insert_126 : decode b_RG_insert 126 = .ok (.iload 6, 2) := by decide +kernel
theorem d_RG_insert_128 : decode b_RG_insert 128 = .ok (.ifCond .eq 15, 3) := by decide +kernel
theorem d_RG_insert_131 : decode b_RG_insert 131 = .ok (.aload_n 0, 1) := by decide +kernel
theorem d_RG_insert_132 : decode b_RG_insert 132 = .ok (.getfield 9, 3) := by decide +kernel
theorem d_RG_insert_135 : decode b_RG_insert 135 = .ok (.iload 7, 2) := by decide +kernel
theorem d_RG_insert_137 : decode b_RG_insert 137 = .ok (.iconst 1, 1) := by decide +kernel
theorem d_RG_insert_138 : decode b_RG_insert 138 = .ok (.isub, 1) := by decide +kernel
theorem d_RG_insert_139 : decode b_RG_insert 139 = .ok (.iload_n 2, 1) := by decide +kernel
theorem d_RG_insert_140 : decode b_RG_insert 140 = .ok (.iconst 1, 1) := by decide +kernel
theorem d_RG_insert_141 : decode b_RG_insert 141 = .ok (.iadd, 1) := by decide +kernel
theorem d_RG_insert_142 : decode b_RG_insert 142 = .ok (.iastore, 1) := by decide +kernel
theorem d_RG_insert_143 : decode b_RG_insert 143 = .ok (.aload_n 0, 1) := by decide +kernel
theorem d_RG_insert_144 : decode b_RG_insert 144 = .ok (.iload 8, 2) := by decide +kernel
theorem d_RG_insert_146 : decode b_RG_insert 146 = .ok (.putfield 13, 3) := by decide +kernel
theorem d_RG_insert_149 : decode b_RG_insert 149 = .ok (.return_, 1) := by decide +kernel
theorem d_RG_insertAll_0 : decode b_RG_insertAll 0 = .ok (.aload_n 1, 1) := by decide +kernel
theorem d_RG_insertAll_1 : decode b_RG_insertAll 1 = .ok (.aload_n 0, 1) := by decide +kernel
theorem d_RG_insertAll_2 : decode b_RG_insertAll 2 = .ok (.if_acmp .ne 4, 3) := by decide +kernel
theorem d_RG_insertAll_5 : decode b_RG_insertAll 5 = .ok (.return_, 1) := by decide +kernel
theorem d_RG_insertAll_6 : decode b_RG_insertAll 6 = .ok (.iconst 0, 1) := by decide +kernel
theorem d_RG_insertAll_7 : decode b_RG_insertAll 7 = .ok (.istore_n 2, 1) := by decide +kernel
theorem d_RG_insertAll_8 : decode b_RG_insertAll 8 = .ok (.iload_n 2, 1) := by decide +kernel
theorem d_RG_insertAll_9 : decode b_RG_insertAll 9 = .ok (.aload_n 1, 1) := by decide +kernel
theorem d_RG_insertAll_10 : decode b_RG_insertAll 10 = .ok (.invokevirtual 21, 3) := by decide +kernel
theorem d_RG_insertAll_13 : decode b_RG_insertAll 13 = .ok (.if_icmp .ge 23, 3) := by decide +kernel
theorem d_RG_insertAll_16 : decode b_RG_insertAll 16 = .ok (.aload_n 0, 1) := by decide +kernel
theorem d_RG_insertAll_17 : decode b_RG_insertAll 17 = .ok (.aload_n 1, 1) := by decide +kernel
theorem d_RG_insertAll_18 : decode b_RG_insertAll 18 = .ok (.iload_n 2, 1) := by decide +kernel
theorem d_RG_insertAll_19 : decode b_RG_insertAll 19 = .ok (.invokevirtual 25, 3) := by decide +kernel
theorem d_RG_insertAll_22 : decode b_RG_insertAll 22 = .ok (.aload_n 1, 1) := by decide +kernel
theorem d_RG_insertAll_23 : decode b_RG_insertAll 23 = .ok (.iload_n 2, 1) := by decide +kernel
theorem d_RG_insertAll_24 : decode b_RG_insertAll 24 = .ok (.invokevirtual 31, 3) := by decide +kernel
theorem d_RG_insertAll_27 : decode b_RG_insertAll 27 = .ok (.invokevirtual 40, 3) := by decide +kernel
theorem d_RG_insertAll_30 : decode b_RG_insertAll 30 = .ok (.iinc 2 1, 3) := by decide +kernel
theorem d_RG_insertAll_33 : decode b_RG_insertAll 33 = .ok (.goto (-25), 3) := by decide +kernel
theorem d_RG_insertAll_36 : decode b_RG_insertAll 36 = .ok (.return_, 1) := by decide +kernel
theorem d_RG_complement_0 : decode b_RG_complement 0 = .ok (.aload_n 0, 1) := by decide +kernel
theorem d_RG_complement_1 : decode b_RG_complement 1 = .ok (.getfield 13, 3) := by decide +kernel
theorem d_RG_complement_4 : decode b_RG_complement 4 = .ok (.iconst 2, 1) := by decide +kernel
theorem d_RG_complement_5 : decode b_RG_complement 5 = .ok (.iadd, 1) := by decide +kernel
theorem d_RG_complement_6 : decode b_RG_complement 6 = .ok (.aload_n 0, 1) := by decide +kernel
theorem d_RG_complement_7 : decode b_RG_complement 7 = .ok (.getfield 9, 3) := by decide +kernel
theorem d_RG_complement_10 : decode b_RG_complement 10 = .ok (.arraylength, 1) := by decide +kernel
theorem d_RG_complement_11 : decode b_RG_complement 11 = .ok (.if_icmp .le 4, 3) := by decide +kernel
theorem d_RG_complement_14 : decode b_RG_complement 14 = .ok (.return_, 1) := by decide +kernel
theorem d_RG_complement_15 : decode b_RG_complement 15 = .ok (.aload_n 0, 1) := by decide +kernel
theorem d_RG_complement_16 : decode b_RG_complement 16 = .ok (.getfield 13, 3) := by decide +kernel
theorem d_RG_complement_19 : decode b_RG_complement 19 = .ok (.ifCond .le 44, 3) := by decide +kernel
theorem d_RG_complement_22 : decode b_RG_complement 22 = .ok (.aload_n 0, 1) := by decide +kernel
theorem d_RG_complement_23 : decode b_RG_complement 23 = .ok (.getfield 9, 3) := by decide +kernel
theorem d_RG_complement_26 : decode b_RG_complement 26 = .ok (.iconst 0, 1) := by decide +kernel
theorem d_RG_complement_27 : decode b_RG_complement 27 = .ok (.iaload, 1) := by decide +kernel
theorem d_RG_complement_28 : decode b_RG_complement 28 = .ok (.ifCond .ne 35, 3) := by decide +kernel
theorem d_RG_complement_31 : decode b_RG_complement 31 = .ok (.aload_n 0, 1) := by decide +kernel
theorem d_RG_complement_32 : decode b_RG_complement 32 = .ok (.getfield 9, 3) := by decide +kernel
theorem d_RG_complement_35 : decode b_RG_complement 35 = .ok (.iconst 1, 1) := by decide +kernel
theorem d_RG_complement_36 : decode b_RG_complement 36 = .ok (.aload_n 0, 1) := by decide +kernel
theorem d_RG_complement_37 : decode b_RG_complement 37 = .ok (.getfield 9, 3) := by decide +kernel
theorem d_RG_complement_40 : decode b_RG_complement 40 = .ok (.iconst 0, 1) := by decide +kernel
theorem d_RG_complement_41 : decode b_RG_complement 41 = .ok (.aload_n 0, 1) := by decide +kernel
theorem d_RG_complement_42 : decode b_RG_complement 42 = .ok (.getfield 13, 3) := by decide +kernel
theorem d_RG_complement_45 : decode b_RG_complement 45 = .ok (.iconst 1, 1) := by decide +kernel
theorem d_RG_complement_46 : decode b_RG_complement 46 = .ok (.isub, 1) := by decide +kernel
theorem d_RG_complement_47 : decode b_RG_complement 47 = .ok (.invokestatic 34, 3) := by decide +kernel
theorem d_RG_complement_50 : decode b_RG_complement 50 = .ok (.aload_n 0, 1) := by decide +kernel
theorem d_RG_complement_51 : decode b_RG_complement 51 = .ok (.dup, 1) := by decide +kernel
theorem d_RG_complement_52 : decode b_RG_complement 52 = .ok (.getfield 13, 3) := by decide +kernel
theorem d_RG_complement_55 : decode b_RG_complement 55 = .ok (.iconst 1, 1) := by decide +kernel
theorem d_RG_complement_56 : decode b_RG_complement 56 = .ok (.isub, 1) := by decide +kernel
theorem d_RG_complement_57 : decode b_RG_complement 57 = .ok (.putfield 13, 3) := by decide +kernel
theorem d_RG_complement_60 : decode b_RG_complement 60 = .ok (.goto 37, 3) := by decide +kernel
theorem d_RG_complement_63 : decode b_RG_complement 63 = .ok (.aload_n 0, 1) := by decide +kernel
theorem d_RG_complement_64 : decode b_RG_complement 64 = .ok (.getfield 9, 3) := by decide +kernel
theorem d_RG_complement_67 : decode b_RG_complement 67 = .ok (.iconst 0, 1) := by decide +kernel
theorem d_RG_complement_68 : decode b_RG_complement 68 = .ok (.aload_n 0, 1) := by decide +kernel
theorem d_RG_complement_69 : decode b_RG_complement 69 = .ok (.getfield 9, 3) := by decide +kernel
theorem d_RG_complement_72 : decode b_RG_complement 72 = .ok (.iconst 1, 1) := by decide +kernel
theorem d_RG_complement_73 : decode b_RG_complement 73 = .ok (.aload_n 0, 1) := by decide +kernel
theorem d_RG_complement_74 : decode b_RG_complement 74 = .ok (.getfield 13, 3) := by decide +kernel
theorem d_RG_complement_77 : decode b_RG_complement 77 = .ok (.invokestatic 34, 3) := by decide +kernel
theorem d_RG_complement_80 : decode b_RG_complement 80 = .ok (.aload_n 0, 1) := by decide +kernel
theorem d_RG_complement_81 : decode b_RG_complement 81 = .ok (.getfield 9, 3) := by decide +kernel
theorem d_RG_complement_84 : decode b_RG_complement 84 = .ok (.iconst 0, 1) := by decide +kernel
theorem d_RG_complement_85 : decode b_RG_complement 85 = .ok (.iconst 0, 1) := by decide +kernel
theorem d_RG_complement_86 : decode b_RG_complement 86 = .ok (.iastore, 1) := by decide +kernel
theorem d_RG_complement_87 : decode b_RG_complement 87 = .ok (.aload_n 0, 1) := by decide +kernel
theorem d_RG_complement_88 : decode b_RG_complement 88 = .ok (.dup, 1) := by decide +kernel
theorem d_RG_complement_89 : decode b_RG_complement 89 = .ok (.getfield 13, 3) := by decide +kernel
theorem d_RG_complement_92 : decode b_RG_complement 92 = .ok (.iconst 1, 1) := by decide +kernel
theorem d_RG_complement_93 : decode b_RG_complement 93 = .ok (.iadd, 1) := by decide +kernel
theorem d_RG_complement_94 : decode b_RG_complement 94 = .ok (.putfield 13, 3) := by decide +kernel
theorem d_RG_complement_97 : decode b_RG_complement 97 = .ok (.aload_n 0, 1) := by decide +kernel
theorem d_RG_complement_98 : decode b_RG_complement 98 = .ok (.getfield 13, 3) := by decide +kernel
theorem d_RG_complement_101 : decode b_RG_complement 101 = .ok (.ifCond .le 33, 3) := by decide +kernel
theorem d_RG_complement_104 : decode b_RG_complement 104 = .ok (.aload_n 0, 1) := by decide +kernel
theorem d_RG_complement_105 : decode b_RG_complement 105 = .ok (.getfield 9, 3) := by decide +kernel
theorem d_RG_complement_108 : decode b_RG_complement 108 = .ok (.aload_n 0, 1) := by decide +kernel
theorem d_RG_complement_109 : decode b_RG_complement 109 = .ok (.getfield 13, 3) := by decide +kernel
theorem d_RG_complement_112 : decode b_RG_complement 112 = .ok (.iconst 1, 1) := by decide +kernel
theorem d_RG_complement_113 : decode b_RG_complement 113 = .ok (.isub, 1) := by decide +kernel
theorem d_RG_complement_114 : decode b_RG_complement 114 = .ok (.iaload, 1) := by decide +kernel
theorem d_RG_complement_115 : decode b_RG_complement 115 = .ok (.iload_n 1, 1) := by decide +kernel
theorem d_RG_complement_116 : decode b_RG_complement 116 = .ok (.iconst 1, 1) := by decide +kernel
theorem d_RG_complement_117 : decode b_RG_complement 117 = .ok (.iadd, 1) := by decide +kernel
theorem d_RG_complement_118 : decode b_RG_complement 118 = .ok (.if_icmp .ne 16, 3) := by decide +kernel
theorem d_RG_complement_121 : decode b_RG_complement 121 = .ok (.aload_n 0, 1) := by decide +kernel
theorem d_RG_complement_122 : decode b_RG_complement 122 = .ok (.dup, 1) := by decide +kernel
theorem d_RG_complement_123 : decode b_RG_complement 123 = .ok (.getfield 13, 3) := by decide +kernel
theorem d_RG_complement_126 : decode b_RG_complement 126 = .ok (.iconst 1, 1) := by decide +kernel
theorem d_RG_complement_127 : decode b_RG_complement 127 = .ok (.isub, 1) := by decide +kernel
theorem d_RG_complement_128 : decode b_RG_complement 128 = .ok (.putfield 13, 3) := by decide +kernel
theorem d_RG_complement_131 : decode b_RG_complement 131 = .ok (.goto 25, 3) := by decide +kernel
theorem d_RG_complement_134 : decode b_RG_complement 134 = .ok (.aload_n 0, 1) := by decide +kernel
theorem d_RG_complement_135 : decode b_RG_complement 135 = .ok (.getfield 9, 3) := by decide +kernel
theorem d_RG_complement_138 : decode b_RG_complement 138 = .ok (.aload_n 0, 1) := by decide +kernel
theorem d_RG_complement_139 : decode b_RG_complement 139 = .ok (.getfield 13, 3) := by decide +kernel
theorem d_RG_complement_142 : decode b_RG_complement 142 = .ok (.iload_n 1, 1) := by decide +kernel
theorem d_RG_complement_143 : decode b_RG_complement 143 = .ok (.iconst 1, 1) := by decide +kernel
theorem d_RG_complement_144 : decode b_RG_complement 144 = .ok (.iadd, 1) := by decide +kernel
theorem d_RG_complement_145 : decode b_RG_complement 145 = .ok (.iastore, 1) := by decide +kernel
theorem d_RG_complement_146 : decode b_RG_complement 146 = .ok (.aload_n 0, 1) := by decide +kernel
theorem d_RG_complement_147 : decode b_RG_complement 147 = .ok (.dup, 1) := by decide +kernel
theorem d_RG_complement_148 : decode b_RG_complement 148 = .ok (.getfield 13, 3) := by decide +kernel
theorem d_RG_complement_151 : decode b_RG_complement 151 = .ok (.iconst 1, 1) := by decide +kernel
theorem d_RG_complement_152 : decode b_RG_complement 152 = .ok (.iadd, 1) := by decide +kernel
theorem d_RG_complement_153 : decode b_RG_complement 153 = .ok (.putfield 13, 3) := by decide +kernel
theorem d_RG_complement_156 : decode b_RG_complement 156 = .ok (.return_, 1) := by decide +kernel
theorem d_RG_edgesUpTo_0 : decode b_RG_edgesUpTo 0 = .ok (.iconst 0, 1) := by decide +kernel
theorem d_RG_edgesUpTo_1 : decode b_RG_edgesUpTo 1 = .ok (.istore_n 2, 1) := by decide +kernel
theorem d_RG_edgesUpTo_2 : decode b_RG_edgesUpTo 2 = .ok (.sipush 2048, 3) := by decide +kernel
theorem d_RG_edgesUpTo_5 : decode b_RG_edgesUpTo 5 = .ok (.istore_n 3, 1) := by decide +kernel
theorem d_RG_edgesUpTo_6 : decode b_RG_edgesUpTo 6 = .ok (.iload_n 3, 1) := by decide +kernel
theorem d_RG_edgesUpTo_7 : decode b_RG_edgesUpTo 7 = .ok (.ifCond .le 40, 3) := by decide +kernel
theorem d_RG_edgesUpTo_10 : decode b_RG_edgesUpTo 10 = .ok (.iload_n 2, 1) := by decide +kernel
theorem d_RG_edgesUpTo_11 : decode b_RG_edgesUpTo 11 = .ok (.iload_n 3, 1) := by decide +kernel
theorem d_RG_edgesUpTo_12 : decode b_RG_edgesUpTo 12 = .ok (.iadd, 1) := by decide +kernel
theorem d_RG_edgesUpTo_13 : decode b_RG_edgesUpTo 13 = .ok (.istore 4, 2) := by decide +kernel
theorem d_RG_edgesUpTo_15 : decode b_RG_edgesUpTo 15 = .ok (.iload 4, 2) := by decide +kernel
theorem d_RG_edgesUpTo_17 : decode b_RG_edgesUpTo 17 = .ok (.aload_n 0, 1) := by decide +kernel
theorem d_RG_edgesUpTo_18 : decode b_RG_edgesUpTo 18 = .ok (.getfield 13, 3) := by decide +kernel
theorem d_RG_edgesUpTo_21 : decode b_RG_edgesUpTo 21 = .ok (.if_icmp .gt 19, 3) := by decide +kernel
theorem d_RG_edgesUpTo_24 : decode b_RG_edgesUpTo 24 = .ok (.aload_n 0, 1) := by decide +kernel
theorem d_RG_edgesUpTo_25 : decode b_RG_edgesUpTo 25 = .ok (.getfield 9, 3) := by decide +kernel
theorem d_RG_edgesUpTo_28 : decode b_RG_edgesUpTo 28 = .ok (.iload 4, 2) := by decide +kernel
theorem d_RG_edgesUpTo_30 : decode b_RG_edgesUpTo 30 = .ok (.iconst 1, 1) := by decide +kernel
theorem d_RG_edgesUpTo_31 : decode b_RG_edgesUpTo 31 = .ok (.isub, 1) := by decide +kernel
theorem d_RG_edgesUpTo_32 : decode b_RG_edgesUpTo 32 = .ok (.iaload, 1) := by decide +kernel
theorem d_RG_edgesUpTo_33 : decode b_RG_edgesUpTo 33 = .ok (.iload_n 1, 1) := by decide +kernel
theorem d_RG_edgesUpTo_34 : decode b_RG_edgesUpTo 34 = .ok (.if_icmp .gt 6, 3) := by decide +kernel
theorem d_RG_edgesUpTo_37 : decode b_RG_edgesUpTo 37 = .ok (.iload 4, 2) := by decide +kernel
theorem d_RG_edgesUpTo_39 : decode b_RG_edgesUpTo 39 = .ok (.istore_n 2, 1) := by decide +kernel
theorem d_RG_edgesUpTo_40 : decode b_RG_edgesUpTo 40 = .ok (.iload_n 3, 1) := by decide +kernel
theorem d_RG_edgesUpTo_41 : decode b_RG_edgesUpTo 41 = .ok (.iconst 2, 1) := by decide +kernel
theorem d_RG_edgesUpTo_42 : decode b_RG_edgesUpTo 42 = .ok (.idiv, 1) := by decide +kernel
theorem d_RG_edgesUpTo_43 : decode b_RG_edgesUpTo 43 = .ok (.istore_n 3, 1) := by decide +kernel
theorem d_RG_edgesUpTo_44 : decode b_RG_edgesUpTo 44 = .ok (.goto (-38), 3) := by decide +kernel
theorem d_RG_edgesUpTo_47 : decode b_RG_edgesUpTo 47 = .ok (.iload_n 2, 1) := by decide +kernel
theorem d_RG_edgesUpTo_48 : decode b_RG_edgesUpTo 48 = .ok (.ireturn, 1) := by decide +kernel
theorem d_TB_init_0 : decode b_TB_init 0 = .ok (.aload_n 0, 1) := by decide +kernel
theorem d_TB_init_1 : decode b_TB_init 1 = .ok (.invokespecial 3, 3) := by decide +kernel
theorem d_TB_init_4 : decode b_TB_init 4 = .ok (.aload_n 0, 1) := by decide +kernel
theorem d_TB_init_5 : decode b_TB_init 5 = .ok (.sipush 512, 3) := by decide +kernel
theorem d_TB_init_8 : decode b_TB_init 8 = .ok (.newarray .int, 2) := by decide +kernel
theorem d_TB_init_10 : decode b_TB_init 10 = .ok (.putfield 11, 3) := by decide +kernel
theorem d_TB_init_13 : decode b_TB_init 13 = .ok (.aload_n 0, 1) := by decide +kernel
theorem d_TB_init_14 : decode b_TB_init 14 = .ok (.sipush 512, 3) := by decide +kernel
theorem d_TB_init_17 : decode b_TB_init 17 = .ok (.newarray .int, 2) := by decide +kernel
theorem d_TB_init_19 : decode b_TB_init 19 = .ok (.putfield 15, 3) := by decide +kernel
theorem d_TB_init_22 : decode b_TB_init 22 = .ok (.aload_n 0, 1) := by decide +kernel
theorem d_TB_init_23 : decode b_TB_init 23 = .ok (.sipush 512, 3) := by decide +kernel
theorem d_TB_init_26 : decode b_TB_init 26 = .ok (.newarray .int, 2) := by decide +kernel
theorem d_TB_init_28 : decode b_TB_init 28 = .ok (.putfield 18, 3) := by decide +kernel
theorem d_TB_init_31 : decode b_TB_init 31 = .ok (.aload_n 0, 1) := by decide +kernel
theorem d_TB_init_32 : decode b_TB_init 32 = .ok (.iconst 0, 1) := by decide +kernel
theorem d_TB_init_33 : decode b_TB_init 33 = .ok (.putfield 21, 3) := by decide +kernel
theorem d_TB_init_36 : decode b_TB_init 36 = .ok (.iconst 0, 1) := by decide +kernel
theorem d_TB_init_37 : decode b_TB_init 37 = .ok (.istore_n 1, 1) := by decide +kernel
theorem d_TB_init_38 : decode b_TB_init 38 = .ok (.iconst 0, 1) := by decide +kernel
theorem d_TB_init_39 : decode b_TB_init 39 = .ok (.istore_n 2, 1) := by decide +kernel
theorem d_TB_init_40 : decode b_TB_init 40 = .ok (.iload_n 2, 1) := by decide +kernel
theorem d_TB_init_41 : decode b_TB_init 41 = .ok (.iconst 2, 1) := by decide +kernel
theorem d_TB_init_42 : decode b_TB_init 42 = .ok (.iadd, 1) := by decide +kernel
theorem d_TB_init_43 : decode b_TB_init 43 = .ok (.getstatic 25, 3) := by decide +kernel
theorem d_TB_init_46 : decode b_TB_init 46 = .ok (.arraylength, 1) := by decide +kernel
theorem d_TB_init_47 : decode b_TB_init 47 = .ok (.if_icmp .ge 49, 3) := by decide +kernel
theorem d_TB_init_50 : decode b_TB_init 50 = .ok (.getstatic 25, 3) := by decide +kernel
theorem d_TB_init_53 : decode b_TB_init 53 = .ok (.iload_n 2, 1) := by decide +kernel
theorem d_TB_init_54 : decode b_TB_init 54 = .ok (.iaload, 1) := by decide +kernel
theorem d_TB_init_55 : decode b_TB_init 55 = .ok (.istore_n 3, 1) := by decide +kernel
theorem d_TB_init_56 : decode b_TB_init 56 = .ok (.iload_n 1, 1) := by decide +kernel
theorem d_TB_init_57 : decode b_TB_init 57 = .ok (.iload_n 3, 1) := by decide +kernel
theorem d_TB_init_58 : decode b_TB_init 58 = .ok (.if_icmp .ge 9, 3) := by decide +kernel
theorem d_TB_init_61 : decode b_TB_init 61 = .ok (.aload_n 0, 1) := by decide +kernel
theorem d_TB_init_62 : decode b_TB_init 62 = .ok (.iload_n 1, 1) := by decide +kernel
theorem d_TB_init_63 : decode b_TB_init 63 = .ok (.iconst 0, 1) := by decide +kernel
theorem d_TB_init_64 : decode b_TB_init 64 = .ok (.invokevirtual 28, 3) := by decide +kernel
theorem d_TB_init_67 : decode b_TB_init 67 = .ok (.getstatic 25, 3) := by decide +kernel
theorem d_TB_init_70 : decode b_TB_init 70 = .ok (.iload_n 2, 1) := by decide +kernel
theorem d_TB_init_71 : decode b_TB_init 71 = .ok (.iconst 1, 1) := by decide +kernel
theorem d_TB_init_72 : decode b_TB_init 72 = .ok (.iadd, 1) := by decide +kernel
theorem d_TB_init_73 : decode b_TB_init 73 = .ok (.iaload, 1) := by decide +kernel
theorem d_TB_init_74 : decode b_TB_init 74 = .ok (.iconst 1, 1) := by decide +kernel
theorem d_TB_init_75 : decode b_TB_init 75 = .ok (.iadd, 1) := by decide +kernel
theorem d_TB_init_76 : decode b_TB_init 76 = .ok (.istore_n 1, 1) := by decide +kernel
theorem d_TB_init_77 : decode b_TB_init 77 = .ok (.aload_n 0, 1) := by decide +kernel
theorem d_TB_init_78 : decode b_TB_init 78 = .ok (.iload_n 3, 1) := by decide +kernel
theorem d_TB_init_79 : decode b_TB_init 79 = .ok (.iload_n 1, 1) := by decide +kernel
theorem d_TB_init_80 : decode b_TB_init 80 = .ok (.getstatic 25, 3) := by decide +kernel
theorem d_TB_init_83 : decode b_TB_init 83 = .ok (.iload_n 2, 1) := by decide +kernel
theorem d_TB_init_84 : decode b_TB_init 84 = .ok (.iconst 2, 1) := by decide +kernel
theorem d_TB_init_85 : decode b_TB_init 85 = .ok (.iadd, 1) := by decide +kernel
theorem d_TB_init_86 : decode b_TB_init 86 = .ok (.iaload, 1) := by decide +kernel
theorem d_TB_init_87 : decode b_TB_init 87 = .ok (.invokevirtual 32, 3) := by decide +kernel
theorem d_TB_init_90 : decode b_TB_init 90 = .ok (.iinc 2 3, 3) := by decide +kernel
theorem d_TB_init_93 : decode b_TB_init 93 = .ok (.goto (-53), 3) := by decide +kernel
theorem d_TB_init_96 : decode b_TB_init 96 = .ok (.aload_n 0, 1) := by decide +kernel
theorem d_TB_init_97 : decode b_TB_init 97 = .ok (.iload_n 1, 1) := by decide +kernel
theorem d_TB_init_98 : decode b_TB_init 98 = .ok (.iconst 0, 1) := by decide +kernel
theorem d_TB_init_99 : decode b_TB_init 99 = .ok (.invokevirtual 28, 3) := by decide +kernel
theorem d_TB_init_102 : decode b_TB_init 102 = .ok (.return_, 1) := by decide +kernel
theorem d_TB_pieceCount_0 : decode b_TB_pieceCount 0 = .ok (.aload_n 0, 1) := by decide +kernel
theorem d_TB_pieceCount_1 : decode b_TB_pieceCount 1 = .ok (.getfield 21, 3) := by decide +kernel
theorem d_TB_pieceCount_4 : decode b_TB_pieceCount 4 = .ok (.ireturn, 1) := by decide +kernel
theorem d_TB_pieceLow_0 : decode b_TB_pieceLow 0 = .ok (.aload_n 0, 1) := by decide +kernel
theorem d_TB_pieceLow_1 : decode b_TB_pieceLow 1 = .ok (.getfield 11, 3) := by decide +kernel
theorem d_TB_pieceLow_4 : decode b_TB_pieceLow 4 = .ok (.iload_n 1, 1) := by decide +kernel
theorem d_TB_pieceLow_5 : decode b_TB_pieceLow 5 = .ok (.iaload, 1) := by decide +kernel
theorem d_TB_pieceLow_6 : decode b_TB_pieceLow 6 = .ok (.ireturn, 1) := by decide +kernel
theorem d_TB_pieceHigh_0 : decode b_TB_pieceHigh 0 = .ok (.iload_n 1, 1) := by decide +kernel
theorem d_TB_pieceHigh_1 : decode b_TB_pieceHigh 1 = .ok (.iconst 1, 1) := by decide +kernel
theorem d_TB_pieceHigh_2 : decode b_TB_pieceHigh 2 = .ok (.iadd, 1) := by decide +kernel
theorem d_TB_pieceHigh_3 : decode b_TB_pieceHigh 3 = .ok (.aload_n 0, 1) := by decide +kernel
theorem d_TB_pieceHigh_4 : decode b_TB_pieceHigh 4 = .ok (.getfield 21, 3) := by decide +kernel
theorem d_TB_pieceHigh_7 : decode b_TB_pieceHigh 7 = .ok (.if_icmp .ge 16, 3) := by decide +kernel
theorem d_TB_pieceHigh_10 : decode b_TB_pieceHigh 10 = .ok (.aload_n 0, 1) := by decide +kernel
theorem d_TB_pieceHigh_11 : decode b_TB_pieceHigh 11 = .ok (.getfield 11, 3) := by decide +kernel
theorem d_TB_pieceHigh_14 : decode b_TB_pieceHigh 14 = .ok (.iload_n 1, 1) := by decide +kernel
theorem d_TB_pieceHigh_15 : decode b_TB_pieceHigh 15 = .ok (.iconst 1, 1) := by decide +kernel
theorem d_TB_pieceHigh_16 : decode b_TB_pieceHigh 16 = .ok (.iadd, 1) := by decide +kernel
theorem d_TB_pieceHigh_17 : decode b_TB_pieceHigh 17 = .ok (.iaload, 1) := by decide +kernel
theorem d_TB_pieceHigh_18 : decode b_TB_pieceHigh 18 = .ok (.iconst 1, 1) := by decide +kernel
theorem d_TB_pieceHigh_19 : decode b_TB_pieceHigh 19 = .ok (.isub, 1) := by decide +kernel
theorem d_TB_pieceHigh_20 : decode b_TB_pieceHigh 20 = .ok (.goto 5, 3) := by decide +kernel
theorem d_TB_pieceHigh_23 : decode b_TB_pieceHigh 23 = .ok (.ldc 36, 2) := by decide +kernel
theorem d_TB_pieceHigh_25 : decode b_TB_pieceHigh 25 = .ok (.ireturn, 1) := by decide +kernel
theorem d_TB_pieceCategory_0 : decode b_TB_pieceCategory 0 = .ok (.aload_n 0, 1) := by decide +kernel
theorem d_TB_pieceCategory_1 : decode b_TB_pieceCategory 1 = .ok (.getfield 15, 3) := by decide +kernel
theorem d_TB_pieceCategory_4 : decode b_TB_pieceCategory 4 = .ok (.iload_n 1, 1) := by decide +kernel
theorem d_TB_pieceCategory_5 : decode b_TB_pieceCategory 5 = .ok (.iaload, 1) := by decide +kernel
theorem d_TB_pieceCategory_6 : decode b_TB_pieceCategory 6 = .ok (.ireturn, 1) := by decide +kernel
end
section
theorem d_TB_pieceScript_0 : decode b_TB_pieceScript 0 = .ok (.aload_n 0, 1) := by decide +kernel
theorem d_TB_pieceScript_1 : decode b_TB_pieceScript 1 = .ok (.getfield 18, 3) := by decide +kernel
theorem d_TB_pieceScript_4 : decode b_TB_pieceScript 4 = .ok (.iload_n 1, 1) := by decide +kernel
theorem d_TB_pieceScript_5 : decode b_TB_pieceScript 5 = .ok (.iaload, 1) := by decide +kernel
theorem d_TB_pieceScript_6 : decode b_TB_pieceScript 6 = .ok (.ireturn, 1) := by decide +kernel
theorem d_TB_categoryOf_0 : decode b_TB_categoryOf 0 = .ok (.aload_n 0, 1) := by decide +kernel
theorem d_TB_categoryOf_1 : decode b_TB_categoryOf 1 = .ok (.getfield 15, 3) := by decide +kernel
theorem d_TB_categoryOf_4 : decode b_TB_categoryOf 4 = .ok (.aload_n 0, 1) := by decide +kernel
theorem d_TB_categoryOf_5 : decode b_TB_categoryOf 5 = .ok (.iload_n 1, 1) := by decide +kernel
theorem d_TB_categoryOf_6 : decode b_TB_categoryOf 6 = .ok (.invokevirtual 37, 3) := by decide +kernel
theorem d_TB_categoryOf_9 : decode b_TB_categoryOf 9 = .ok (.iaload, 1) := by decide +kernel
theorem d_TB_categoryOf_10 : decode b_TB_categoryOf 10 = .ok (.ireturn, 1) := by decide +kernel
theorem d_TB_scriptOf_0 : decode b_TB_scriptOf 0 = .ok (.aload_n 0, 1) := by decide +kernel
theorem d_TB_scriptOf_1 : decode b_TB_scriptOf 1 = .ok (.getfield 18, 3) := by decide +kernel
theorem d_TB_scriptOf_4 : decode b_TB_scriptOf 4 = .ok (.aload_n 0, 1) := by decide +kernel
theorem d_TB_scriptOf_5 : decode b_TB_scriptOf 5 = .ok (.iload_n 1, 1) := by decide +kernel
theorem d_TB_scriptOf_6 : decode b_TB_scriptOf 6 = .ok (.invokevirtual 37, 3) := by decide +kernel
theorem d_TB_scriptOf_9 : decode b_TB_scriptOf 9 = .ok (.iaload, 1) := by decide +kernel
theorem d_TB_scriptOf_10 : decode b_TB_scriptOf 10 = .ok (.ireturn, 1) := by decide +kernel
theorem d_TB_pieceOf_0 : decode b_TB_pieceOf 0 = .ok (.iconst 0, 1) := by decide +kernel
theorem d_TB_pieceOf_1 : decode b_TB_pieceOf 1 = .ok (.istore_n 2, 1) := by decide +kernel
theorem d_TB_pieceOf_2 : decode b_TB_pieceOf 2 = .ok (.iconst 1, 1) := by decide +kernel
theorem d_TB_pieceOf_3 : decode b_TB_pieceOf 3 = .ok (.istore_n 3, 1) := by decide +kernel
theorem d_TB_pieceOf_4 : decode b_TB_pieceOf 4 = .ok (.iload_n 3, 1) := by decide +kernel
theorem d_TB_pieceOf_5 : decode b_TB_pieceOf 5 = .ok (.aload_n 0, 1) := by decide +kernel
theorem d_TB_pieceOf_6 : decode b_TB_pieceOf 6 = .ok (.getfield 21, 3) := by decide +kernel
theorem d_TB_pieceOf_9 : decode b_TB_pieceOf 9 = .ok (.if_icmp .ge 21, 3) := by decide +kernel
theorem d_TB_pieceOf_12 : decode b_TB_pieceOf 12 = .ok (.aload_n 0, 1) := by decide +kernel
theorem d_TB_pieceOf_13 : decode b_TB_pieceOf 13 = .ok (.getfield 11, 3) := by decide +kernel
theorem d_TB_pieceOf_16 : decode b_TB_pieceOf 16 = .ok (.iload_n 3, 1) := by decide +kernel
theorem d_TB_pieceOf_17 : decode b_TB_pieceOf 17 = .ok (.iaload, 1) := by decide +kernel
theorem d_TB_pieceOf_18 : decode b_TB_pieceOf 18 = .ok (.iload_n 1, 1) := by decide +kernel
theorem d_TB_pieceOf_19 : decode b_TB_pieceOf 19 = .ok (.if_icmp .gt 11, 3) := by decide +kernel
theorem d_TB_pieceOf_22 : decode b_TB_pieceOf 22 = .ok (.iload_n 3, 1) := by decide +kernel
theorem d_TB_pieceOf_23 : decode b_TB_pieceOf 23 = .ok (.istore_n 2, 1) := by decide +kernel
theorem d_TB_pieceOf_24 : decode b_TB_pieceOf 24 = .ok (.iinc 3 1, 3) := by decide +kernel
theorem d_TB_pieceOf_27 : decode b_TB_pieceOf 27 = .ok (.goto (-23), 3) := by decide +kernel
theorem d_TB_pieceOf_30 : decode b_TB_pieceOf 30 = .ok (.iload_n 2, 1) := by decide +kernel
theorem d_TB_pieceOf_31 : decode b_TB_pieceOf 31 = .ok (.ireturn, 1) := by decide +kernel
theorem d_TB_addRow_0 : decode b_TB_addRow 0 = .ok (.iload_n 3, 1) := by decide +kernel
theorem d_TB_addRow_1 : decode b_TB_addRow 1 = .ok (.bipush 25, 2) := by decide +kernel
theorem d_TB_addRow_3 : decode b_TB_addRow 3 = .ok (.if_icmp .eq 10, 3) := by decide +kernel
theorem d_TB_addRow_6 : decode b_TB_addRow 6 = .ok (.aload_n 0, 1) := by decide +kernel
theorem d_TB_addRow_7 : decode b_TB_addRow 7 = .ok (.iload_n 1, 1) := by decide +kernel
theorem d_TB_addRow_8 : decode b_TB_addRow 8 = .ok (.iload_n 3, 1) := by decide +kernel
theorem d_TB_addRow_9 : decode b_TB_addRow 9 = .ok (.invokevirtual 28, 3) := by decide +kernel
theorem d_TB_addRow_12 : decode b_TB_addRow 12 = .ok (.return_, 1) := by decide +kernel
theorem d_TB_addRow_13 : decode b_TB_addRow 13 = .ok (.iload_n 1, 1) := by decide +kernel
theorem d_TB_addRow_14 : decode b_TB_addRow 14 = .ok (.istore 4, 2) := by decide +kernel
theorem d_TB_addRow_16 : decode b_TB_addRow 16 = .ok (.iload 4, 2) := by decide +kernel
theorem d_TB_addRow_18 : decode b_TB_addRow 18 = .ok (.iload_n 2, 1) := by decide +kernel
theorem d_TB_addRow_19 : decode b_TB_addRow 19 = .ok (.if_icmp .ge 30, 3) := by decide +kernel
theorem d_TB_addRow_22 : decode b_TB_addRow 22 = .ok (.aload_n 0, 1) := by decide +kernel
theorem d_TB_addRow_23 : decode b_TB_addRow 23 = .ok (.iload 4, 2) := by decide +kernel
theorem d_TB_addRow_25 : decode b_TB_addRow 25 = .ok (.iload 4, 2) := by decide +kernel
theorem d_TB_addRow_27 : decode b_TB_addRow 27 = .ok (.iload_n 1, 1) := by decide +kernel
theorem d_TB_addRow_28 : decode b_TB_addRow 28 = .ok (.isub, 1) := by decide +kernel
theorem d_TB_addRow_29 : decode b_TB_addRow 29 = .ok (.iconst 2, 1) := by decide +kernel
theorem d_TB_addRow_30 : decode b_TB_addRow 30 = .ok (.irem, 1) := by decide +kernel
theorem d_TB_addRow_31 : decode b_TB_addRow 31 = .ok (.ifCond .ne 8, 3) := by decide +kernel
theorem d_TB_addRow_34 : decode b_TB_addRow 34 = .ok (.bipush 6, 2) := by decide +kernel
theorem d_TB_addRow_36 : decode b_TB_addRow 36 = .ok (.goto 4, 3) := by decide +kernel
theorem d_TB_addRow_39 : decode b_TB_addRow 39 = .ok (.iconst 4, 1) := by decide +kernel
theorem d_TB_addRow_40 : decode b_TB_addRow 40 = .ok (.invokevirtual 28, 3) := by decide +kernel
theorem d_TB_addRow_43 : decode b_TB_addRow 43 = .ok (.iinc 4 1, 3) := by decide +kernel
theorem d_TB_addRow_46 : decode b_TB_addRow 46 = .ok (.goto (-30), 3) := by decide +kernel
theorem d_TB_addRow_49 : decode b_TB_addRow 49 = .ok (.return_, 1) := by decide +kernel
theorem d_TB_addPiece_0 : decode b_TB_addPiece 0 = .ok (.aload_n 0, 1) := by decide +kernel
theorem d_TB_addPiece_1 : decode b_TB_addPiece 1 = .ok (.getfield 21, 3) := by decide +kernel
theorem d_TB_addPiece_4 : decode b_TB_addPiece 4 = .ok (.sipush 512, 3) := by decide +kernel
theorem d_TB_addPiece_7 : decode b_TB_addPiece 7 = .ok (.if_icmp .lt 4, 3) := by decide +kernel
theorem d_TB_addPiece_10 : decode b_TB_addPiece 10 = .ok (.return_, 1) := by decide +kernel
theorem d_TB_addPiece_11 : decode b_TB_addPiece 11 = .ok (.aload_n 0, 1) := by decide +kernel
theorem d_TB_addPiece_12 : decode b_TB_addPiece 12 = .ok (.getfield 11, 3) := by decide +kernel
theorem d_TB_addPiece_15 : decode b_TB_addPiece 15 = .ok (.aload_n 0, 1) := by decide +kernel
theorem d_TB_addPiece_16 : decode b_TB_addPiece 16 = .ok (.getfield 21, 3) := by decide +kernel
theorem d_TB_addPiece_19 : decode b_TB_addPiece 19 = .ok (.iload_n 1, 1) := by decide +kernel
theorem d_TB_addPiece_20 : decode b_TB_addPiece 20 = .ok (.iastore, 1) := by decide +kernel
theorem d_TB_addPiece_21 : decode b_TB_addPiece 21 = .ok (.aload_n 0, 1) := by decide +kernel
theorem d_TB_addPiece_22 : decode b_TB_addPiece 22 = .ok (.getfield 15, 3) := by decide +kernel
theorem d_TB_addPiece_25 : decode b_TB_addPiece 25 = .ok (.aload_n 0, 1) := by decide +kernel
theorem d_TB_addPiece_26 : decode b_TB_addPiece 26 = .ok (.getfield 21, 3) := by decide +kernel
theorem d_TB_addPiece_29 : decode b_TB_addPiece 29 = .ok (.iload_n 2, 1) := by decide +kernel
theorem d_TB_addPiece_30 : decode b_TB_addPiece 30 = .ok (.iastore, 1) := by decide +kernel
theorem d_TB_addPiece_31 : decode b_TB_addPiece 31 = .ok (.aload_n 0, 1) := by decide +kernel
theorem d_TB_addPiece_32 : decode b_TB_addPiece 32 = .ok (.getfield 18, 3) := by decide +kernel
theorem d_TB_addPiece_35 : decode b_TB_addPiece 35 = .ok (.aload_n 0, 1) := by decide +kernel
theorem d_TB_addPiece_36 : decode b_TB_addPiece 36 = .ok (.getfield 21, 3) := by decide +kernel
theorem d_TB_addPiece_39 : decode b_TB_addPiece 39 = .ok (.iload_n 1, 1) := by decide +kernel
theorem d_TB_addPiece_40 : decode b_TB_addPiece 40 = .ok (.iload_n 2, 1) := by decide +kernel
theorem d_TB_addPiece_41 : decode b_TB_addPiece 41 = .ok (.invokestatic 41, 3) := by decide +kernel
theorem d_TB_addPiece_44 : decode b_TB_addPiece 44 = .ok (.iastore, 1) := by decide +kernel
theorem d_TB_addPiece_45 : decode b_TB_addPiece 45 = .ok (.aload_n 0, 1) := by decide +kernel
theorem d_TB_addPiece_46 : decode b_TB_addPiece 46 = .ok (.dup, 1) := by decide +kernel
theorem d_TB_addPiece_47 : decode b_TB_addPiece 47 = .ok (.getfield 21, 3) := by decide +kernel
theorem d_TB_addPiece_50 : decode b_TB_addPiece 50 = .ok (.iconst 1, 1) := by decide +kernel
theorem d_TB_addPiece_51 : decode b_TB_addPiece 51 = .ok (.iadd, 1) := by decide +kernel
theorem d_TB_addPiece_52 : decode b_TB_addPiece 52 = .ok (.putfield 21, 3) := by decide +kernel
theorem d_TB_addPiece_55 : decode b_TB_addPiece 55 = .ok (.return_, 1) := by decide +kernel
theorem d_TB_findScript_0 : decode b_TB_findScript 0 = .ok (.iload_n 1, 1) := by decide +kernel
theorem d_TB_findScript_1 : decode b_TB_findScript 1 = .ok (.ifCond .eq 8, 3) := by decide +kernel
theorem d_TB_findScript_4 : decode b_TB_findScript 4 = .ok (.iload_n 1, 1) := by decide +kernel
theorem d_TB_findScript_5 : decode b_TB_findScript 5 = .ok (.iconst 3, 1) := by decide +kernel
theorem d_TB_findScript_6 : decode b_TB_findScript 6 = .ok (.if_icmp .ne 5, 3) := by decide +kernel
theorem d_TB_findScript_9 : decode b_TB_findScript 9 = .ok (.iconst 0, 1) := by decide +kernel
theorem d_TB_findScript_10 : decode b_TB_findScript 10 = .ok (.ireturn, 1) := by decide +kernel
theorem d_TB_findScript_11 : decode b_TB_findScript 11 = .ok (.iload_n 1, 1) := by decide +kernel
theorem d_TB_findScript_12 : decode b_TB_findScript 12 = .ok (.bipush 6, 2) := by decide +kernel
theorem d_TB_findScript_14 : decode b_TB_findScript 14 = .ok (.if_icmp .eq 8, 3) := by decide +kernel
theorem d_TB_findScript_17 : decode b_TB_findScript 17 = .ok (.iload_n 1, 1) := by decide +kernel
theorem d_TB_findScript_18 : decode b_TB_findScript 18 = .ok (.iconst 4, 1) := by decide +kernel
theorem d_TB_findScript_19 : decode b_TB_findScript 19 = .ok (.if_icmp .ne 23, 3) := by decide +kernel
theorem d_TB_findScript_22 : decode b_TB_findScript 22 = .ok (.iload_n 0, 1) := by decide +kernel
theorem d_TB_findScript_23 : decode b_TB_findScript 23 = .ok (.sipush 384, 3) := by decide +kernel
theorem d_TB_findScript_26 : decode b_TB_findScript 26 = .ok (.if_icmp .ge 16, 3) := by decide +kernel
theorem d_TB_findScript_29 : decode b_TB_findScript 29 = .ok (.iload_n 0, 1) := by decide +kernel
theorem d_TB_findScript_30 : decode b_TB_findScript 30 = .ok (.sipush 181, 3) := by decide +kernel
theorem d_TB_findScript_33 : decode b_TB_findScript 33 = .ok (.if_icmp .ne 7, 3) := by decide +kernel
theorem d_TB_findScript_36 : decode b_TB_findScript 36 = .ok (.iconst 1, 1) := by decide +kernel
theorem d_TB_findScript_37 : decode b_TB_findScript 37 = .ok (.goto 4, 3) := by decide +kernel
theorem d_TB_findScript_40 : decode b_TB_findScript 40 = .ok (.iconst 2, 1) := by decide +kernel
theorem d_TB_findScript_41 : decode b_TB_findScript 41 = .ok (.ireturn, 1) := by decide +kernel
theorem d_TB_findScript_42 : decode b_TB_findScript 42 = .ok (.iconst 0, 1) := by decide +kernel
theorem d_TB_findScript_43 : decode b_TB_findScript 43 = .ok (.istore_n 2, 1) := by decide +kernel
theorem d_TB_findScript_44 : decode b_TB_findScript 44 = .ok (.iload_n 2, 1) := by decide +kernel
theorem d_TB_findScript_45 : decode b_TB_findScript 45 = .ok (.iconst 2, 1) := by decide +kernel
theorem d_TB_findScript_46 : decode b_TB_findScript 46 = .ok (.iadd, 1) := by decide +kernel
theorem d_TB_findScript_47 : decode b_TB_findScript 47 = .ok (.getstatic 45, 3) := by decide +kernel
theorem d_TB_findScript_50 : decode b_TB_findScript 50 = .ok (.arraylength, 1) := by decide +kernel
theorem d_TB_findScript_51 : decode b_TB_findScript 51 = .ok (.if_icmp .ge 37, 3) := by decide +kernel
theorem d_TB_findScript_54 : decode b_TB_findScript 54 = .ok (.iload_n 0, 1) := by decide +kernel
theorem d_TB_findScript_55 : decode b_TB_findScript 55 = .ok (.getstatic 45, 3) := by decide +kernel
theorem d_TB_findScript_58 : decode b_TB_findScript 58 = .ok (.iload_n 2, 1) := by decide +kernel
theorem d_TB_findScript_59 : decode b_TB_findScript 59 = .ok (.iaload, 1) := by decide +kernel
theorem d_TB_findScript_60 : decode b_TB_findScript 60 = .ok (.if_icmp .lt 22, 3) := by decide +kernel
theorem d_TB_findScript_63 : decode b_TB_findScript 63 = .ok (.iload_n 0, 1) := by decide +kernel
theorem d_TB_findScript_64 : decode b_TB_findScript 64 = .ok (.getstatic 45, 3) := by decide +kernel
theorem d_TB_findScript_67 : decode b_TB_findScript 67 = .ok (.iload_n 2, 1) := by decide +kernel
theorem d_TB_findScript_68 : decode b_TB_findScript 68 = .ok (.iconst 1, 1) := by decide +kernel
theorem d_TB_findScript_69 : decode b_TB_findScript 69 = .ok (.iadd, 1) := by decide +kernel
theorem d_TB_findScript_70 : decode b_TB_findScript 70 = .ok (.iaload, 1) := by decide +kernel
theorem d_TB_findScript_71 : decode b_TB_findScript 71 = .ok (.if_icmp .gt 11, 3) := by decide +kernel
theorem d_TB_findScript_74 : decode b_TB_findScript 74 = .ok (.getstatic 45, 3) := by decide +kernel
theorem d_TB_findScript_77 : decode b_TB_findScript 77 = .ok (.iload_n 2, 1) := by decide +kernel
theorem d_TB_findScript_78 : decode b_TB_findScript 78 = .ok (.iconst 2, 1) := by decide +kernel
theorem d_TB_findScript_79 : decode b_TB_findScript 79 = .ok (.iadd, 1) := by decide +kernel
theorem d_TB_findScript_80 : decode b_TB_findScript 80 = .ok (.iaload, 1) := by decide +kernel
theorem d_TB_findScript_81 : decode b_TB_findScript 81 = .ok (.ireturn, 1) := by decide +kernel
theorem d_TB_findScript_82 : decode b_TB_findScript 82 = .ok (.iinc 2 3, 3) := by decide +kernel
theorem d_TB_findScript_85 : decode b_TB_findScript 85 = .ok (.goto (-41), 3) := by decide +kernel
theorem d_TB_findScript_88 : decode b_TB_findScript 88 = .ok (.iconst 1, 1) := by decide +kernel
theorem d_TB_findScript_89 : decode b_TB_findScript 89 = .ok (.ireturn, 1) := by decide +kernel
theorem d_LA_cell_0 : decode b_LA_cell 0 = .ok (.iload_n 1, 1) := by decide +kernel
theorem d_LA_cell_1 : decode b_LA_cell 1 = .ok (.aload_n 0, 1) := by decide +kernel
theorem d_LA_cell_2 : decode b_LA_cell 2 = .ok (.arraylength, 1) := by decide +kernel
theorem d_LA_cell_3 : decode b_LA_cell 3 = .ok (.if_icmp .ge 9, 3) := by decide +kernel
theorem d_LA_cell_6 : decode b_LA_cell 6 = .ok (.aload_n 0, 1) := by decide +kernel
theorem d_LA_cell_7 : decode b_LA_cell 7 = .ok (.iload_n 1, 1) := by decide +kernel
theorem d_LA_cell_8 : decode b_LA_cell 8 = .ok (.iaload, 1) := by decide +kernel
theorem d_LA_cell_9 : decode b_LA_cell 9 = .ok (.goto 4, 3) := by decide +kernel
theorem d_LA_cell_12 : decode b_LA_cell 12 = .ok (.iconst 0, 1) := by decide +kernel
theorem d_LA_cell_13 : decode b_LA_cell 13 = .ok (.ireturn, 1) := by decide +kernel
theorem d_LA_law_0 : decode code 0 = .ok (.new 7, 3) := by decide +kernel
theorem d_LA_law_3 : decode code 3 = .ok (.dup, 1) := by decide +kernel
theorem d_LA_law_4 : decode code 4 = .ok (.aload_n 0, 1) := by decide +kernel
theorem d_LA_law_5 : decode code 5 = .ok (.iconst 0, 1) := by decide +kernel
theorem d_LA_law_6 : decode code 6 = .ok (.invokestatic 9, 3) := by decide +kernel
theorem d_LA_law_9 : decode code 9 = .ok (.invokespecial 15, 3) := by decide +kernel
theorem d_LA_law_12 : decode code 12 = .ok (.astore_n 1, 1) := by decide +kernel
theorem d_LA_law_13 : decode code 13 = .ok (.new 18, 3) := by decide +kernel
theorem d_LA_law_16 : decode code 16 = .ok (.dup, 1) := by decide +kernel
theorem d_LA_law_17 : decode code 17 = .ok (.aload_n 0, 1) := by decide +kernel
theorem d_LA_law_18 : decode code 18 = .ok (.iconst 0, 1) := by decide +kernel
theorem d_LA_law_19 : decode code 19 = .ok (.invokestatic 9, 3) := by decide +kernel
theorem d_LA_law_22 : decode code 22 = .ok (.invokespecial 20, 3) := by decide +kernel
theorem d_LA_law_25 : decode code 25 = .ok (.astore_n 2, 1) := by decide +kernel
theorem d_LA_law_26 : decode code 26 = .ok (.iconst 1, 1) := by decide +kernel
theorem d_LA_law_27 : decode code 27 = .ok (.istore_n 3, 1) := by decide +kernel
theorem d_LA_law_28 : decode code 28 = .ok (.iload_n 3, 1) := by decide +kernel
theorem d_LA_law_29 : decode code 29 = .ok (.aload_n 0, 1) := by decide +kernel
theorem d_LA_law_30 : decode code 30 = .ok (.arraylength, 1) := by decide +kernel
theorem d_LA_law_31 : decode code 31 = .ok (.iconst 5, 1) := by decide +kernel
theorem d_LA_law_32 : decode code 32 = .ok (.isub, 1) := by decide +kernel
theorem d_LA_law_33 : decode code 33 = .ok (.if_icmp .gt 647, 3) := by decide +kernel
theorem d_LA_law_36 : decode code 36 = .ok (.aload_n 0, 1) := by decide +kernel
theorem d_LA_law_37 : decode code 37 = .ok (.iload_n 3, 1) := by decide +kernel
theorem d_LA_law_38 : decode code 38 = .ok (.iaload, 1) := by decide +kernel
theorem d_LA_law_39 : decode code 39 = .ok (.bipush 15, 2) := by decide +kernel
theorem d_LA_law_41 : decode code 41 = .ok (.iand, 1) := by decide +kernel
theorem d_LA_law_42 : decode code 42 = .ok (.tableswitch 632 0 13 #[70, 93, 136, 221, 306, 329, 352, 385, 418, 451, 484, 507, 540, 599], 70) := by decide +kernel
theorem d_LA_law_112 : decode code 112 = .ok (.aload_n 1, 1) := by decide +kernel
theorem d_LA_law_113 : decode code 113 = .ok (.aload_n 0, 1) := by decide +kernel
theorem d_LA_law_114 : decode code 114 = .ok (.iload_n 3, 1) := by decide +kernel
theorem d_LA_law_115 : decode code 115 = .ok (.iconst 1, 1) := by decide +kernel
theorem d_LA_law_116 : decode code 116 = .ok (.iadd, 1) := by decide +kernel
theorem d_LA_law_117 : decode code 117 = .ok (.iaload, 1) := by decide +kernel
theorem d_LA_law_118 : decode code 118 = .ok (.invokevirtual 21, 3) := by decide +kernel
theorem d_LA_law_121 : decode code 121 = .ok (.aload_n 2, 1) := by decide +kernel
theorem d_LA_law_122 : decode code 122 = .ok (.aload_n 0, 1) := by decide +kernel
theorem d_LA_law_123 : decode code 123 = .ok (.iload_n 3, 1) := by decide +kernel
theorem d_LA_law_124 : decode code 124 = .ok (.iconst 1, 1) := by decide +kernel
theorem d_LA_law_125 : decode code 125 = .ok (.iadd, 1) := by decide +kernel
theorem d_LA_law_126 : decode code 126 = .ok (.iaload, 1) := by decide +kernel
theorem d_LA_law_127 : decode code 127 = .ok (.invokevirtual 25, 3) := by decide +kernel
theorem d_LA_law_130 : decode code 130 = .ok (.if_icmp .eq 544, 3) := by decide +kernel
theorem d_LA_law_133 : decode code 133 = .ok (.iconst 0, 1) := by decide +kernel
theorem d_LA_law_134 : decode code 134 = .ok (.ireturn, 1) := by decide +kernel
theorem d_LA_law_135 : decode code 135 = .ok (.aload_n 1, 1) := by decide +kernel
theorem d_LA_law_136 : decode code 136 = .ok (.aload_n 0, 1) := by decide +kernel
theorem d_LA_law_137 : decode code 137 = .ok (.iload_n 3, 1) := by decide +kernel
theorem d_LA_law_138 : decode code 138 = .ok (.iconst 1, 1) := by decide +kernel
theorem d_LA_law_139 : decode code 139 = .ok (.iadd, 1) := by decide +kernel
theorem d_LA_law_140 : decode code 140 = .ok (.iaload, 1) := by decide +kernel
theorem d_LA_law_141 : decode code 141 = .ok (.aload_n 0, 1) := by decide +kernel
theorem d_LA_law_142 : decode code 142 = .ok (.iload_n 3, 1) := by decide +kernel
theorem d_LA_law_143 : decode code 143 = .ok (.iconst 2, 1) := by decide +kernel
theorem d_LA_law_144 : decode code 144 = .ok (.iadd, 1) := by decide +kernel
theorem d_LA_law_145 : decode code 145 = .ok (.iaload, 1) := by decide +kernel
theorem d_LA_law_146 : decode code 146 = .ok (.aload_n 0, 1) := by decide +kernel
theorem d_LA_law_147 : decode code 147 = .ok (.iload_n 3, 1) := by decide +kernel
theorem d_LA_law_148 : decode code 148 = .ok (.iconst 3, 1) := by decide +kernel
theorem d_LA_law_149 : decode code 149 = .ok (.iadd, 1) := by decide +kernel
theorem d_LA_law_150 : decode code 150 = .ok (.iaload, 1) := by decide +kernel
theorem d_LA_law_151 : decode code 151 = .ok (.invokevirtual 26, 3) := by decide +kernel
theorem d_LA_law_154 : decode code 154 = .ok (.aload_n 2, 1) := by decide +kernel
theorem d_LA_law_155 : decode code 155 = .ok (.aload_n 0, 1) := by decide +kernel
theorem d_LA_law_156 : decode code 156 = .ok (.iload_n 3, 1) := by decide +kernel
theorem d_LA_law_157 : decode code 157 = .ok (.iconst 1, 1) := by decide +kernel
theorem d_LA_law_158 : decode code 158 = .ok (.iadd, 1) := by decide +kernel
theorem d_LA_law_159 : decode code 159 = .ok (.iaload, 1) := by decide +kernel
theorem d_LA_law_160 : decode code 160 = .ok (.aload_n 0, 1) := by decide +kernel
theorem d_LA_law_161 : decode code 161 = .ok (.iload_n 3, 1) := by decide +kernel
theorem d_LA_law_162 : decode code 162 = .ok (.iconst 2, 1) := by decide +kernel
theorem d_LA_law_163 : decode code 163 = .ok (.iadd, 1) := by decide +kernel
theorem d_LA_law_164 : decode code 164 = .ok (.iaload, 1) := by decide +kernel
theorem d_LA_law_165 : decode code 165 = .ok (.aload_n 0, 1) := by decide +kernel
theorem d_LA_law_166 : decode code 166 = .ok (.iload_n 3, 1) := by decide +kernel
theorem d_LA_law_167 : decode code 167 = .ok (.iconst 3, 1) := by decide +kernel
theorem d_LA_law_168 : decode code 168 = .ok (.iadd, 1) := by decide +kernel
theorem d_LA_law_169 : decode code 169 = .ok (.iaload, 1) := by decide +kernel
theorem d_LA_law_170 : decode code 170 = .ok (.invokevirtual 30, 3) := by decide +kernel
theorem d_LA_law_173 : decode code 173 = .ok (.if_icmp .eq 501, 3) := by decide +kernel
theorem d_LA_law_176 : decode code 176 = .ok (.iconst 0, 1) := by decide +kernel
theorem d_LA_law_177 : decode code 177 = .ok (.ireturn, 1) := by decide +kernel
theorem d_LA_law_178 : decode code 178 = .ok (.aload_n 1, 1) := by decide +kernel
theorem d_LA_law_179 : decode code 179 = .ok (.aload_n 0, 1) := by decide +kernel
theorem d_LA_law_180 : decode code 180 = .ok (.iload_n 3, 1) := by decide +kernel
theorem d_LA_law_181 : decode code 181 = .ok (.iconst 1, 1) := by decide +kernel
theorem d_LA_law_182 : decode code 182 = .ok (.iadd, 1) := by decide +kernel
theorem d_LA_law_183 : decode code 183 = .ok (.iaload, 1) := by decide +kernel
theorem d_LA_law_184 : decode code 184 = .ok (.aload_n 0, 1) := by decide +kernel
theorem d_LA_law_185 : decode code 185 = .ok (.iload_n 3, 1) := by decide +kernel
theorem d_LA_law_186 : decode code 186 = .ok (.iconst 2, 1) := by decide +kernel
theorem d_LA_law_187 : decode code 187 = .ok (.iadd, 1) := by decide +kernel
theorem d_LA_law_188 : decode code 188 = .ok (.iaload, 1) := by decide +kernel
theorem d_LA_law_189 : decode code 189 = .ok (.aload_n 0, 1) := by decide +kernel
theorem d_LA_law_190 : decode code 190 = .ok (.iload_n 3, 1) := by decide +kernel
theorem d_LA_law_191 : decode code 191 = .ok (.iconst 3, 1) := by decide +kernel
theorem d_LA_law_192 : decode code 192 = .ok (.iadd, 1) := by decide +kernel
theorem d_LA_law_193 : decode code 193 = .ok (.iaload, 1) := by decide +kernel
theorem d_LA_law_194 : decode code 194 = .ok (.ifCond .eq 7, 3) := by decide +kernel
theorem d_LA_law_197 : decode code 197 = .ok (.iconst 1, 1) := by decide +kernel
theorem d_LA_law_198 : decode code 198 = .ok (.goto 4, 3) := by decide +kernel
theorem d_LA_law_201 : decode code 201 = .ok (.iconst 0, 1) := by decide +kernel
theorem d_LA_law_202 : decode code 202 = .ok (.aload_n 0, 1) := by decide +kernel
theorem d_LA_law_203 : decode code 203 = .ok (.iload_n 3, 1) := by decide +kernel
theorem d_LA_law_204 : decode code 204 = .ok (.iconst 4, 1) := by decide +kernel
theorem d_LA_law_205 : decode code 205 = .ok (.iadd, 1) := by decide +kernel
theorem d_LA_law_206 : decode code 206 = .ok (.iaload, 1) := by decide +kernel
theorem d_LA_law_207 : decode code 207 = .ok (.ifCond .eq 7, 3) := by decide +kernel
theorem d_LA_law_210 : decode code 210 = .ok (.iconst 1, 1) := by decide +kernel
theorem d_LA_law_211 : decode code 211 = .ok (.goto 4, 3) := by decide +kernel
theorem d_LA_law_214 : decode code 214 = .ok (.iconst 0, 1) := by decide +kernel
theorem d_LA_law_215 : decode code 215 = .ok (.invokevirtual 31, 3) := by decide +kernel
theorem d_LA_law_218 : decode code 218 = .ok (.aload_n 2, 1) := by decide +kernel
theorem d_LA_law_219 : decode code 219 = .ok (.aload_n 0, 1) := by decide +kernel
theorem d_LA_law_220 : decode code 220 = .ok (.iload_n 3, 1) := by decide +kernel
theorem d_LA_law_221 : decode code 221 = .ok (.iconst 1, 1) := by decide +kernel
theorem d_LA_law_222 : decode code 222 = .ok (.iadd, 1) := by decide +kernel
theorem d_LA_law_223 : decode code 223 = .ok (.iaload, 1) := by decide +kernel
theorem d_LA_law_224 : decode code 224 = .ok (.aload_n 0, 1) := by decide +kernel
theorem d_LA_law_225 : decode code 225 = .ok (.iload_n 3, 1) := by decide +kernel
theorem d_LA_law_226 : decode code 226 = .ok (.iconst 2, 1) := by decide +kernel
theorem d_LA_law_227 : decode code 227 = .ok (.iadd, 1) := by decide +kernel
theorem d_LA_law_228 : decode code 228 = .ok (.iaload, 1) := by decide +kernel
theorem d_LA_law_229 : decode code 229 = .ok (.aload_n 0, 1) := by decide +kernel
theorem d_LA_law_230 : decode code 230 = .ok (.iload_n 3, 1) := by decide +kernel
theorem d_LA_law_231 : decode code 231 = .ok (.iconst 3, 1) := by decide +kernel
theorem d_LA_law_232 : decode code 232 = .ok (.iadd, 1) := by decide +kernel
theorem d_LA_law_233 : decode code 233 = .ok (.iaload, 1) := by decide +kernel
theorem d_LA_law_234 : decode code 234 = .ok (.ifCond .eq 7, 3) := by decide +kernel
theorem d_LA_law_237 : decode code 237 = .ok (.iconst 1, 1) := by decide +kernel
theorem d_LA_law_238 : decode code 238 = .ok (.goto 4, 3) := by decide +kernel
theorem d_LA_law_241 : decode code 241 = .ok (.iconst 0, 1) := by decide +kernel
theorem d_LA_law_242 : decode code 242 = .ok (.aload_n 0, 1) := by decide +kernel
theorem d_LA_law_243 : decode code 243 = .ok (.iload_n 3, 1) := by decide +kernel
theorem d_LA_law_244 : decode code 244 = .ok (.iconst 4, 1) := by decide +kernel
theorem d_LA_law_245 : decode code 245 = .ok (.iadd, 1) := by decide +kernel
theorem d_LA_law_246 : decode code 246 = .ok (.iaload, 1) := by decide +kernel
theorem d_LA_law_247 : decode code 247 = .ok (.ifCond .eq 7, 3) := by decide +kernel
theorem d_LA_law_250 : decode code 250 = .ok (.iconst 1, 1) := by decide +kernel
theorem d_LA_law_251 : decode code 251 = .ok (.goto 4, 3) := by decide +kernel
theorem d_LA_law_254 : decode code 254 = .ok (.iconst 0, 1) := by decide +kernel
theorem d_LA_law_255 : decode code 255 = .ok (.invokevirtual 35, 3) := by decide +kernel
theorem d_LA_law_258 : decode code 258 = .ok (.if_icmp .eq 416, 3) := by decide +kernel
theorem d_LA_law_261 : decode code 261 = .ok (.iconst 0, 1) := by decide +kernel
theorem d_LA_law_262 : decode code 262 = .ok (.ireturn, 1) := by decide +kernel
theorem d_LA_law_263 : decode code 263 = .ok (.aload_n 1, 1) := by decide +kernel
theorem d_LA_law_264 : decode code 264 = .ok (.aload_n 0, 1) := by decide +kernel
theorem d_LA_law_265 : decode code 265 = .ok (.iload_n 3, 1) := by decide +kernel
theorem d_LA_law_266 : decode code 266 = .ok (.iconst 1, 1) := by decide +kernel
theorem d_LA_law_267 : decode code 267 = .ok (.iadd, 1) := by decide +kernel
theorem d_LA_law_268 : decode code 268 = .ok (.iaload, 1) := by decide +kernel
theorem d_LA_law_269 : decode code 269 = .ok (.aload_n 0, 1) := by decide +kernel
theorem d_LA_law_270 : decode code 270 = .ok (.iload_n 3, 1) := by decide +kernel
theorem d_LA_law_271 : decode code 271 = .ok (.iconst 2, 1) := by decide +kernel
theorem d_LA_law_272 : decode code 272 = .ok (.iadd, 1) := by decide +kernel
theorem d_LA_law_273 : decode code 273 = .ok (.iaload, 1) := by decide +kernel
theorem d_LA_law_274 : decode code 274 = .ok (.aload_n 0, 1) := by decide +kernel
theorem d_LA_law_275 : decode code 275 = .ok (.iload_n 3, 1) := by decide +kernel
theorem d_LA_law_276 : decode code 276 = .ok (.iconst 3, 1) := by decide +kernel
theorem d_LA_law_277 : decode code 277 = .ok (.iadd, 1) := by decide +kernel
theorem d_LA_law_278 : decode code 278 = .ok (.iaload, 1) := by decide +kernel
theorem d_LA_law_279 : decode code 279 = .ok (.ifCond .eq 7, 3) := by decide +kernel
theorem d_LA_law_282 : decode code 282 = .ok (.iconst 1, 1) := by decide +kernel
theorem d_LA_law_283 : decode code 283 = .ok (.goto 4, 3) := by decide +kernel
theorem d_LA_law_286 : decode code 286 = .ok (.iconst 0, 1) := by decide +kernel
theorem d_LA_law_287 : decode code 287 = .ok (.aload_n 0, 1) := by decide +kernel
theorem d_LA_law_288 : decode code 288 = .ok (.iload_n 3, 1) := by decide +kernel
theorem d_LA_law_289 : decode code 289 = .ok (.iconst 4, 1) := by decide +kernel
theorem d_LA_law_290 : decode code 290 = .ok (.iadd, 1) := by decide +kernel
theorem d_LA_law_291 : decode code 291 = .ok (.iaload, 1) := by decide +kernel
theorem d_LA_law_292 : decode code 292 = .ok (.ifCond .eq 7, 3) := by decide +kernel
theorem d_LA_law_295 : decode code 295 = .ok (.iconst 1, 1) := by decide +kernel
theorem d_LA_law_296 : decode code 296 = .ok (.goto 4, 3) := by decide +kernel
theorem d_LA_law_299 : decode code 299 = .ok (.iconst 0, 1) := by decide +kernel
theorem d_LA_law_300 : decode code 300 = .ok (.invokevirtual 36, 3) := by decide +kernel
theorem d_LA_law_303 : decode code 303 = .ok (.aload_n 2, 1) := by decide +kernel
theorem d_LA_law_304 : decode code 304 = .ok (.aload_n 0, 1) := by decide +kernel
theorem d_LA_law_305 : decode code 305 = .ok (.iload_n 3, 1) := by decide +kernel
theorem d_LA_law_306 : decode code 306 = .ok (.iconst 1, 1) := by decide +kernel
theorem d_LA_law_307 : decode code 307 = .ok (.iadd, 1) := by decide +kernel
theorem d_LA_law_308 : decode code 308 = .ok (.iaload, 1) := by decide +kernel
theorem d_LA_law_309 : decode code 309 = .ok (.aload_n 0, 1) := by decide +kernel
theorem d_LA_law_310 : decode code 310 = .ok (.iload_n 3, 1) := by decide +kernel
theorem d_LA_law_311 : decode code 311 = .ok (.iconst 2, 1) := by decide +kernel
theorem d_LA_law_312 : decode code 312 = .ok (.iadd, 1) := by decide +kernel
theorem d_LA_law_313 : decode code 313 = .ok (.iaload, 1) := by decide +kernel
theorem d_LA_law_314 : decode code 314 = .ok (.aload_n 0, 1) := by decide +kernel
theorem d_LA_law_315 : decode code 315 = .ok (.iload_n 3, 1) := by decide +kernel
theorem d_LA_law_316 : decode code 316 = .ok (.iconst 3, 1) := by decide +kernel
theorem d_LA_law_317 : decode code 317 = .ok (.iadd, 1) := by decide +kernel
theorem d_LA_law_318 : decode code 318 = .ok (.iaload, 1) := by decide +kernel
theorem d_LA_law_319 : decode code 319 = .ok (.ifCond .eq 7, 3) := by decide +kernel
theorem d_LA_law_322 : decode code 322 = .ok (.iconst 1, 1) := by decide +kernel
theorem d_LA_law_323 : decode code 323 = .ok (.goto 4, 3) := by decide +kernel
theorem d_LA_law_326 : decode code 326 = .ok (.iconst 0, 1) := by decide +kernel
theorem d_LA_law_327 : decode code 327 = .ok (.aload_n 0, 1) := by decide +kernel
theorem d_LA_law_328 : decode code 328 = .ok (.iload_n 3, 1) := by decide +kernel
theorem d_LA_law_329 : decode code 329 = .ok (.iconst 4, 1) := by decide +kernel
theorem d_LA_law_330 : decode code 330 = .ok (.iadd, 1) := by decide +kernel
theorem d_LA_law_331 : decode code 331 = .ok (.iaload, 1) := by decide +kernel
theorem d_LA_law_332 : decode code 332 = .ok (.ifCond .eq 7, 3) := by decide +kernel
theorem d_LA_law_335 : decode code 335 = .ok (.iconst 1, 1) := by decide +kernel
theorem d_LA_law_336 : decode code 336 = .ok (.goto 4, 3) := by decide +kernel
theorem d_LA_law_339 : decode code 339 = .ok (.iconst 0, 1) := by decide +kernel
theorem d_LA_law_340 : decode code 340 = .ok (.invokevirtual 39, 3) := by decide +kernel
theorem d_LA_law_343 : decode code 343 = .ok (.if_icmp .eq 331, 3) := by decide +kernel
theorem d_LA_law_346 : decode code 346 = .ok (.iconst 0, 1) := by decide +kernel
theorem d_LA_law_347 : decode code 347 = .ok (.ireturn, 1) := by decide +kernel
theorem d_LA_law_348 : decode code 348 = .ok (.aload_n 1, 1) := by decide +kernel
theorem d_LA_law_349 : decode code 349 = .ok (.aload_n 0, 1) := by decide +kernel
theorem d_LA_law_350 : decode code 350 = .ok (.iload_n 3, 1) := by decide +kernel
theorem d_LA_law_351 : decode code 351 = .ok (.iconst 1, 1) := by decide +kernel
theorem d_LA_law_352 : decode code 352 = .ok (.iadd, 1) := by decide +kernel
theorem d_LA_law_353 : decode code 353 = .ok (.iaload, 1) := by decide +kernel
theorem d_LA_law_354 : decode code 354 = .ok (.invokevirtual 40, 3) := by decide +kernel
theorem d_LA_law_357 : decode code 357 = .ok (.aload_n 2, 1) := by decide +kernel
theorem d_LA_law_358 : decode code 358 = .ok (.aload_n 0, 1) := by decide +kernel
theorem d_LA_law_359 : decode code 359 = .ok (.iload_n 3, 1) := by decide +kernel
theorem d_LA_law_360 : decode code 360 = .ok (.iconst 1, 1) := by decide +kernel
theorem d_LA_law_361 : decode code 361 = .ok (.iadd, 1) := by decide +kernel
theorem d_LA_law_362 : decode code 362 = .ok (.iaload, 1) := by decide +kernel
theorem d_LA_law_363 : decode code 363 = .ok (.invokevirtual 43, 3) := by decide +kernel
theorem d_LA_law_366 : decode code 366 = .ok (.if_icmp .eq 308, 3) := by decide +kernel
theorem d_LA_law_369 : decode code 369 = .ok (.iconst 0, 1) := by decide +kernel
theorem d_LA_law_370 : decode code 370 = .ok (.ireturn, 1) := by decide +kernel
theorem d_LA_law_371 : decode code 371 = .ok (.aload_n 1, 1) := by decide +kernel
theorem d_LA_law_372 : decode code 372 = .ok (.aload_n 0, 1) := by decide +kernel
theorem d_LA_law_373 : decode code 373 = .ok (.iload_n 3, 1) := by decide +kernel
theorem d_LA_law_374 : decode code 374 = .ok (.iconst 1, 1) := by decide +kernel
theorem d_LA_law_375 : decode code 375 = .ok (.iadd, 1) := by decide +kernel
theorem d_LA_law_376 : decode code 376 = .ok (.iaload, 1) := by decide +kernel
theorem d_LA_law_377 : decode code 377 = .ok (.invokevirtual 44, 3) := by decide +kernel
theorem d_LA_law_380 : decode code 380 = .ok (.aload_n 2, 1) := by decide +kernel
theorem d_LA_law_381 : decode code 381 = .ok (.aload_n 0, 1) := by decide +kernel
theorem d_LA_law_382 : decode code 382 = .ok (.iload_n 3, 1) := by decide +kernel
theorem d_LA_law_383 : decode code 383 = .ok (.iconst 1, 1) := by decide +kernel
theorem d_LA_law_384 : decode code 384 = .ok (.iadd, 1) := by decide +kernel
theorem d_LA_law_385 : decode code 385 = .ok (.iaload, 1) := by decide +kernel
theorem d_LA_law_386 : decode code 386 = .ok (.invokevirtual 47, 3) := by decide +kernel
theorem d_LA_law_389 : decode code 389 = .ok (.if_icmp .eq 285, 3) := by decide +kernel
theorem d_LA_law_392 : decode code 392 = .ok (.iconst 0, 1) := by decide +kernel
theorem d_LA_law_393 : decode code 393 = .ok (.ireturn, 1) := by decide +kernel
theorem d_LA_law_394 : decode code 394 = .ok (.aload_n 1, 1) := by decide +kernel
theorem d_LA_law_395 : decode code 395 = .ok (.aload_n 0, 1) := by decide +kernel
theorem d_LA_law_396 : decode code 396 = .ok (.iload_n 3, 1) := by decide +kernel
theorem d_LA_law_397 : decode code 397 = .ok (.iconst 1, 1) := by decide +kernel
theorem d_LA_law_398 : decode code 398 = .ok (.iadd, 1) := by decide +kernel
theorem d_LA_law_399 : decode code 399 = .ok (.iaload, 1) := by decide +kernel
theorem d_LA_law_400 : decode code 400 = .ok (.aload_n 0, 1) := by decide +kernel
theorem d_LA_law_401 : decode code 401 = .ok (.iload_n 3, 1) := by decide +kernel
theorem d_LA_law_402 : decode code 402 = .ok (.iconst 2, 1) := by decide +kernel
theorem d_LA_law_403 : decode code 403 = .ok (.iadd, 1) := by decide +kernel
theorem d_LA_law_404 : decode code 404 = .ok (.iaload, 1) := by decide +kernel
theorem d_LA_law_405 : decode code 405 = .ok (.invokevirtual 48, 3) := by decide +kernel
theorem d_LA_law_408 : decode code 408 = .ok (.aload_n 2, 1) := by decide +kernel
theorem d_LA_law_409 : decode code 409 = .ok (.aload_n 0, 1) := by decide +kernel
theorem d_LA_law_410 : decode code 410 = .ok (.iload_n 3, 1) := by decide +kernel
theorem d_LA_law_411 : decode code 411 = .ok (.iconst 1, 1) := by decide +kernel
theorem d_LA_law_412 : decode code 412 = .ok (.iadd, 1) := by decide +kernel
theorem d_LA_law_413 : decode code 413 = .ok (.iaload, 1) := by decide +kernel
theorem d_LA_law_414 : decode code 414 = .ok (.aload_n 0, 1) := by decide +kernel
theorem d_LA_law_415 : decode code 415 = .ok (.iload_n 3, 1) := by decide +kernel
theorem d_LA_law_416 : decode code 416 = .ok (.iconst 2, 1) := by decide +kernel
theorem d_LA_law_417 : decode code 417 = .ok (.iadd, 1) := by decide +kernel
theorem d_LA_law_418 : decode code 418 = .ok (.iaload, 1) := by decide +kernel
theorem d_LA_law_419 : decode code 419 = .ok (.invokevirtual 52, 3) := by decide +kernel
theorem d_LA_law_422 : decode code 422 = .ok (.if_icmp .eq 252, 3) := by decide +kernel
theorem d_LA_law_425 : decode code 425 = .ok (.iconst 0, 1) := by decide +kernel
theorem d_LA_law_426 : decode code 426 = .ok (.ireturn, 1) := by decide +kernel
theorem d_LA_law_427 : decode code 427 = .ok (.aload_n 1, 1) := by decide +kernel
theorem d_LA_law_428 : decode code 428 = .ok (.aload_n 0, 1) := by decide +kernel
theorem d_LA_law_429 : decode code 429 = .ok (.iload_n 3, 1) := by decide +kernel
theorem d_LA_law_430 : decode code 430 = .ok (.iconst 1, 1) := by decide +kernel
theorem d_LA_law_431 : decode code 431 = .ok (.iadd, 1) := by decide +kernel
theorem d_LA_law_432 : decode code 432 = .ok (.iaload, 1) := by decide +kernel
theorem d_LA_law_433 : decode code 433 = .ok (.aload_n 0, 1) := by decide +kernel
theorem d_LA_law_434 : decode code 434 = .ok (.iload_n 3, 1) := by decide +kernel
theorem d_LA_law_435 : decode code 435 = .ok (.iconst 2, 1) := by decide +kernel
theorem d_LA_law_436 : decode code 436 = .ok (.iadd, 1) := by decide +kernel
theorem d_LA_law_437 : decode code 437 = .ok (.iaload, 1) := by decide +kernel
theorem d_LA_law_438 : decode code 438 = .ok (.invokevirtual 53, 3) := by decide +kernel
theorem d_LA_law_441 : decode code 441 = .ok (.aload_n 2, 1) := by decide +kernel
theorem d_LA_law_442 : decode code 442 = .ok (.aload_n 0, 1) := by decide +kernel
theorem d_LA_law_443 : decode code 443 = .ok (.iload_n 3, 1) := by decide +kernel
theorem d_LA_law_444 : decode code 444 = .ok (.iconst 1, 1) := by decide +kernel
theorem d_LA_law_445 : decode code 445 = .ok (.iadd, 1) := by decide +kernel
theorem d_LA_law_446 : decode code 446 = .ok (.iaload, 1) := by decide +kernel
theorem d_LA_law_447 : decode code 447 = .ok (.aload_n 0, 1) := by decide +kernel
theorem d_LA_law_448 : decode code 448 = .ok (.iload_n 3, 1) := by decide +kernel
theorem d_LA_law_449 : decode code 449 = .ok (.iconst 2, 1) := by decide +kernel
theorem d_LA_law_450 : decode code 450 = .ok (.iadd, 1) := by decide +kernel
theorem d_LA_law_451 : decode code 451 = .ok (.iaload, 1) := by decide +kernel
theorem d_LA_law_452 : decode code 452 = .ok (.invokevirtual 56, 3) := by decide +kernel
theorem d_LA_law_455 : decode code 455 = .ok (.if_icmp .eq 219, 3) := by decide +kernel
theorem d_LA_law_458 : decode code 458 = .ok (.iconst 0, 1) := by decide +kernel
theorem d_LA_law_459 : decode code 459 = .ok (.ireturn, 1) := by decide +kernel
theorem d_LA_law_460 : decode code 460 = .ok (.aload_n 1, 1) := by decide +kernel
theorem d_LA_law_461 : decode code 461 = .ok (.aload_n 0, 1) := by decide +kernel
theorem d_LA_law_462 : decode code 462 = .ok (.iload_n 3, 1) := by decide +kernel
theorem d_LA_law_463 : decode code 463 = .ok (.iconst 1, 1) := by decide +kernel
theorem d_LA_law_464 : decode code 464 = .ok (.iadd, 1) := by decide +kernel
theorem d_LA_law_465 : decode code 465 = .ok (.iaload, 1) := by decide +kernel
theorem d_LA_law_466 : decode code 466 = .ok (.aload_n 0, 1) := by decide +kernel
theorem d_LA_law_467 : decode code 467 = .ok (.iload_n 3, 1) := by decide +kernel
theorem d_LA_law_468 : decode code 468 = .ok (.iconst 2, 1) := by decide +kernel
theorem d_LA_law_469 : decode code 469 = .ok (.iadd, 1) := by decide +kernel
theorem d_LA_law_470 : decode code 470 = .ok (.iaload, 1) := by decide +kernel
theorem d_LA_law_471 : decode code 471 = .ok (.invokevirtual 57, 3) := by decide +kernel
theorem d_LA_law_474 : decode code 474 = .ok (.aload_n 2, 1) := by decide +kernel
theorem d_LA_law_475 : decode code 475 = .ok (.aload_n 0, 1) := by decide +kernel
theorem d_LA_law_476 : decode code 476 = .ok (.iload_n 3, 1) := by decide +kernel
theorem d_LA_law_477 : decode code 477 = .ok (.iconst 1, 1) := by decide +kernel
theorem d_LA_law_478 : decode code 478 = .ok (.iadd, 1) := by decide +kernel
theorem d_LA_law_479 : decode code 479 = .ok (.iaload, 1) := by decide +kernel
theorem d_LA_law_480 : decode code 480 = .ok (.aload_n 0, 1) := by decide +kernel
theorem d_LA_law_481 : decode code 481 = .ok (.iload_n 3, 1) := by decide +kernel
theorem d_LA_law_482 : decode code 482 = .ok (.iconst 2, 1) := by decide +kernel
theorem d_LA_law_483 : decode code 483 = .ok (.iadd, 1) := by decide +kernel
theorem d_LA_law_484 : decode code 484 = .ok (.iaload, 1) := by decide +kernel
theorem d_LA_law_485 : decode code 485 = .ok (.invokevirtual 60, 3) := by decide +kernel
theorem d_LA_law_488 : decode code 488 = .ok (.if_icmp .eq 186, 3) := by decide +kernel
theorem d_LA_law_491 : decode code 491 = .ok (.iconst 0, 1) := by decide +kernel
theorem d_LA_law_492 : decode code 492 = .ok (.ireturn, 1) := by decide +kernel
theorem d_LA_law_493 : decode code 493 = .ok (.aload_n 1, 1) := by decide +kernel
theorem d_LA_law_494 : decode code 494 = .ok (.aload_n 0, 1) := by decide +kernel
theorem d_LA_law_495 : decode code 495 = .ok (.iload_n 3, 1) := by decide +kernel
theorem d_LA_law_496 : decode code 496 = .ok (.iconst 1, 1) := by decide +kernel
theorem d_LA_law_497 : decode code 497 = .ok (.iadd, 1) := by decide +kernel
theorem d_LA_law_498 : decode code 498 = .ok (.iaload, 1) := by decide +kernel
theorem d_LA_law_499 : decode code 499 = .ok (.aload_n 0, 1) := by decide +kernel
theorem d_LA_law_500 : decode code 500 = .ok (.iload_n 3, 1) := by decide +kernel
theorem d_LA_law_501 : decode code 501 = .ok (.iconst 2, 1) := by decide +kernel
theorem d_LA_law_502 : decode code 502 = .ok (.iadd, 1) := by decide +kernel
theorem d_LA_law_503 : decode code 503 = .ok (.iaload, 1) := by decide +kernel
theorem d_LA_law_504 : decode code 504 = .ok (.invokevirtual 61, 3) := by decide +kernel
theorem d_LA_law_507 : decode code 507 = .ok (.aload_n 2, 1) := by decide +kernel
theorem d_LA_law_508 : decode code 508 = .ok (.aload_n 0, 1) := by decide +kernel
theorem d_LA_law_509 : decode code 509 = .ok (.iload_n 3, 1) := by decide +kernel
theorem d_LA_law_510 : decode code 510 = .ok (.iconst 1, 1) := by decide +kernel
theorem d_LA_law_511 : decode code 511 = .ok (.iadd, 1) := by decide +kernel
theorem d_LA_law_512 : decode code 512 = .ok (.iaload, 1) := by decide +kernel
theorem d_LA_law_513 : decode code 513 = .ok (.aload_n 0, 1) := by decide +kernel
theorem d_LA_law_514 : decode code 514 = .ok (.iload_n 3, 1) := by decide +kernel
theorem d_LA_law_515 : decode code 515 = .ok (.iconst 2, 1) := by decide +kernel
theorem d_LA_law_516 : decode code 516 = .ok (.iadd, 1) := by decide +kernel
theorem d_LA_law_517 : decode code 517 = .ok (.iaload, 1) := by decide +kernel
theorem d_LA_law_518 : decode code 518 = .ok (.invokevirtual 64, 3) := by decide +kernel
theorem d_LA_law_521 : decode code 521 = .ok (.if_icmp .eq 153, 3) := by decide +kernel
theorem d_LA_law_524 : decode code 524 = .ok (.iconst 0, 1) := by decide +kernel
theorem d_LA_law_525 : decode code 525 = .ok (.ireturn, 1) := by decide +kernel
theorem d_LA_law_526 : decode code 526 = .ok (.aload_n 1, 1) := by decide +kernel
theorem d_LA_law_527 : decode code 527 = .ok (.aload_n 0, 1) := by decide +kernel
theorem d_LA_law_528 : decode code 528 = .ok (.iload_n 3, 1) := by decide +kernel
theorem d_LA_law_529 : decode code 529 = .ok (.iconst 1, 1) := by decide +kernel
theorem d_LA_law_530 : decode code 530 = .ok (.iadd, 1) := by decide +kernel
theorem d_LA_law_531 : decode code 531 = .ok (.iaload, 1) := by decide +kernel
theorem d_LA_law_532 : decode code 532 = .ok (.invokevirtual 65, 3) := by decide +kernel
theorem d_LA_law_535 : decode code 535 = .ok (.aload_n 2, 1) := by decide +kernel
theorem d_LA_law_536 : decode code 536 = .ok (.aload_n 0, 1) := by decide +kernel
theorem d_LA_law_537 : decode code 537 = .ok (.iload_n 3, 1) := by decide +kernel
theorem d_LA_law_538 : decode code 538 = .ok (.iconst 1, 1) := by decide +kernel
theorem d_LA_law_539 : decode code 539 = .ok (.iadd, 1) := by decide +kernel
theorem d_LA_law_540 : decode code 540 = .ok (.iaload, 1) := by decide +kernel
theorem d_LA_law_541 : decode code 541 = .ok (.invokevirtual 68, 3) := by decide +kernel
theorem d_LA_law_544 : decode code 544 = .ok (.if_icmp .eq 130, 3) := by decide +kernel
theorem d_LA_law_547 : decode code 547 = .ok (.iconst 0, 1) := by decide +kernel
theorem d_LA_law_548 : decode code 548 = .ok (.ireturn, 1) := by decide +kernel
theorem d_LA_law_549 : decode code 549 = .ok (.aload_n 1, 1) := by decide +kernel
theorem d_LA_law_550 : decode code 550 = .ok (.aload_n 0, 1) := by decide +kernel
theorem d_LA_law_551 : decode code 551 = .ok (.iload_n 3, 1) := by decide +kernel
theorem d_LA_law_552 : decode code 552 = .ok (.iconst 1, 1) := by decide +kernel
theorem d_LA_law_553 : decode code 553 = .ok (.iadd, 1) := by decide +kernel
theorem d_LA_law_554 : decode code 554 = .ok (.iaload, 1) := by decide +kernel
theorem d_LA_law_555 : decode code 555 = .ok (.aload_n 0, 1) := by decide +kernel
theorem d_LA_law_556 : decode code 556 = .ok (.iload_n 3, 1) := by decide +kernel
theorem d_LA_law_557 : decode code 557 = .ok (.iconst 2, 1) := by decide +kernel
theorem d_LA_law_558 : decode code 558 = .ok (.iadd, 1) := by decide +kernel
theorem d_LA_law_559 : decode code 559 = .ok (.iaload, 1) := by decide +kernel
theorem d_LA_law_560 : decode code 560 = .ok (.invokevirtual 69, 3) := by decide +kernel
theorem d_LA_law_563 : decode code 563 = .ok (.aload_n 2, 1) := by decide +kernel
theorem d_LA_law_564 : decode code 564 = .ok (.aload_n 0, 1) := by decide +kernel
theorem d_LA_law_565 : decode code 565 = .ok (.iload_n 3, 1) := by decide +kernel
theorem d_LA_law_566 : decode code 566 = .ok (.iconst 1, 1) := by decide +kernel
theorem d_LA_law_567 : decode code 567 = .ok (.iadd, 1) := by decide +kernel
theorem d_LA_law_568 : decode code 568 = .ok (.iaload, 1) := by decide +kernel
theorem d_LA_law_569 : decode code 569 = .ok (.aload_n 0, 1) := by decide +kernel
theorem d_LA_law_570 : decode code 570 = .ok (.iload_n 3, 1) := by decide +kernel
theorem d_LA_law_571 : decode code 571 = .ok (.iconst 2, 1) := by decide +kernel
theorem d_LA_law_572 : decode code 572 = .ok (.iadd, 1) := by decide +kernel
theorem d_LA_law_573 : decode code 573 = .ok (.iaload, 1) := by decide +kernel
theorem d_LA_law_574 : decode code 574 = .ok (.invokevirtual 72, 3) := by decide +kernel
theorem d_LA_law_577 : decode code 577 = .ok (.if_icmp .eq 97, 3) := by decide +kernel
theorem d_LA_law_580 : decode code 580 = .ok (.iconst 0, 1) := by decide +kernel
theorem d_LA_law_581 : decode code 581 = .ok (.ireturn, 1) := by decide +kernel
theorem d_LA_law_582 : decode code 582 = .ok (.aload_n 1, 1) := by decide +kernel
theorem d_LA_law_583 : decode code 583 = .ok (.aload_n 0, 1) := by decide +kernel
theorem d_LA_law_584 : decode code 584 = .ok (.iload_n 3, 1) := by decide +kernel
theorem d_LA_law_585 : decode code 585 = .ok (.iconst 1, 1) := by decide +kernel
theorem d_LA_law_586 : decode code 586 = .ok (.iadd, 1) := by decide +kernel
theorem d_LA_law_587 : decode code 587 = .ok (.iaload, 1) := by decide +kernel
theorem d_LA_law_588 : decode code 588 = .ok (.aload_n 0, 1) := by decide +kernel
theorem d_LA_law_589 : decode code 589 = .ok (.iload_n 3, 1) := by decide +kernel
theorem d_LA_law_590 : decode code 590 = .ok (.iconst 2, 1) := by decide +kernel
theorem d_LA_law_591 : decode code 591 = .ok (.iadd, 1) := by decide +kernel
theorem d_LA_law_592 : decode code 592 = .ok (.iaload, 1) := by decide +kernel
theorem d_LA_law_593 : decode code 593 = .ok (.aload_n 0, 1) := by decide +kernel
theorem d_LA_law_594 : decode code 594 = .ok (.iload_n 3, 1) := by decide +kernel
theorem d_LA_law_595 : decode code 595 = .ok (.iconst 3, 1) := by decide +kernel
theorem d_LA_law_596 : decode code 596 = .ok (.iadd, 1) := by decide +kernel
theorem d_LA_law_597 : decode code 597 = .ok (.iaload, 1) := by decide +kernel
theorem d_LA_law_598 : decode code 598 = .ok (.ifCond .eq 7, 3) := by decide +kernel
theorem d_LA_law_601 : decode code 601 = .ok (.iconst 1, 1) := by decide +kernel
theorem d_LA_law_602 : decode code 602 = .ok (.goto 4, 3) := by decide +kernel
theorem d_LA_law_605 : decode code 605 = .ok (.iconst 0, 1) := by decide +kernel
theorem d_LA_law_606 : decode code 606 = .ok (.invokevirtual 73, 3) := by decide +kernel
theorem d_LA_law_609 : decode code 609 = .ok (.aload_n 2, 1) := by decide +kernel
theorem d_LA_law_610 : decode code 610 = .ok (.aload_n 0, 1) := by decide +kernel
theorem d_LA_law_611 : decode code 611 = .ok (.iload_n 3, 1) := by decide +kernel
theorem d_LA_law_612 : decode code 612 = .ok (.iconst 1, 1) := by decide +kernel
theorem d_LA_law_613 : decode code 613 = .ok (.iadd, 1) := by decide +kernel
theorem d_LA_law_614 : decode code 614 = .ok (.iaload, 1) := by decide +kernel
theorem d_LA_law_615 : decode code 615 = .ok (.aload_n 0, 1) := by decide +kernel
theorem d_LA_law_616 : decode code 616 = .ok (.iload_n 3, 1) := by decide +kernel
theorem d_LA_law_617 : decode code 617 = .ok (.iconst 2, 1) := by decide +kernel
theorem d_LA_law_618 : decode code 618 = .ok (.iadd, 1) := by decide +kernel
theorem d_LA_law_619 : decode code 619 = .ok (.iaload, 1) := by decide +kernel
theorem d_LA_law_620 : decode code 620 = .ok (.aload_n 0, 1) := by decide +kernel
theorem d_LA_law_621 : decode code 621 = .ok (.iload_n 3, 1) := by decide +kernel
theorem d_LA_law_622 : decode code 622 = .ok (.iconst 3, 1) := by decide +kernel
theorem d_LA_law_623 : decode code 623 = .ok (.iadd, 1) := by decide +kernel
theorem d_LA_law_624 : decode code 624 = .ok (.iaload, 1) := by decide +kernel
theorem d_LA_law_625 : decode code 625 = .ok (.ifCond .eq 7, 3) := by decide +kernel
theorem d_LA_law_628 : decode code 628 = .ok (.iconst 1, 1) := by decide +kernel
theorem d_LA_law_629 : decode code 629 = .ok (.goto 4, 3) := by decide +kernel
theorem d_LA_law_632 : decode code 632 = .ok (.iconst 0, 1) := by decide +kernel
theorem d_LA_law_633 : decode code 633 = .ok (.invokevirtual 77, 3) := by decide +kernel
theorem d_LA_law_636 : decode code 636 = .ok (.if_icmp .eq 38, 3) := by decide +kernel
theorem d_LA_law_639 : decode code 639 = .ok (.iconst 0, 1) := by decide +kernel
theorem d_LA_law_640 : decode code 640 = .ok (.ireturn, 1) := by decide +kernel
theorem d_LA_law_641 : decode code 641 = .ok (.aload_n 1, 1) := by decide +kernel
theorem d_LA_law_642 : decode code 642 = .ok (.aload_n 0, 1) := by decide +kernel
theorem d_LA_law_643 : decode code 643 = .ok (.iload_n 3, 1) := by decide +kernel
theorem d_LA_law_644 : decode code 644 = .ok (.iconst 1, 1) := by decide +kernel
theorem d_LA_law_645 : decode code 645 = .ok (.iadd, 1) := by decide +kernel
theorem d_LA_law_646 : decode code 646 = .ok (.iaload, 1) := by decide +kernel
theorem d_LA_law_647 : decode code 647 = .ok (.aload_n 0, 1) := by decide +kernel
theorem d_LA_law_648 : decode code 648 = .ok (.iload_n 3, 1) := by decide +kernel
theorem d_LA_law_649 : decode code 649 = .ok (.iconst 2, 1) := by decide +kernel
theorem d_LA_law_650 : decode code 650 = .ok (.iadd, 1) := by decide +kernel
theorem d_LA_law_651 : decode code 651 = .ok (.iaload, 1) := by decide +kernel
theorem d_LA_law_652 : decode code 652 = .ok (.invokevirtual 78, 3) := by decide +kernel
theorem d_LA_law_655 : decode code 655 = .ok (.aload_n 2, 1) := by decide +kernel
theorem d_LA_law_656 : decode code 656 = .ok (.aload_n 0, 1) := by decide +kernel
theorem d_LA_law_657 : decode code 657 = .ok (.iload_n 3, 1) := by decide +kernel
theorem d_LA_law_658 : decode code 658 = .ok (.iconst 1, 1) := by decide +kernel
theorem d_LA_law_659 : decode code 659 = .ok (.iadd, 1) := by decide +kernel
theorem d_LA_law_660 : decode code 660 = .ok (.iaload, 1) := by decide +kernel
theorem d_LA_law_661 : decode code 661 = .ok (.aload_n 0, 1) := by decide +kernel
theorem d_LA_law_662 : decode code 662 = .ok (.iload_n 3, 1) := by decide +kernel
theorem d_LA_law_663 : decode code 663 = .ok (.iconst 2, 1) := by decide +kernel
theorem d_LA_law_664 : decode code 664 = .ok (.iadd, 1) := by decide +kernel
theorem d_LA_law_665 : decode code 665 = .ok (.iaload, 1) := by decide +kernel
theorem d_LA_law_666 : decode code 666 = .ok (.invokevirtual 81, 3) := by decide +kernel
theorem d_LA_law_669 : decode code 669 = .ok (.if_icmp .eq 5, 3) := by decide +kernel
theorem d_LA_law_672 : decode code 672 = .ok (.iconst 0, 1) := by decide +kernel
theorem d_LA_law_673 : decode code 673 = .ok (.ireturn, 1) := by decide +kernel
theorem d_LA_law_674 : decode code 674 = .ok (.iinc 3 5, 3) := by decide +kernel
theorem d_LA_law_677 : decode code 677 = .ok (.goto (-649), 3) := by decide +kernel
theorem d_LA_law_680 : decode code 680 = .ok (.iconst 1, 1) := by decide +kernel
theorem d_LA_law_681 : decode code 681 = .ok (.ireturn, 1) := by decide +kernel
end
section
/-! BASE: ints as iI z (z : Int), rows in that form, words of calls -/
def iI (z : Int) : Int32 := Int32.ofInt z
theorem iI_add (a b : Int) : iI a + iI b = iI (a + b) := (Int32.ofInt_add a b).symm
theorem iI_sub (a b : Int) : iI a - iI b = iI (a - b) := (Int32.ofInt_sub a b).symm
theorem iI_mul (a b : Int) : iI a * iI b = iI (a * b) := (Int32.ofInt_mul a b).symm
theorem iI_T {z : Int} (h : -2147483648 ≤ z ∧ z ≤ 2147483647) : (iI z).toInt = z := Int32.toInt_ofInt_of_le (by omega) (by omega)
theorem iI_lt {a b : Int} (h : -2147483648 ≤ a ∧ a ≤ 2147483647 ∧ -2147483648 ≤ b ∧ b ≤ 2147483647) : iI a < iI b ↔ a < b := by
  rw [Int32.lt_iff_toInt_lt, iI_T ⟨h.1, h.2.1⟩, iI_T h.2.2]
theorem iI_le {a b : Int} (h : -2147483648 ≤ a ∧ a ≤ 2147483647 ∧ -2147483648 ≤ b ∧ b ≤ 2147483647) : iI a ≤ iI b ↔ a ≤ b := by
  rw [Int32.le_iff_toInt_le, iI_T ⟨h.1, h.2.1⟩, iI_T h.2.2]
theorem iI_eq {a b : Int} (h : -2147483648 ≤ a ∧ a ≤ 2147483647 ∧ -2147483648 ≤ b ∧ b ≤ 2147483647) : iI a = iI b ↔ a = b := by
  rw [← Int32.toInt_inj, iI_T ⟨h.1, h.2.1⟩, iI_T h.2.2]
theorem iI_0 : iI 0 = 0 := by decide
theorem iI_nat (n : Nat) : iI (n : Int) = nI n := Int32.ofInt_eq_ofNat
theorem iI_cl {z : Int} (h : 0 ≤ z ∧ z ≤ 2147483647) : (iI z).toNatClampNeg = z.toNat := by
  rw [← Int32.toNat_toInt, iI_T ⟨by omega, h.2⟩]
theorem iI_in {z : Int} {N : Nat} (h : 0 ≤ z ∧ z < N ∧ z ≤ 2147483647) : vp_in (iI z) N := by
  rw [vp_in_iff, iI_T ⟨by omega, h.2.2⟩]; exact ⟨h.1, h.2.1⟩
theorem iI_inN {i : Int} {j N : Nat} (h : i = (j : Int) ∧ j < N ∧ j ≤ 2147483647) : vp_in (iI i) N := iI_in (by omega)
theorem iI_clN {i : Int} {j N : Nat} (h : i = (j : Int) ∧ j < N ∧ j ≤ 2147483647) : (iI i).toNatClampNeg = j := by rw [iI_cl (by omega)]; omega
theorem iI_of (x : Int32) : ∃ z : Int, x = iI z ∧ -2147483648 ≤ z ∧ z ≤ 2147483647 :=
  ⟨x.toInt, (Int32.ofInt_toInt x).symm, by have := x.le_toInt; omega, by have := x.toInt_lt; omega⟩
theorem iI_div {x y : Int} (h : 0 ≤ x ∧ x ≤ 2147483647 ∧ 0 < y ∧ y ≤ 2147483647) : iI x / iI y = iI (x / y) := by
  obtain ⟨a, rfl⟩ := Int.eq_ofNat_of_zero_le h.1
  obtain ⟨d, rfl⟩ := Int.eq_ofNat_of_zero_le (by omega : 0 ≤ y)
  rw [iI_nat, iI_nat, pk_div (by omega) (by omega) (by omega), ← iI_nat]
  rfl
theorem iI_rem {x y : Int} (h : 0 ≤ x ∧ x ≤ 2147483647 ∧ 0 < y ∧ y ≤ 2147483647) : iI x - iI x / iI y * iI y = iI (x % y) := by
  obtain ⟨a, rfl⟩ := Int.eq_ofNat_of_zero_le h.1
  obtain ⟨d, rfl⟩ := Int.eq_ofNat_of_zero_le (by omega : 0 ≤ y)
  rw [iI_nat, iI_nat, pk_rem (by omega) (by omega) (by omega), ← iI_nat]
  rfl
theorem iI_shr6 {x : Int} (h : 0 ≤ x ∧ x ≤ 2147483647) : iI x >>> (iI 6 &&& 31) = iI (x / 64) := by
  obtain ⟨a, rfl⟩ := Int.eq_ofNat_of_zero_le h.1
  rw [iI_nat, pk_shrN (by omega) _ 6 (by decide), ← iI_nat]
  rfl
theorem iI_shl6 {x : Int} (h : 0 ≤ x ∧ x ≤ 33554431) : iI x <<< (iI 6 &&& 31) = iI (x * 64) := by
  obtain ⟨a, rfl⟩ := Int.eq_ofNat_of_zero_le h.1
  rw [iI_nat, pk_shlN _ 6 (by decide) (by omega), ← iI_nat]
  rfl
theorem iI_and63 {x : Int} (h : 0 ≤ x ∧ x ≤ 2147483647) : iI x &&& iI 63 = iI (x % 64) := by
  obtain ⟨a, rfl⟩ := Int.eq_ofNat_of_zero_le h.1
  rw [iI_nat, pk_andN (by omega) 6 (by decide), ← iI_nat]
  rfl
/-- an array of ints by a function to Int -/
def ai (f : Nat → Int) : Nat → Int32 := fun j => iI (f j)
theorem ai_up (f : Nat → Int) (k : Nat) (v : Int) : upd (ai f) k (iI v) = ai (va_up f k v) := by
  funext j
  by_cases h : j = k <;> simp [upd, ai, va_up, h]
theorem ai_cpy (f g : Nat → Int) (a b n : Nat) : va_cpy (ai f) (ai g) a b n = ai (va_cpy f g a b n) := by
  funext j
  by_cases h : b ≤ j ∧ j < b + n <;> simp [va_cpy, ai, h]
theorem ai_0 : (fun _ : Nat => (0 : Int32)) = ai (fun _ => 0) := by
  funext j
  exact iI_0.symm
section ZX
variable {p : Program} {l : Launch} {e : Env} {R : Room} {s : State} {m : MethodId} {args : Array Value} {below : List Frame} {meth : Method} {c : Code} {H : Heap} {locs : List Loc} {cells slots : Nat} {Q : State → Prop}
variable {cc : ByteArray} {pc : Nat} {ls : Array Slot} {rest : List Value}
theorem ix_iadd (hx : p.tables.exec = Jvm.exec) (hb : c.code = cc) {x y : Int} (hdg : decode cc pc = .ok (.iadd, 1))
    (k : W p l e R s m args below meth c H locs cells slots Q (F0 m (pc + 1) ls (.int (iI (x + y)) :: rest))) : W p l e R s m args below meth c H locs cells slots Q (F0 m pc ls (.int (iI y) :: .int (iI x) :: rest)) :=
  lv_iadd hx hb hdg (by rw [iI_add]; exact k)
theorem ix_isub (hx : p.tables.exec = Jvm.exec) (hb : c.code = cc) {x y : Int} (hdg : decode cc pc = .ok (.isub, 1))
    (k : W p l e R s m args below meth c H locs cells slots Q (F0 m (pc + 1) ls (.int (iI (x - y)) :: rest))) : W p l e R s m args below meth c H locs cells slots Q (F0 m pc ls (.int (iI y) :: .int (iI x) :: rest)) :=
  lv_isub hx hb hdg (by rw [iI_sub]; exact k)
theorem ix_imul (hx : p.tables.exec = Jvm.exec) (hb : c.code = cc) {x y : Int} (hdg : decode cc pc = .ok (.imul, 1))
    (k : W p l e R s m args below meth c H locs cells slots Q (F0 m (pc + 1) ls (.int (iI (x * y)) :: rest))) : W p l e R s m args below meth c H locs cells slots Q (F0 m pc ls (.int (iI y) :: .int (iI x) :: rest)) :=
  lv_imul hx hb hdg (by rw [iI_mul]; exact k)
theorem ix_idiv (hx : p.tables.exec = Jvm.exec) (hb : c.code = cc) {x y : Int} (hdg : decode cc pc = .ok (.idiv, 1)) (h : 0 ≤ x ∧ x ≤ 2147483647 ∧ 0 < y ∧ y ≤ 2147483647)
    (k : W p l e R s m args below meth c H locs cells slots Q (F0 m (pc + 1) ls (.int (iI (x / y)) :: rest))) : W p l e R s m args below meth c H locs cells slots Q (F0 m pc ls (.int (iI y) :: .int (iI x) :: rest)) :=
  lv_idiv hx hb hdg (fun q => by rw [← iI_0, iI_eq (by omega)] at q; omega) (by rw [iI_div h]; exact k)
theorem ix_irem (hx : p.tables.exec = Jvm.exec) (hb : c.code = cc) {x y : Int} (hdg : decode cc pc = .ok (.irem, 1)) (h : 0 ≤ x ∧ x ≤ 2147483647 ∧ 0 < y ∧ y ≤ 2147483647)
    (k : W p l e R s m args below meth c H locs cells slots Q (F0 m (pc + 1) ls (.int (iI (x % y)) :: rest))) : W p l e R s m args below meth c H locs cells slots Q (F0 m pc ls (.int (iI y) :: .int (iI x) :: rest)) :=
  lv_irem hx hb hdg (fun q => by rw [← iI_0, iI_eq (by omega)] at q; omega) (by rw [iI_rem h]; exact k)
theorem ix_shr6 (hx : p.tables.exec = Jvm.exec) (hb : c.code = cc) {x : Int} (hdg : decode cc pc = .ok (.ishr, 1)) (h : 0 ≤ x ∧ x ≤ 2147483647)
    (k : W p l e R s m args below meth c H locs cells slots Q (F0 m (pc + 1) ls (.int (iI (x / 64)) :: rest))) : W p l e R s m args below meth c H locs cells slots Q (F0 m pc ls (.int (iI 6) :: .int (iI x) :: rest)) :=
  lv_ishr hx hb hdg (by rw [iI_shr6 h]; exact k)
theorem ix_shl6 (hx : p.tables.exec = Jvm.exec) (hb : c.code = cc) {x : Int} (hdg : decode cc pc = .ok (.ishl, 1)) (h : 0 ≤ x ∧ x ≤ 33554431)
    (k : W p l e R s m args below meth c H locs cells slots Q (F0 m (pc + 1) ls (.int (iI (x * 64)) :: rest))) : W p l e R s m args below meth c H locs cells slots Q (F0 m pc ls (.int (iI 6) :: .int (iI x) :: rest)) :=
  lv_ishl hx hb hdg (by rw [iI_shl6 h]; exact k)
theorem ix_and63 (hx : p.tables.exec = Jvm.exec) (hb : c.code = cc) {x : Int} (hdg : decode cc pc = .ok (.iand, 1)) (h : 0 ≤ x ∧ x ≤ 2147483647)
    (k : W p l e R s m args below meth c H locs cells slots Q (F0 m (pc + 1) ls (.int (iI (x % 64)) :: rest))) : W p l e R s m args below meth c H locs cells slots Q (F0 m pc ls (.int (iI 63) :: .int (iI x) :: rest)) :=
  lv_iand hx hb hdg (by rw [iI_and63 h]; exact k)
theorem ix_if_eq (hx : p.tables.exec = Jvm.exec) (hb : c.code = cc) {x : Int} {off : Int} {tgt : Nat} (hdg : decode cc pc = .ok (.ifCond .eq off, 3)) (ht : (pc : Int) + off = (tgt : Int)) (h : -2147483648 ≤ x ∧ x ≤ 2147483647)
    (kt : x = 0 → W p l e R s m args below meth c H locs cells slots Q (F0 m tgt ls rest)) (kf : ¬ x = 0 → W p l e R s m args below meth c H locs cells slots Q (F0 m (pc + 3) ls rest)) : W p l e R s m args below meth c H locs cells slots Q (F0 m pc ls (.int (iI x) :: rest)) :=
  lv_if_eq hx hb hdg ht (fun q => kt (by rw [← iI_0, iI_eq (by omega)] at q; omega)) (fun q => kf (by rw [← iI_0, iI_eq (by omega)] at q; omega))
theorem ix_if_ne (hx : p.tables.exec = Jvm.exec) (hb : c.code = cc) {x : Int} {off : Int} {tgt : Nat} (hdg : decode cc pc = .ok (.ifCond .ne off, 3)) (ht : (pc : Int) + off = (tgt : Int)) (h : -2147483648 ≤ x ∧ x ≤ 2147483647)
    (kt : ¬ x = 0 → W p l e R s m args below meth c H locs cells slots Q (F0 m tgt ls rest)) (kf : x = 0 → W p l e R s m args below meth c H locs cells slots Q (F0 m (pc + 3) ls rest)) : W p l e R s m args below meth c H locs cells slots Q (F0 m pc ls (.int (iI x) :: rest)) :=
  lv_if_ne hx hb hdg ht (fun q => kt (by rw [← iI_0, iI_eq (by omega)] at q; omega)) (fun q => kf (by rw [← iI_0, iI_eq (by omega)] at q; omega))
theorem ix_if_lt (hx : p.tables.exec = Jvm.exec) (hb : c.code = cc) {x : Int} {off : Int} {tgt : Nat} (hdg : decode cc pc = .ok (.ifCond .lt off, 3)) (ht : (pc : Int) + off = (tgt : Int)) (h : -2147483648 ≤ x ∧ x ≤ 2147483647)
    (kt : x < 0 → W p l e R s m args below meth c H locs cells slots Q (F0 m tgt ls rest)) (kf : 0 ≤ x → W p l e R s m args below meth c H locs cells slots Q (F0 m (pc + 3) ls rest)) : W p l e R s m args below meth c H locs cells slots Q (F0 m pc ls (.int (iI x) :: rest)) :=
  lv_if_lt hx hb hdg ht (fun q => kt (by rw [← iI_0, iI_lt (by omega)] at q; omega)) (fun q => kf (by rw [← iI_0, iI_lt (by omega)] at q; omega))
theorem ix_if_ge (hx : p.tables.exec = Jvm.exec) (hb : c.code = cc) {x : Int} {off : Int} {tgt : Nat} (hdg : decode cc pc = .ok (.ifCond .ge off, 3)) (ht : (pc : Int) + off = (tgt : Int)) (h : -2147483648 ≤ x ∧ x ≤ 2147483647)
    (kt : 0 ≤ x → W p l e R s m args below meth c H locs cells slots Q (F0 m tgt ls rest)) (kf : x < 0 → W p l e R s m args below meth c H locs cells slots Q (F0 m (pc + 3) ls rest)) : W p l e R s m args below meth c H locs cells slots Q (F0 m pc ls (.int (iI x) :: rest)) :=
  lv_if_ge hx hb hdg ht (fun q => kt (by rw [← iI_0, iI_le (by omega)] at q; omega)) (fun q => kf (by rw [← iI_0, iI_le (by omega)] at q; omega))
theorem ix_if_gt (hx : p.tables.exec = Jvm.exec) (hb : c.code = cc) {x : Int} {off : Int} {tgt : Nat} (hdg : decode cc pc = .ok (.ifCond .gt off, 3)) (ht : (pc : Int) + off = (tgt : Int)) (h : -2147483648 ≤ x ∧ x ≤ 2147483647)
    (kt : 0 < x → W p l e R s m args below meth c H locs cells slots Q (F0 m tgt ls rest)) (kf : x ≤ 0 → W p l e R s m args below meth c H locs cells slots Q (F0 m (pc + 3) ls rest)) : W p l e R s m args below meth c H locs cells slots Q (F0 m pc ls (.int (iI x) :: rest)) :=
  lv_if_gt hx hb hdg ht (fun q => kt (by rw [← iI_0, iI_lt (by omega)] at q; omega)) (fun q => kf (by rw [← iI_0, iI_lt (by omega)] at q; omega))
theorem ix_if_le (hx : p.tables.exec = Jvm.exec) (hb : c.code = cc) {x : Int} {off : Int} {tgt : Nat} (hdg : decode cc pc = .ok (.ifCond .le off, 3)) (ht : (pc : Int) + off = (tgt : Int)) (h : -2147483648 ≤ x ∧ x ≤ 2147483647)
    (kt : x ≤ 0 → W p l e R s m args below meth c H locs cells slots Q (F0 m tgt ls rest)) (kf : 0 < x → W p l e R s m args below meth c H locs cells slots Q (F0 m (pc + 3) ls rest)) : W p l e R s m args below meth c H locs cells slots Q (F0 m pc ls (.int (iI x) :: rest)) :=
  lv_if_le hx hb hdg ht (fun q => kt (by rw [← iI_0, iI_le (by omega)] at q; omega)) (fun q => kf (by rw [← iI_0, iI_le (by omega)] at q; omega))
theorem ix_icmp_eq (hx : p.tables.exec = Jvm.exec) (hb : c.code = cc) {x y : Int} {off : Int} {tgt : Nat} (hdg : decode cc pc = .ok (.if_icmp .eq off, 3)) (ht : (pc : Int) + off = (tgt : Int)) (h : -2147483648 ≤ x ∧ x ≤ 2147483647 ∧ -2147483648 ≤ y ∧ y ≤ 2147483647)
    (kt : x = y → W p l e R s m args below meth c H locs cells slots Q (F0 m tgt ls rest)) (kf : ¬ x = y → W p l e R s m args below meth c H locs cells slots Q (F0 m (pc + 3) ls rest)) : W p l e R s m args below meth c H locs cells slots Q (F0 m pc ls (.int (iI y) :: .int (iI x) :: rest)) :=
  lv_icmp_eq hx hb hdg ht (fun q => kt (by rw [iI_eq (by omega)] at q; omega)) (fun q => kf (by rw [iI_eq (by omega)] at q; omega))
theorem ix_icmp_ne (hx : p.tables.exec = Jvm.exec) (hb : c.code = cc) {x y : Int} {off : Int} {tgt : Nat} (hdg : decode cc pc = .ok (.if_icmp .ne off, 3)) (ht : (pc : Int) + off = (tgt : Int)) (h : -2147483648 ≤ x ∧ x ≤ 2147483647 ∧ -2147483648 ≤ y ∧ y ≤ 2147483647)
    (kt : ¬ x = y → W p l e R s m args below meth c H locs cells slots Q (F0 m tgt ls rest)) (kf : x = y → W p l e R s m args below meth c H locs cells slots Q (F0 m (pc + 3) ls rest)) : W p l e R s m args below meth c H locs cells slots Q (F0 m pc ls (.int (iI y) :: .int (iI x) :: rest)) :=
  lv_icmp_ne hx hb hdg ht (fun q => kt (by rw [iI_eq (by omega)] at q; omega)) (fun q => kf (by rw [iI_eq (by omega)] at q; omega))
theorem ix_icmp_lt (hx : p.tables.exec = Jvm.exec) (hb : c.code = cc) {x y : Int} {off : Int} {tgt : Nat} (hdg : decode cc pc = .ok (.if_icmp .lt off, 3)) (ht : (pc : Int) + off = (tgt : Int)) (h : -2147483648 ≤ x ∧ x ≤ 2147483647 ∧ -2147483648 ≤ y ∧ y ≤ 2147483647)
    (kt : x < y → W p l e R s m args below meth c H locs cells slots Q (F0 m tgt ls rest)) (kf : y ≤ x → W p l e R s m args below meth c H locs cells slots Q (F0 m (pc + 3) ls rest)) : W p l e R s m args below meth c H locs cells slots Q (F0 m pc ls (.int (iI y) :: .int (iI x) :: rest)) :=
  lv_icmp_lt hx hb hdg ht (fun q => kt (by rw [iI_lt (by omega)] at q; omega)) (fun q => kf (by rw [iI_lt (by omega)] at q; omega))
theorem ix_icmp_ge (hx : p.tables.exec = Jvm.exec) (hb : c.code = cc) {x y : Int} {off : Int} {tgt : Nat} (hdg : decode cc pc = .ok (.if_icmp .ge off, 3)) (ht : (pc : Int) + off = (tgt : Int)) (h : -2147483648 ≤ x ∧ x ≤ 2147483647 ∧ -2147483648 ≤ y ∧ y ≤ 2147483647)
    (kt : y ≤ x → W p l e R s m args below meth c H locs cells slots Q (F0 m tgt ls rest)) (kf : x < y → W p l e R s m args below meth c H locs cells slots Q (F0 m (pc + 3) ls rest)) : W p l e R s m args below meth c H locs cells slots Q (F0 m pc ls (.int (iI y) :: .int (iI x) :: rest)) :=
  lv_icmp_ge hx hb hdg ht (fun q => kt (by rw [iI_le (by omega)] at q; omega)) (fun q => kf (by rw [iI_le (by omega)] at q; omega))
theorem ix_icmp_gt (hx : p.tables.exec = Jvm.exec) (hb : c.code = cc) {x y : Int} {off : Int} {tgt : Nat} (hdg : decode cc pc = .ok (.if_icmp .gt off, 3)) (ht : (pc : Int) + off = (tgt : Int)) (h : -2147483648 ≤ x ∧ x ≤ 2147483647 ∧ -2147483648 ≤ y ∧ y ≤ 2147483647)
    (kt : y < x → W p l e R s m args below meth c H locs cells slots Q (F0 m tgt ls rest)) (kf : x ≤ y → W p l e R s m args below meth c H locs cells slots Q (F0 m (pc + 3) ls rest)) : W p l e R s m args below meth c H locs cells slots Q (F0 m pc ls (.int (iI y) :: .int (iI x) :: rest)) :=
  lv_icmp_gt hx hb hdg ht (fun q => kt (by rw [iI_lt (by omega)] at q; omega)) (fun q => kf (by rw [iI_lt (by omega)] at q; omega))
theorem ix_icmp_le (hx : p.tables.exec = Jvm.exec) (hb : c.code = cc) {x y : Int} {off : Int} {tgt : Nat} (hdg : decode cc pc = .ok (.if_icmp .le off, 3)) (ht : (pc : Int) + off = (tgt : Int)) (h : -2147483648 ≤ x ∧ x ≤ 2147483647 ∧ -2147483648 ≤ y ∧ y ≤ 2147483647)
    (kt : x ≤ y → W p l e R s m args below meth c H locs cells slots Q (F0 m tgt ls rest)) (kf : y < x → W p l e R s m args below meth c H locs cells slots Q (F0 m (pc + 3) ls rest)) : W p l e R s m args below meth c H locs cells slots Q (F0 m pc ls (.int (iI y) :: .int (iI x) :: rest)) :=
  lv_icmp_le hx hb hdg ht (fun q => kt (by rw [iI_le (by omega)] at q; omega)) (fun q => kf (by rw [iI_le (by omega)] at q; omega))
theorem ix_table (hx : p.tables.exec = Jvm.exec) (hb : c.code = cc) {dflt lo hi : Int} {offs : Array Int} {len : Nat} {x : Int} {tgt : Nat} (hdg : decode cc pc = .ok (.tableswitch dflt lo hi offs, len)) (h : -2147483648 ≤ x ∧ x ≤ 2147483647) (off : Int) (h1 : lo ≤ x ∧ x ≤ hi) (ho : offs[(x - lo).toNat]? = some off) (ht : (pc : Int) + off = (tgt : Int))
    (k : W p l e R s m args below meth c H locs cells slots Q (F0 m tgt ls rest)) : W p l e R s m args below meth c H locs cells slots Q (F0 m pc ls (.int (iI x) :: rest)) :=
  lv_tableIn hx hb hdg (by rw [iI_T h]; omega) (by rw [iI_T h]; omega) (by rw [iI_T h]; exact ho) ht k
theorem ix_tableO (hx : p.tables.exec = Jvm.exec) (hb : c.code = cc) {dflt lo hi : Int} {offs : Array Int} {len : Nat} {x : Int} {tgt : Nat} (hdg : decode cc pc = .ok (.tableswitch dflt lo hi offs, len)) (h : -2147483648 ≤ x ∧ x ≤ 2147483647) (h1 : x < lo ∨ hi < x) (ht : (pc : Int) + dflt = (tgt : Int))
    (k : W p l e R s m args below meth c H locs cells slots Q (F0 m tgt ls rest)) : W p l e R s m args below meth c H locs cells slots Q (F0 m pc ls (.int (iI x) :: rest)) :=
  lv_tableOut hx hb hdg (by rw [iI_T h]; exact h1) ht k
variable {D : va_G} {cl : List vw_C} {tys : List (ClassId × FieldType)} {ws : va_W} {a : Nat} {A : Nat → Prop} {H0 : Heap}
theorem ix_iald (hx : p.tables.exec = Jvm.exec) (hb : c.code = cc) (hK : va_K D cl tys s) (hP : va_P D cl ws H) (q0 t0 : Nat) {cA : ClassId} {n : Nat} {f : Nat → Int} (ha : ws[q0]? = some (a, .inl (cA, n, .inl (ai f)))) (ht : tys[t0]? = some (cA, .int)) {i : Int} (j : Nat) (h : i = (j : Int) ∧ j < n ∧ j ≤ 2147483647) (hdg : decode cc pc = .ok (.iaload, 1))
    (kk : W p l e R s m args below meth c H locs cells slots Q (F0 m (pc + 1) ls (.int (iI (f j)) :: rest))) : W p l e R s m args below meth c H locs cells slots Q (F0 m pc ls (.int (iI i) :: .ref a :: rest)) :=
  va_iald hx hb hK hP q0 t0 ha ht (iI_inN h) hdg (by rw [iI_clN h]; exact kk)
theorem ix_bald (hx : p.tables.exec = Jvm.exec) (hb : c.code = cc) (hK : va_K D cl tys s) (hP : va_P D cl ws H) (q0 t0 : Nat) {cA : ClassId} {n : Nat} {f : Nat → Int} (ha : ws[q0]? = some (a, .inl (cA, n, .inl (ai f)))) (ht : tys[t0]? = some (cA, .byte)) {i : Int} (j : Nat) (h : i = (j : Int) ∧ j < n ∧ j ≤ 2147483647) (hdg : decode cc pc = .ok (.baload, 1))
    (kk : W p l e R s m args below meth c H locs cells slots Q (F0 m (pc + 1) ls (.int (iI (f j)) :: rest))) : W p l e R s m args below meth c H locs cells slots Q (F0 m pc ls (.int (iI i) :: .ref a :: rest)) :=
  va_bald hx hb hK hP q0 t0 ha ht (iI_inN h) hdg (by rw [iI_clN h]; exact kk)
theorem ix_lald (hx : p.tables.exec = Jvm.exec) (hb : c.code = cc) (hK : va_K D cl tys s) (hP : va_P D cl ws H) (q0 t0 : Nat) {cA : ClassId} {n : Nat} {f : Nat → Int64} (ha : ws[q0]? = some (a, .inl (cA, n, .inr (.inl f)))) (ht : tys[t0]? = some (cA, .long)) {i : Int} (j : Nat) (h : i = (j : Int) ∧ j < n ∧ j ≤ 2147483647) (hdg : decode cc pc = .ok (.laload, 1))
    (kk : W p l e R s m args below meth c H locs cells slots Q (F0 m (pc + 1) ls (.long (f j) :: rest))) : W p l e R s m args below meth c H locs cells slots Q (F0 m pc ls (.int (iI i) :: .ref a :: rest)) :=
  va_lald hx hb hK hP q0 t0 ha ht (iI_inN h) hdg (by rw [iI_clN h]; exact kk)
theorem ix_aald (hx : p.tables.exec = Jvm.exec) (hb : c.code = cc) (hK : va_K D cl tys s) (hP : va_P D cl ws H) (q0 t0 : Nat) {cA : ClassId} {C : String} {n : Nat} {f : Nat → Option Nat} (ha : ws[q0]? = some (a, .inl (cA, n, .inr (.inr (.inr (.inr f)))))) (ht : tys[t0]? = some (cA, .object C)) {i : Int} (b j : Nat) (h : i = (j : Int) ∧ j < n ∧ j ≤ 2147483647) (hf : f j = some b) (hdg : decode cc pc = .ok (.aaload, 1))
    (kk : W p l e R s m args below meth c H locs cells slots Q (F0 m (pc + 1) ls (.ref b :: rest))) : W p l e R s m args below meth c H locs cells slots Q (F0 m pc ls (.int (iI i) :: .ref a :: rest)) :=
  va_aldq hx hb hK hP q0 t0 ha ht (iI_inN h) hdg (by rw [iI_clN h, hf]; exact kk)
theorem ix_iast (hx : p.tables.exec = Jvm.exec) (hb : c.code = cc) (hK : va_K D cl tys s) (hP : va_P D cl ws H) (hD : va_D A ws) (hS : va_S A H0 H locs) (q0 t0 : Nat) {cA : ClassId} {n : Nat} {f : Nat → Int} (ha : ws[q0]? = some (a, .inl (cA, n, .inl (ai f)))) (ht : tys[t0]? = some (cA, .int)) {i v : Int} (j : Nat) (h : i = (j : Int) ∧ j < n ∧ j ≤ 2147483647) (hdg : decode cc pc = .ok (.iastore, 1))
    (kk : ∀ (H1 : Heap) (locs1 : List Loc), va_P D cl (ws.set q0 (a, .inl (cA, n, .inl (ai (va_up f j v))))) H1 → va_D A (ws.set q0 (a, .inl (cA, n, .inl (ai (va_up f j v))))) → va_S A H0 H1 locs1 → W p l e R s m args below meth c H1 locs1 cells slots Q (F0 m (pc + 1) ls rest)) : W p l e R s m args below meth c H locs cells slots Q (F0 m pc ls (.int (iI v) :: .int (iI i) :: .ref a :: rest)) :=
  va_iast hx hb hK hP hD hS q0 t0 ha ht (iI_inN h) hdg (fun H1 L1 p1 d1 s1 => by rw [iI_clN h, ai_up] at p1 d1; exact kk H1 L1 p1 d1 s1)
theorem ix_last (hx : p.tables.exec = Jvm.exec) (hb : c.code = cc) (hK : va_K D cl tys s) (hP : va_P D cl ws H) (hD : va_D A ws) (hS : va_S A H0 H locs) (q0 t0 : Nat) {cA : ClassId} {n : Nat} {f : Nat → Int64} (ha : ws[q0]? = some (a, .inl (cA, n, .inr (.inl f)))) (ht : tys[t0]? = some (cA, .long)) {i : Int} {v : Int64} (j : Nat) (h : i = (j : Int) ∧ j < n ∧ j ≤ 2147483647) (hdg : decode cc pc = .ok (.lastore, 1))
    (kk : ∀ (H1 : Heap) (locs1 : List Loc), va_P D cl (ws.set q0 (a, .inl (cA, n, .inr (.inl (vp_updL f j v))))) H1 → va_D A (ws.set q0 (a, .inl (cA, n, .inr (.inl (vp_updL f j v))))) → va_S A H0 H1 locs1 → W p l e R s m args below meth c H1 locs1 cells slots Q (F0 m (pc + 1) ls rest)) : W p l e R s m args below meth c H locs cells slots Q (F0 m pc ls (.long v :: .int (iI i) :: .ref a :: rest)) :=
  va_last hx hb hK hP hD hS q0 t0 ha ht (iI_inN h) hdg (fun H1 L1 p1 d1 s1 => by rw [iI_clN h] at p1 d1; exact kk H1 L1 p1 d1 s1)
theorem byte_ok : ∀ n, n < 128 → (nI n).toInt8.toInt32 = nI n ∧ vp_nar .byte (nI n) = nI n := by decide +kernel
theorem iI_byte {v : Int} (h : 0 ≤ v ∧ v < 128) : (iI v).toInt8.toInt32 = iI v ∧ vp_nar .byte (iI v) = iI v := by
  obtain ⟨n, rfl⟩ := Int.eq_ofNat_of_zero_le h.1
  rw [iI_nat]
  exact byte_ok n (by omega)
theorem ix_bast (hx : p.tables.exec = Jvm.exec) (hb : c.code = cc) (hK : va_K D cl tys s) (hP : va_P D cl ws H) (hD : va_D A ws) (hS : va_S A H0 H locs) (q0 t0 : Nat) {cA : ClassId} {n : Nat} {f : Nat → Int} (ha : ws[q0]? = some (a, .inl (cA, n, .inl (ai f)))) (ht : tys[t0]? = some (cA, .byte)) {i v : Int} (j : Nat) (h : i = (j : Int) ∧ j < n ∧ j ≤ 2147483647) (hv : 0 ≤ v ∧ v < 128) (hdg : decode cc pc = .ok (.bastore, 1))
    (kk : ∀ (H1 : Heap) (locs1 : List Loc), va_P D cl (ws.set q0 (a, .inl (cA, n, .inl (ai (va_up f j v))))) H1 → va_D A (ws.set q0 (a, .inl (cA, n, .inl (ai (va_up f j v))))) → va_S A H0 H1 locs1 → W p l e R s m args below meth c H1 locs1 cells slots Q (F0 m (pc + 1) ls rest)) : W p l e R s m args below meth c H locs cells slots Q (F0 m pc ls (.int (iI v) :: .int (iI i) :: .ref a :: rest)) :=
  va_bast hx hb hK hP hD hS q0 t0 ha ht (iI_inN h) hdg (fun H1 L1 p1 d1 s1 => by rw [iI_clN h, (iI_byte hv).2, ai_up] at p1 d1; exact kk H1 L1 p1 d1 s1)
theorem ix_i2b (hx : p.tables.exec = Jvm.exec) (hb : c.code = cc) {x : Int} (hdg : decode cc pc = .ok (.i2b, 1)) (h : 0 ≤ x ∧ x < 128)
    (k : W p l e R s m args below meth c H locs cells slots Q (F0 m (pc + 1) ls (.int (iI x) :: rest))) : W p l e R s m args below meth c H locs cells slots Q (F0 m pc ls (.int (iI x) :: rest)) :=
  lv_i2b hx hb hdg (iI_byte h).1 k
theorem ix_alen (hx : p.tables.exec = Jvm.exec) (hb : c.code = cc) (hK : va_K D cl tys s) (hP : va_P D cl ws H) (q0 t0 : Nat) {cA : ClassId} {x : vp_A} (ha : ws[q0]? = some (a, .inl (cA, x))) {ty : FieldType} (ht : tys[t0]? = some (cA, ty)) (n : Int) (hn : (x.1 : Int) = n) (hdg : decode cc pc = .ok (.arraylength, 1))
    (kk : W p l e R s m args below meth c H locs cells slots Q (F0 m (pc + 1) ls (.int (iI n) :: rest))) : W p l e R s m args below meth c H locs cells slots Q (F0 m pc ls (.ref a :: rest)) :=
  va_alen hx hb hK hP q0 t0 ha ht (v := iI n) (by rw [← hn, iI_nat]; rfl) hdg kk
theorem ix_min (hx : p.tables.exec = Jvm.exec) (hb : c.code = cc) (hml : c.maxLocals = ls.size) {own : String} {index : Nat} (hown : s.vm.findClass own = some m.cls) (hlink : (Cond.methodLink own index Lib.Math.min.name).before args s = true) (hstat : (Cond.static Lib.Math.min.name).before args s = true) (hini : (Cond.initialized "java/lang/Math").before args s = true) (hcode : (Cond.code Lib.Math.min.name Lib.Math.min.code 2 (some .int)).before args s = true)
    (hframes : 1 ≤ R.frames) (hlocals : (rest.map fun v => v.category).sum + 13 ≤ R.locals) (hc : cells ≤ R.cells) (hs : slots ≤ R.slots) {x y : Int} (z : Int) (h : -2147483648 ≤ x ∧ x ≤ 2147483647 ∧ -2147483648 ≤ y ∧ y ≤ 2147483647) (hz : z = min x y) (hdg : decode cc pc = .ok (.invokestatic index, 3))
    (kk : W p l e R s m args below meth c H locs cells slots Q (F0 m (pc + 3) ls (.int (iI z) :: rest))) : W p l e R s m args below meth c H locs cells slots Q (F0 m pc ls (.int (iI y) :: .int (iI x) :: rest)) := by
  refine va_mmin hx hb hml hown hlink hstat hini hcode hframes hlocals hc hs hdg ?_
  have e : (if iI y < iI x then iI y else iI x) = iI z := by
    by_cases q : y < x
    · rw [if_pos ((iI_lt (by omega)).mpr q), hz, Int.min_eq_right (by omega)]
    · rw [if_neg (fun q2 => q ((iI_lt (by omega)).mp q2)), hz, Int.min_eq_left (by omega)]
  rw [e]
  exact kk
theorem ix_copyi (hx : p.tables.exec = Jvm.exec) (hb : c.code = cc) (hml : c.maxLocals = ls.size) {own : String} {index : Nat} (hown : s.vm.findClass own = some m.cls) (hlink : (Cond.methodLink own index arraycopyName).before args s = true) (hnat : (Cond.native arraycopyName).before args s = true) (hstat : (Cond.static arraycopyName).before args s = true) (hini : (Cond.initialized "java/lang/System").before args s = true)
    (hK : va_K D cl tys s) (hP : va_P D cl ws H) (hD : va_D A ws) (hS : va_S A H0 H locs) (q0 t0 : Nat) {cA : ClassId} {N : Nat} {f : Nat → Int} (ha : ws[q0]? = some (a, .inl (cA, N, .inl (ai f)))) (ht : tys[t0]? = some (cA, .int)) {sp dp n : Int} (a1 b1 k1 : Nat) (h : sp = (a1 : Int) ∧ dp = (b1 : Int) ∧ n = (k1 : Int) ∧ a1 + k1 ≤ N ∧ b1 + k1 ≤ N ∧ N ≤ 2147483647)
    (hframes : 1 ≤ R.frames) (hlocals : (rest.map fun v => v.category).sum + (nativeFrameWords "java/lang/System" "arraycopy" 5 + 11) ≤ R.locals) (hdg : decode cc pc = .ok (.invokestatic index, 3))
    (kk : ∀ (H1 : Heap) (locs1 : List Loc), va_P D cl (ws.set q0 (a, .inl (cA, N, .inl (ai (va_cpy f f a1 b1 k1))))) H1 → va_D A (ws.set q0 (a, .inl (cA, N, .inl (ai (va_cpy f f a1 b1 k1))))) → va_S A H0 H1 locs1 → W p l e R s m args below meth c H1 locs1 cells slots Q (F0 m (pc + 3) ls rest)) : W p l e R s m args below meth c H locs cells slots Q (F0 m pc ls (.int (iI n) :: .int (iI dp) :: .ref a :: .int (iI sp) :: .ref a :: rest)) := by
  have c1 : (iI sp).toNatClampNeg = a1 := by rw [iI_cl (by omega)]; omega
  have c2 : (iI dp).toNatClampNeg = b1 := by rw [iI_cl (by omega)]; omega
  have c3 : (iI n).toNatClampNeg = k1 := by rw [iI_cl (by omega)]; omega
  have z : ∀ {x : Int}, 0 ≤ x → x ≤ 2147483647 → ¬ iI x < 0 := fun h1 h2 q => by rw [← iI_0, iI_lt (by omega)] at q; omega
  refine va_copyi hx hb hml hown hlink hnat hstat hini hK hP hD hS q0 q0 t0 t0 ha ha ht ht rfl (z (by omega) (by omega)) (z (by omega) (by omega)) (z (by omega) (by omega)) (by rw [c1, c3]; omega) (by rw [c2, c3]; omega) (fun i _ => rfl) hframes hlocals hdg (fun H1 L1 p1 d1 s1 => ?_)
  rw [c1, c2, c3, ai_cpy] at p1 d1
  exact kk H1 L1 p1 d1 s1
end ZX
/-! words of calls: all words of lw_ok stand in every method -/
theorem gd_all {ws : List Cond} (h : ∀ w ∈ ws, w ∈ lw_ok) : GoodIn lw_ok ws := fun w hw => ⟨h w hw, good_of_word (List.mem_filter.mp (h w hw)).2⟩
def zwD (y : MethodName) (n : Nat) : Prop := y.cls ≠ "java/lang/invoke/MethodHandle" ∧ y.cls ≠ "java/lang/invoke/VarHandle" ∧ (parseMethodDescriptor y.desc).map (fun d => d.parameters.length) = some n
def zwV (own : String) (index : Nat) (y : MethodName) (bytes : ByteArray) (maxL : Nat) (ret : Option FieldType) (n : Nat) : Prop :=
  (Cond.methodLink own index y ∈ lw_ok ∧ Cond.instanceMethod y ∈ lw_ok ∧ Cond.selects y.cls y y ∈ lw_ok ∧ Cond.initialized y.cls ∈ lw_ok ∧ Cond.code y bytes maxL ret ∈ lw_ok) ∧ zwD y n
def zwS (own : String) (index : Nat) (y : MethodName) (bytes : ByteArray) (maxL : Nat) (ret : Option FieldType) (n : Nat) : Prop :=
  (Cond.methodLink own index y ∈ lw_ok ∧ Cond.static y ∈ lw_ok ∧ Cond.initialized y.cls ∈ lw_ok ∧ Cond.code y bytes maxL ret ∈ lw_ok) ∧ zwD y n
def zwI (own : String) (index : Nat) (y : MethodName) (bytes : ByteArray) (maxL : Nat) (n : Nat) : Prop :=
  (Cond.methodLink own index y ∈ lw_ok ∧ Cond.instanceMethod y ∈ lw_ok ∧ Cond.initialized y.cls ∈ lw_ok ∧ Cond.code y bytes maxL none ∈ lw_ok) ∧ zwD y n
theorem zwV.good {own : String} {index : Nat} {y : MethodName} {bytes : ByteArray} {maxL : Nat} {ret : Option FieldType} {n : Nat} (h : zwV own index y bytes maxL ret n) : GoodIn lw_ok (wsV own index y.cls y (Cond.code y bytes maxL ret :: lw_ok)) := by
  obtain ⟨⟨h1, h2, h3, h4, h5⟩, -⟩ := h
  refine gd_all (fun w hw => ?_)
  simp only [wsV, List.cons_append, List.nil_append, List.mem_cons] at hw
  rcases hw with rfl | rfl | rfl | rfl | rfl | hw <;> assumption
theorem zwS.good {own : String} {index : Nat} {y : MethodName} {bytes : ByteArray} {maxL : Nat} {ret : Option FieldType} {n : Nat} (h : zwS own index y bytes maxL ret n) : GoodIn lw_ok (va_wsS own index y (Cond.code y bytes maxL ret :: lw_ok)) := by
  obtain ⟨⟨h1, h2, h3, h4⟩, -⟩ := h
  refine gd_all (fun w hw => ?_)
  simp only [va_wsS, List.cons_append, List.nil_append, List.mem_cons] at hw
  rcases hw with rfl | rfl | rfl | rfl | hw <;> assumption
theorem zwI.good {own : String} {index : Nat} {y : MethodName} {bytes : ByteArray} {maxL n : Nat} (h : zwI own index y bytes maxL n) : GoodIn lw_ok (Cond.code y bytes maxL none :: lw_ok) := by
  obtain ⟨⟨h1, h2, h3, h4⟩, -⟩ := h
  refine gd_all (fun w hw => ?_)
  simp only [List.mem_cons] at hw
  rcases hw with rfl | hw <;> assumption
end
section
/-! WORLD: classes, array classes, static rows, the forms of contracts, rows of calls -/
abbrev classes : List vw_C := [(R_CS, F_CS, 6), (R_RG, F_RG, 2), (R_TB, F_TB, 4), (R_CR, F_CR, 2), (R_MO, F_MO, 9)]
abbrev zG : Type := va_G × (ClassId × ClassId × ClassId × ClassId) × (Nat → Nat)
abbrev zI (g : zG) : ClassId := g.2.1.1
abbrev zJ (g : zG) : ClassId := g.2.1.2.1
abbrev zBt (g : zG) : ClassId := g.2.1.2.2.1
abbrev zRf (g : zG) : ClassId := g.2.1.2.2.2
abbrev tz (g : zG) : List (ClassId × FieldType) := [(zI g, .int), (zJ g, .long), (zBt g, .byte), (zRf g, .object R_RG)]
abbrev zr (f n : Nat) : Room := { frames := f, cells := 0, slots := 0, locals := n }
def stC (i : Nat) : String := if i < 18 then "CharacterSets" else if i < 20 then "CharacterSets$Table" else "CharacterSets$CaseRings"
def stN : Nat → String := fun i => match i with
  | 0 => "LETTER_GROUPS"
  | 1 => "NOTHING"
  | 2 => "DIGITS"
  | 3 => "LOWERS"
  | 4 => "UPPERS"
  | 5 => "ALPHAS"
  | 6 => "ALNUMS"
  | 7 => "WORDS"
  | 8 => "SPACES"
  | 9 => "BLANKS"
  | 10 => "CONTROLS"
  | 11 => "GRAPHS"
  | 12 => "PRINTS"
  | 13 => "PUNCTS"
  | 14 => "HEX_DIGITS"
  | 15 => "ASCII"
  | 16 => "VERTICALS"
  | 17 => "HORIZONTALS"
  | 18 => "CATEGORY_ROWS"
  | 19 => "SCRIPT_ROWS"
  | 20 => "PAIR_ROWS"
  | _ => "TRIPLES"
def stE : Nat → List Int := fun i => match i with
  | 0 => [15, 112, 128, 1792, 260096, 3932160, 29360128]
  | 1 => []
  | 2 => [48, 57]
  | 3 => [97, 122]
  | 4 => [65, 90]
  | 5 => [65, 90, 97, 122]
  | 6 => [48, 57, 65, 90, 97, 122]
  | 7 => [48, 57, 65, 90, 95, 95, 97, 122]
  | 8 => [9, 13, 32, 32]
  | 9 => [9, 9, 32, 32]
  | 10 => [0, 31, 127, 127]
  | 11 => [33, 126]
  | 12 => [32, 126]
  | 13 => [33, 47, 58, 64, 91, 96, 123, 126]
  | 14 => [48, 57, 65, 70, 97, 102]
  | 15 => [0, 127]
  | 16 => [10, 13, 133, 133, 8232, 8233]
  | 17 => [9, 9, 32, 32, 160, 160, 5760, 5760, 6158, 6158, 8192, 8202, 8239, 8239, 8287, 8287, 12288, 12288]
  | 18 => [0, 31, 1, 32, 32, 24, 33, 35, 16, 36, 36, 18, 37, 39, 16, 40, 40, 17, 41, 41, 13, 42, 42, 16, 43, 43, 20, 44, 44, 16, 45, 45, 12, 46, 47, 16, 48, 57, 8, 58, 59, 16, 60, 62, 20, 63, 64, 16, 65, 90, 6, 91, 91, 17, 92, 92, 16, 93, 93, 13, 94, 94, 19, 95, 95, 11, 96, 96, 19, 97, 122, 4, 123, 123, 17, 124, 124, 20, 125, 125, 13, 126, 126, 20, 127, 159, 1, 160, 160, 24, 161, 161, 16, 162, 165, 18, 166, 166, 21, 167, 167, 16, 168, 168, 19, 169, 169, 21, 170, 170, 5, 171, 171, 15, 172, 172, 20, 173, 173, 2, 174, 174, 21, 175, 175, 19, 176, 176, 21, 177, 177, 20, 178, 179, 10, 180, 180, 19, 181, 181, 4, 182, 183, 16, 184, 184, 19, 185, 185, 10, 186, 186, 5, 187, 187, 14, 188, 190, 10, 191, 191, 16, 192, 214, 6, 215, 215, 20, 216, 222, 6, 223, 246, 4, 247, 247, 20, 248, 255, 4, 256, 311, 25, 312, 312, 4, 313, 328, 25, 329, 329, 4, 330, 375, 25, 376, 376, 6, 377, 382, 25, 383, 383, 4, 768, 879, 7, 913, 929, 6, 931, 937, 6, 945, 969, 4, 1024, 1071, 6, 1072, 1119, 4, 1488, 1514, 5, 1568, 1599, 5, 1601, 1610, 5, 1632, 1641, 8, 8192, 8202, 24, 8203, 8207, 2, 8208, 8213, 12, 8214, 8215, 16, 8216, 8216, 15, 8217, 8217, 14, 8218, 8218, 17, 8219, 8220, 15, 8221, 8221, 14, 8222, 8222, 17, 8223, 8223, 15, 8224, 8231, 16, 8232, 8232, 22, 8233, 8233, 23, 8239, 8239, 24, 8287, 8287, 24, 8352, 8383, 18, 8490, 8491, 6, 8544, 8559, 9, 8592, 8596, 20, 12288, 12288, 24, 12353, 12438, 5, 12449, 12538, 5, 19968, 40959, 5, 44032, 55203, 5, 57344, 63743, 3, 65039, 65039, 7, 65279, 65279, 2, 127744, 128591, 21]
  | 19 => [170, 170, 2, 186, 186, 2, 8490, 8491, 2, 913, 969, 3, 1024, 1119, 4, 1488, 1514, 5, 1568, 1610, 6, 12353, 12438, 7, 12449, 12538, 8, 19968, 40959, 9, 44032, 55203, 10, 768, 879, 11, 65039, 65039, 11]
  | 20 => [65, 90, 32, 1, 192, 214, 32, 1, 216, 222, 32, 1, 913, 929, 32, 1, 931, 937, 32, 1, 1040, 1071, 32, 1, 1024, 1039, 80, 1, 256, 302, 1, 2, 306, 310, 1, 2, 313, 327, 1, 2, 330, 374, 1, 2, 377, 381, 1, 2, 255, 255, 121, 1]
  | _ => [83, 115, 383, 75, 107, 8490, 197, 229, 8491, 181, 924, 956, 931, 962, 963]
def stz (g : zG) (A : Nat → Prop) (U : State) (H : Heap) : Prop := ∀ i, i < 22 → va_Z (stC i) (stN i) "[I" (.ref (g.2.2 i)) A U H ∧ va_T .int (g.2.2 i) (stE i).length (fun j => .int (iI ((stE i).getD j 0))) A U H
theorem stz.go {g : zG} {A B : Nat → Prop} {s U : State} {H : Heap} {locs : List Loc} (h : stz g A s s.heap) (hS : va_S A s.heap H locs) (hvm : s.vm.Alike U.vm) (hU : U.heap = H) (hB : ∀ q, B q → A q) : stz g B U U.heap := fun i hi => by
  rw [hU]
  exact ⟨((va_Z.moved hvm (h i hi).1).kept hS.2.1).narrow hB, ((va_T.moved hvm (h i hi).2).kept hS.2.1).narrow hB⟩
theorem stz.calling {g : zG} {A : Nat → Prop} {U : State} {f : JFrame} {mk : MethodId} {a : Array Value} (h : stz g A U U.heap) : stz g A (U.calling f mk a) (U.calling f mk a).heap := fun i hi =>
  ⟨va_Z.moved (u := U) (U := U.calling f mk a) (Vm.Alike.refl U.vm) (h i hi).1, va_T.moved (u := U) (U := U.calling f mk a) (Vm.Alike.refl U.vm) (h i hi).2⟩
def zP (g : zG) (avs : List Value) (wc : va_W) : Array Value → State → Prop := va_Pc avs (fun U => va_P g.1 classes wc U.heap ∧ va_K g.1 classes (tz g) U ∧ stz g (fun _ => False) U U.heap)
theorem zP_blind {g : zG} {avs : List Value} {wc : va_W} : FrameBlind (zP g avs wc) := fun a U f mk q => ⟨q.1, q.2.1, va_K.moved (u := U) (U := U.calling f mk a) (Vm.Alike.refl U.vm) q.2.2.1, q.2.2.2.calling⟩
def zAp (wo : va_W) (A : Nat → Prop) : Prop := ∀ (k : Nat) (x : Nat × va_E), wo[k]? = some x → ¬ A x.1
theorem zAp_nil {A : Nat → Prop} : zAp [] A := fun k x h => by simp at h
theorem zP_nil {D : va_G} {cl : List vw_C} {H : Heap} : va_P D cl [] H := fun k x h => by simp at h
theorem zO_kept {D : va_G} {cl : List vw_C} {wo : va_W} {A : Nat → Prop} {H0 H : Heap} {locs : List Loc} (h : va_P D cl wo H0) (ha : zAp wo A) (hS : va_S A H0 H locs) : va_P D cl wo H := h.kept (fun k x hx => hS.2.1 x.1 (h k x hx).lt (ha k x hx))
/-- a writing method: the cells wc are its own, the cells wo stay -/
def zPw (g : zG) (avs : List Value) (wc wo : va_W) (sz : Nat) : Array Value → State → Prop := va_Pc avs (fun U => U.heap.size = sz ∧ va_P g.1 classes wc U.heap ∧ va_K g.1 classes (tz g) U ∧ va_D (fun _ => True) wc ∧ stz g (va_A wc sz) U U.heap ∧ va_P g.1 classes wo U.heap ∧ zAp wo (va_A wc sz))
theorem zPw_blind {g : zG} {avs : List Value} {wc wo : va_W} {sz : Nat} : FrameBlind (zPw g avs wc wo sz) := fun a U f mk q => ⟨q.1, q.2.1, q.2.2.1, va_K.moved (u := U) (U := U.calling f mk a) (Vm.Alike.refl U.vm) q.2.2.2.1, q.2.2.2.2.1, q.2.2.2.2.2.1.calling, q.2.2.2.2.2.2⟩
def zB (g : zG) (A : Nat → Prop) (w1 : va_W) (t : State) : Prop := va_P g.1 classes w1 t.heap ∧ va_K g.1 classes (tz g) t ∧ va_D A w1
section ZC
variable {p : Program} {l : Launch} {e : Env} {R : Room} {s : State} {m : MethodId} {args : Array Value} {below : List Frame} {meth : Method} {c : Code} {H : Heap} {locs : List Loc} {cells slots : Nat} {Q : State → Prop}
variable {cc : ByteArray} {pc : Nat} {ls : Array Slot} {rest st0 : List Value} {A : Nat → Prop} {g : zG}
theorem ix_gets (hx : p.tables.exec = Jvm.exec) (hb : c.code = cc) (hZ : stz g A s s.heap) (i : Nat) (hi : i < 22) (hS : va_S A s.heap H locs) {own : String} {index : Nat} (hown : s.vm.findClass own = some m.cls) (hlink : (Cond.fieldLink own index (stC i) (stN i) "[I").before args s = true) (hdg : decode cc pc = .ok (.getstatic index, 3))
    (kk : W p l e R s m args below meth c H locs cells slots Q (F0 m (pc + 3) ls (.ref (g.2.2 i) :: rest))) : W p l e R s m args below meth c H locs cells slots Q (F0 m pc ls rest) :=
  va_gets hx hb (hZ i hi).1 hS hown hlink (fun _ h => h) hdg kk
theorem ix_tald (hx : p.tables.exec = Jvm.exec) (hb : c.code = cc) (hZ : stz g A s s.heap) (i : Nat) (hi : i < 22) (hS : va_S A s.heap H locs) {z : Int} (j : Nat) (h : z = (j : Int) ∧ j < (stE i).length ∧ j ≤ 2147483647) (hdg : decode cc pc = .ok (.iaload, 1))
    (kk : W p l e R s m args below meth c H locs cells slots Q (F0 m (pc + 1) ls (.int (iI ((stE i).getD j 0)) :: rest))) : W p l e R s m args below meth c H locs cells slots Q (F0 m pc ls (.int (iI z) :: .ref (g.2.2 i) :: rest)) :=
  va_ti hx hb (hZ i hi).2 hS (iI_inN h) (by rw [iI_clN h]) hdg kk
theorem ix_tlen (hx : p.tables.exec = Jvm.exec) (hb : c.code = cc) (hZ : stz g A s s.heap) (i : Nat) (hi : i < 22) (hS : va_S A s.heap H locs) (n : Int) (hn : ((stE i).length : Int) = n) (hdg : decode cc pc = .ok (.arraylength, 1))
    (kk : W p l e R s m args below meth c H locs cells slots Q (F0 m (pc + 1) ls (.int (iI n) :: rest))) : W p l e R s m args below meth c H locs cells slots Q (F0 m pc ls (.ref (g.2.2 i) :: rest)) :=
  va_tlen hx hb (hZ i hi).2 hS (v := iI n) (by rw [← hn, iI_nat]; rfl) hdg kk
variable {own : String} {index nL maxL n f k mc ms ci q0 b : Nat} {y : MethodName} {bytes : ByteArray} {ret : Option FieldType} {As : List Value} {wc wo : va_W} {q : vw_C} {fs : List Value}
/-- a read-only method of an object, an int comes back -/
theorem zcV {post : Int32 → Prop} (S : CallFix p m c cc nL s args lw_ok own) (hw : zwV own index y bytes maxL ret n)
    (hM : Met l y (Cond.code y bytes maxL ret :: lw_ok) (zr f k) (zP g (.ref b :: As) wc) (vp_Si post) 0 0 (fun _ => False))
    (hR : f + 1 ≤ R.frames ∧ 8 + (maxL + 11) + k ≤ R.locals) (hc : cells ≤ R.cells ∧ slots ≤ R.slots)
    (hK : va_K g.1 classes (tz g) s) (hZ : stz g A s s.heap) (hS : va_S A s.heap H locs) (hP : va_P g.1 classes wc H) (hcl : classes[ci]? = some q) (hq : q.1 = y.cls) (he : wc[q0]? = some (b, .inr (ci, fs)))
    (hn : As.length = n) (hsz : ls.size = nL) (hst : st0 = As.reverse ++ .ref b :: rest) (hrm : (rest.map fun v => v.category).sum ≤ 8) (hdg : decode cc pc = .ok (.invokevirtual index, 3))
    (kk : ∀ r : Int32, post r → W p l e R s m args below meth c H locs cells slots Q (F0 m (pc + 3) ls (.int r :: rest))) : W p l e R s m args below meth c H locs cells slots Q (F0 m pc ls st0) := by
  subst hst
  exact vp_callSi ((va_runV (C := y.cls) (As := As) (rest := rest) S hM (cwV n S.2.2.2.2 hw.good rfl rfl rfl ⟨rfl, hw.2⟩ hR) ⟨zP_blind, by rw [← hq]; exact va_recv hK hP hcl he, fun U hU hW => ⟨rfl, by rw [hU]; exact hP, va_K.moved hW.alike hK, hZ.go hS hW.alike hU (fun _ h => h.elim)⟩⟩ rfl hn hsz rfl (lv_room hrm) hdg hc).run) kk
/-- a static read-only method, an int comes back -/
theorem zcS {post : Int32 → Prop} (S : CallFix p m c cc nL s args lw_ok own) (hw : zwS own index y bytes maxL ret n)
    (hM : Met l y (Cond.code y bytes maxL ret :: lw_ok) (zr f k) (zP g As wc) (vp_Si post) 0 0 (fun _ => False))
    (hR : f + 1 ≤ R.frames ∧ 8 + (maxL + 11) + k ≤ R.locals) (hc : cells ≤ R.cells ∧ slots ≤ R.slots)
    (hK : va_K g.1 classes (tz g) s) (hZ : stz g A s s.heap) (hS : va_S A s.heap H locs) (hP : va_P g.1 classes wc H)
    (hn : As.length = n) (hsz : ls.size = nL) (hst : st0 = As.reverse ++ rest) (hrm : (rest.map fun v => v.category).sum ≤ 8) (hdg : decode cc pc = .ok (.invokestatic index, 3))
    (kk : ∀ r : Int32, post r → W p l e R s m args below meth c H locs cells slots Q (F0 m (pc + 3) ls (.int r :: rest))) : W p l e R s m args below meth c H locs cells slots Q (F0 m pc ls st0) := by
  subst hst
  exact vp_callSi ((va_runS (As := As) (rest := rest) S hM (va_cwS n S.2.2.2.2 hw.good rfl rfl rfl hw.2 hR) ⟨zP_blind, fun U hU hW => ⟨rfl, by rw [hU]; exact hP, va_K.moved hW.alike hK, hZ.go hS hW.alike hU (fun _ h => h.elim)⟩⟩ rfl hn hsz rfl (lv_room hrm) hdg hc).run) kk
/-- a static read-only method, an address comes back -/
theorem zcSr {post : Nat → Prop} {ad : Nat → Value} (S : CallFix p m c cc nL s args lw_ok own) (hw : zwS own index y bytes maxL ret n)
    (hM : Met l y (Cond.code y bytes maxL ret :: lw_ok) (zr f k) (zP g As wc) (va_Sr post ad) 0 0 (fun _ => False))
    (hR : f + 1 ≤ R.frames ∧ 8 + (maxL + 11) + k ≤ R.locals) (hc : cells ≤ R.cells ∧ slots ≤ R.slots)
    (hK : va_K g.1 classes (tz g) s) (hZ : stz g A s s.heap) (hS : va_S A s.heap H locs) (hP : va_P g.1 classes wc H)
    (hn : As.length = n) (hsz : ls.size = nL) (hst : st0 = As.reverse ++ rest) (hrm : (rest.map fun v => v.category).sum ≤ 8) (hdg : decode cc pc = .ok (.invokestatic index, 3))
    (kk : ∀ r : Nat, post r → W p l e R s m args below meth c H locs cells slots Q (F0 m (pc + 3) ls (ad r :: rest))) : W p l e R s m args below meth c H locs cells slots Q (F0 m pc ls st0) := by
  subst hst
  exact va_csr ((va_runS (As := As) (rest := rest) S hM (va_cwS n S.2.2.2.2 hw.good rfl rfl rfl hw.2 hR) ⟨zP_blind, fun U hU hW => ⟨rfl, by rw [hU]; exact hP, va_K.moved hW.alike hK, hZ.go hS hW.alike hU (fun _ h => h.elim)⟩⟩ rfl hn hsz rfl (lv_room hrm) hdg hc).run) kk
/-- a writing method of an object, nothing comes back -/
theorem zcVv {post : va_W → Prop} (S : CallFix p m c cc nL s args lw_ok own) (hw : zwV own index y bytes maxL ret n)
    (hM : Met l y (Cond.code y bytes maxL ret :: lw_ok) { frames := f, cells := mc, slots := ms, locals := k } (zPw g (.ref b :: As) wc wo H.size) (va_Qv post (zB g (va_A wc H.size)) (va_A wc H.size)) mc ms (va_A wc H.size))
    (hR : f + 1 ≤ R.frames ∧ 8 + (maxL + 11) + k ≤ R.locals) (hc : cells + mc ≤ R.cells ∧ slots + ms ≤ R.slots)
    (hK : va_K g.1 classes (tz g) s) (hZ : stz g A s s.heap) (hS : va_S A s.heap H locs) (hP : va_P g.1 classes wc H) (hD : va_D (fun _ => True) wc) (hF : ∀ q, va_A wc H.size q → A q) (hO : va_P g.1 classes wo H) (hAp : zAp wo (va_A wc H.size)) (hcl : classes[ci]? = some q) (hq : q.1 = y.cls) (he : wc[q0]? = some (b, .inr (ci, fs)))
    (hn : As.length = n) (hsz : ls.size = nL) (hst : st0 = As.reverse ++ .ref b :: rest) (hrm : (rest.map fun v => v.category).sum ≤ 8) (hdg : decode cc pc = .ok (.invokevirtual index, 3))
    (kk : ∀ (w1 : va_W) (H1 : Heap) (locs1 : List Loc), post w1 → va_P g.1 classes w1 H1 → va_D (va_A wc H.size) w1 → H.size ≤ H1.size → (∀ q : Nat, q < H.size → ¬ va_A wc H.size q → H1[q]? = H[q]?) → va_S A s.heap H1 locs1 → W p l e R s m args below meth c H1 locs1 (cells + mc) (slots + ms) Q (F0 m (pc + 3) ls rest)) : W p l e R s m args below meth c H locs cells slots Q (F0 m pc ls st0) := by
  subst hst
  refine va_callv (va_runV (C := y.cls) (As := As) (rest := rest) S hM (cwV n S.2.2.2.2 hw.good rfl rfl rfl ⟨rfl, hw.2⟩ hR) ⟨zPw_blind, by rw [← hq]; exact va_recv hK hP hcl he, fun U hU hW => ⟨rfl, by rw [hU], by rw [hU]; exact hP, va_K.moved hW.alike hK, hD, hZ.go hS hW.alike hU hF, by rw [hU]; exact hO, hAp⟩⟩ rfl hn hsz rfl (lv_room hrm) hdg hc) hS (fun q _ h => hF q h) hF (fun u t H1 locs1 ht hvm hw hB hz1 hk1 hS1 => ?_)
  obtain ⟨b1, b2, b3⟩ := hB
  rw [ht] at b1
  exact kk u H1 locs1 hw b1 b3 hz1 hk1 hS1
/-- a writing method of an object, an int comes back -/
theorem zcVi {post : Int32 → va_W → Prop} (S : CallFix p m c cc nL s args lw_ok own) (hw : zwV own index y bytes maxL ret n)
    (hM : Met l y (Cond.code y bytes maxL ret :: lw_ok) { frames := f, cells := mc, slots := ms, locals := k } (zPw g (.ref b :: As) wc wo H.size) (va_Qi post (zB g (va_A wc H.size)) (va_A wc H.size)) mc ms (va_A wc H.size))
    (hR : f + 1 ≤ R.frames ∧ 8 + (maxL + 11) + k ≤ R.locals) (hc : cells + mc ≤ R.cells ∧ slots + ms ≤ R.slots)
    (hK : va_K g.1 classes (tz g) s) (hZ : stz g A s s.heap) (hS : va_S A s.heap H locs) (hP : va_P g.1 classes wc H) (hD : va_D (fun _ => True) wc) (hF : ∀ q, va_A wc H.size q → A q) (hO : va_P g.1 classes wo H) (hAp : zAp wo (va_A wc H.size)) (hcl : classes[ci]? = some q) (hq : q.1 = y.cls) (he : wc[q0]? = some (b, .inr (ci, fs)))
    (hn : As.length = n) (hsz : ls.size = nL) (hst : st0 = As.reverse ++ .ref b :: rest) (hrm : (rest.map fun v => v.category).sum ≤ 8) (hdg : decode cc pc = .ok (.invokevirtual index, 3))
    (kk : ∀ (r : Int32) (w1 : va_W) (H1 : Heap) (locs1 : List Loc), post r w1 → va_P g.1 classes w1 H1 → va_D (va_A wc H.size) w1 → H.size ≤ H1.size → (∀ q : Nat, q < H.size → ¬ va_A wc H.size q → H1[q]? = H[q]?) → va_S A s.heap H1 locs1 → W p l e R s m args below meth c H1 locs1 (cells + mc) (slots + ms) Q (F0 m (pc + 3) ls (.int r :: rest))) : W p l e R s m args below meth c H locs cells slots Q (F0 m pc ls st0) := by
  subst hst
  refine va_calli (va_runV (C := y.cls) (As := As) (rest := rest) S hM (cwV n S.2.2.2.2 hw.good rfl rfl rfl ⟨rfl, hw.2⟩ hR) ⟨zPw_blind, by rw [← hq]; exact va_recv hK hP hcl he, fun U hU hW => ⟨rfl, by rw [hU], by rw [hU]; exact hP, va_K.moved hW.alike hK, hD, hZ.go hS hW.alike hU hF, by rw [hU]; exact hO, hAp⟩⟩ rfl hn hsz rfl (lv_room hrm) hdg hc) hS (fun q _ h => hF q h) hF (fun r u t H1 locs1 ht hvm hw hB hz1 hk1 hS1 => ?_)
  obtain ⟨b1, b2, b3⟩ := hB
  rw [ht] at b1
  exact kk r u H1 locs1 hw b1 b3 hz1 hk1 hS1
/-- a constructor -/
theorem zcI {post : va_W → Prop} (S : CallFix p m c cc nL s args lw_ok own) (hw : zwI own index y bytes maxL n) (hy : y.name = "<init>")
    (hM : Met l y (Cond.code y bytes maxL none :: lw_ok) { frames := f, cells := mc, slots := ms, locals := k } (zPw g (.ref b :: As) wc wo H.size) (va_Qv post (zB g (va_A wc H.size)) (va_A wc H.size)) mc ms (va_A wc H.size))
    (hR : f + 1 ≤ R.frames ∧ 8 + (maxL + 11) + k ≤ R.locals) (hc : cells + mc ≤ R.cells ∧ slots + ms ≤ R.slots)
    (hK : va_K g.1 classes (tz g) s) (hZ : stz g A s s.heap) (hS : va_S A s.heap H locs) (hP : va_P g.1 classes wc H) (hD : va_D (fun _ => True) wc) (hF : ∀ q, va_A wc H.size q → A q) (hO : va_P g.1 classes wo H) (hAp : zAp wo (va_A wc H.size))
    (hn : As.length = n) (hsz : ls.size = nL) (hst : st0 = As.reverse ++ .ref b :: rest) (hrm : (rest.map fun v => v.category).sum ≤ 8) (hdg : decode cc pc = .ok (.invokespecial index, 3))
    (kk : ∀ (w1 : va_W) (H1 : Heap) (locs1 : List Loc), post w1 → va_P g.1 classes w1 H1 → va_D (va_A wc H.size) w1 → H.size ≤ H1.size → (∀ q : Nat, q < H.size → ¬ va_A wc H.size q → H1[q]? = H[q]?) → va_S A s.heap H1 locs1 → W p l e R s m args below meth c H1 locs1 (cells + mc) (slots + ms) Q (F0 m (pc + 3) ls rest)) : W p l e R s m args below meth c H locs cells slots Q (F0 m pc ls st0) := by
  subst hst
  refine va_callv (va_runI (As := As) (rest := rest) S hM (cwI n S.2.2.2.2 hw.good rfl rfl rfl (S.2.2.2.2 _ hw.1.2.2.1) (S.2.2.2.2 _ hw.1.1) (S.2.2.2.2 _ hw.1.2.1) hy hw.2 hR) ⟨zPw_blind, fun U hU hW => ⟨rfl, by rw [hU], by rw [hU]; exact hP, va_K.moved hW.alike hK, hD, hZ.go hS hW.alike hU hF, by rw [hU]; exact hO, hAp⟩⟩ rfl hn hsz rfl (lv_room hrm) hdg hc) hS (fun q _ h => hF q h) hF (fun u t H1 locs1 ht hvm hw hB hz1 hk1 hS1 => ?_)
  obtain ⟨b1, b2, b3⟩ := hB
  rw [ht] at b1
  exact kk u H1 locs1 hw b1 b3 hz1 hk1 hS1
end ZC
end
section
theorem n_LA_15 : zwI R_LA 15 y_CS_init b_CS_init 4 1 := ⟨⟨k_10, k_11, k_1, k_12⟩, by unfold zwD; decide +kernel⟩
theorem n_CS_20 : zwI R_CS 20 y_TB_init b_TB_init 4 0 := ⟨⟨k_19, k_20, k_2, k_21⟩, by unfold zwD; decide +kernel⟩
theorem v_TB_28 : zwV R_TB 28 y_TB_addPiece b_TB_addPiece 3 none 2 := ⟨⟨k_25, k_27, s_0, k_2, k_28⟩, by unfold zwD; decide +kernel⟩
theorem t_TB_41 : zwS R_TB 41 y_TB_findScript b_TB_findScript 3 (some .int) 2 := ⟨⟨k_29, k_30, k_2, k_31⟩, by unfold zwD; decide +kernel⟩
theorem v_TB_32 : zwV R_TB 32 y_TB_addRow b_TB_addRow 5 none 3 := ⟨⟨k_34, k_36, s_1, k_2, k_37⟩, by unfold zwD; decide +kernel⟩
theorem n_CS_27 : zwI R_CS 27 y_CR_init b_CR_init 5 2 := ⟨⟨k_54, k_55, k_3, k_56⟩, by unfold zwD; decide +kernel⟩
theorem t_CR_17 : zwS R_CR 17 y_CR_characterAt b_CR_characterAt 1 (some .int) 1 := ⟨⟨k_58, k_59, k_3, k_60⟩, by unfold zwD; decide +kernel⟩
theorem v_CR_24 : zwV R_CR 24 y_CR_linkPairs b_CR_linkPairs 5 none 1 := ⟨⟨k_63, k_65, s_2, k_3, k_66⟩, by unfold zwD; decide +kernel⟩
theorem v_CR_38 : zwV R_CR 38 y_CR_point b_CR_point 4 none 2 := ⟨⟨k_67, k_69, s_3, k_3, k_70⟩, by unfold zwD; decide +kernel⟩
theorem t_CR_35 : zwS R_CR 35 y_CR_slotOf b_CR_slotOf 1 (some .int) 1 := ⟨⟨k_71, k_72, k_3, k_73⟩, by unfold zwD; decide +kernel⟩
theorem v_CR_31 : zwV R_CR 31 y_CR_linkThree b_CR_linkThree 4 none 3 := ⟨⟨k_76, k_78, s_4, k_3, k_79⟩, by unfold zwD; decide +kernel⟩
theorem n_CS_36 : zwI R_CS 36 y_RG_init b_RG_init 1 0 := ⟨⟨k_89, k_90, k_4, k_91⟩, by unfold zwD; decide +kernel⟩
theorem v_LA_21 : zwV R_LA 21 y_CS_clear b_CS_clear 2 (some .int) 1 := ⟨⟨k_120, k_121, k_122, k_1, k_123⟩, by unfold zwD; decide +kernel⟩
theorem t_CS_45 : zwS R_CS 45 y_CS_isSet b_CS_isSet 1 (some .boolean) 1 := ⟨⟨k_124, k_125, k_1, k_126⟩, by unfold zwD; decide +kernel⟩
theorem v_CS_49 : zwV R_CS 49 y_RG_empty b_RG_empty 1 none 0 := ⟨⟨k_127, k_128, k_129, k_4, k_130⟩, by unfold zwD; decide +kernel⟩
theorem v_LA_26 : zwV R_LA 26 y_CS_range b_CS_range 4 (some .int) 3 := ⟨⟨k_131, k_132, k_133, k_1, k_134⟩, by unfold zwD; decide +kernel⟩
theorem v_CS_52 : zwV R_CS 52 y_CS_isThere b_CS_isThere 2 (some .boolean) 1 := ⟨⟨k_135, k_137, s_5, k_1, k_138⟩, by unfold zwD; decide +kernel⟩
theorem v_CS_55 : zwV R_CS 55 y_RG_insert b_RG_insert 9 none 2 := ⟨⟨k_139, k_140, k_141, k_4, k_142⟩, by unfold zwD; decide +kernel⟩
theorem v_RG_17 : zwV R_RG 17 y_RG_edgesUpTo b_RG_edgesUpTo 5 (some .int) 1 := ⟨⟨k_143, k_145, s_6, k_4, k_146⟩, by unfold zwD; decide +kernel⟩
theorem v_CS_59 : zwV R_CS 59 y_RG_rangeCount b_RG_rangeCount 1 (some .int) 0 := ⟨⟨k_150, k_151, k_152, k_4, k_153⟩, by unfold zwD; decide +kernel⟩
theorem v_LA_31 : zwV R_LA 31 y_CS_property b_CS_property 6 (some .int) 4 := ⟨⟨k_154, k_155, k_156, k_1, k_157⟩, by unfold zwD; decide +kernel⟩
theorem v_CS_63 : zwV R_CS 63 y_CS_gatherProperty b_CS_gatherProperty 2 none 1 := ⟨⟨k_158, k_160, s_7, k_1, k_161⟩, by unfold zwD; decide +kernel⟩
theorem v_CS_126 : zwV R_CS 126 y_CS_gatherScript b_CS_gatherScript 3 none 1 := ⟨⟨k_162, k_164, s_8, k_1, k_165⟩, by unfold zwD; decide +kernel⟩
theorem v_CS_210 : zwV R_CS 210 y_TB_pieceCount b_TB_pieceCount 1 (some .int) 0 := ⟨⟨k_166, k_167, k_168, k_2, k_169⟩, by unfold zwD; decide +kernel⟩
theorem v_CS_228 : zwV R_CS 228 y_TB_pieceScript b_TB_pieceScript 2 (some .int) 1 := ⟨⟨k_170, k_171, k_172, k_2, k_173⟩, by unfold zwD; decide +kernel⟩
theorem v_CS_216 : zwV R_CS 216 y_TB_pieceLow b_TB_pieceLow 2 (some .int) 1 := ⟨⟨k_174, k_175, k_176, k_2, k_177⟩, by unfold zwD; decide +kernel⟩
theorem v_CS_219 : zwV R_CS 219 y_TB_pieceHigh b_TB_pieceHigh 2 (some .int) 1 := ⟨⟨k_178, k_179, k_180, k_2, k_181⟩, by unfold zwD; decide +kernel⟩
theorem v_CS_135 : zwV R_CS 135 y_CS_gather b_CS_gather 4 none 2 := ⟨⟨k_183, k_185, s_9, k_1, k_186⟩, by unfold zwD; decide +kernel⟩
theorem t_CS_129 : zwS R_CS 129 y_CS_categoriesOf b_CS_categoriesOf 1 (some .int) 1 := ⟨⟨k_190, k_191, k_1, k_192⟩, by unfold zwD; decide +kernel⟩
theorem v_CS_132 : zwV R_CS 132 y_CS_gatherCategories b_CS_gatherCategories 4 none 2 := ⟨⟨k_197, k_199, s_10, k_1, k_200⟩, by unfold zwD; decide +kernel⟩
theorem v_CS_213 : zwV R_CS 213 y_TB_pieceCategory b_TB_pieceCategory 2 (some .int) 1 := ⟨⟨k_201, k_202, k_203, k_2, k_204⟩, by unfold zwD; decide +kernel⟩
theorem v_CS_67 : zwV R_CS 67 y_CS_addGathered b_CS_addGathered 3 (some .int) 2 := ⟨⟨k_205, k_207, s_11, k_1, k_208⟩, by unfold zwD; decide +kernel⟩
theorem v_CS_82 : zwV R_CS 82 y_RG_complement b_RG_complement 2 none 1 := ⟨⟨k_209, k_210, k_211, k_4, k_212⟩, by unfold zwD; decide +kernel⟩
theorem v_CS_85 : zwV R_CS 85 y_RG_insertAll b_RG_insertAll 3 none 1 := ⟨⟨k_213, k_214, k_215, k_4, k_216⟩, by unfold zwD; decide +kernel⟩
theorem v_RG_21 : zwV R_RG 21 y_RG_rangeCount b_RG_rangeCount 1 (some .int) 0 := ⟨⟨k_217, k_151, k_152, k_4, k_153⟩, by unfold zwD; decide +kernel⟩
theorem v_RG_25 : zwV R_RG 25 y_RG_lowOf b_RG_lowOf 2 (some .int) 1 := ⟨⟨k_218, k_219, k_220, k_4, k_221⟩, by unfold zwD; decide +kernel⟩
theorem v_RG_31 : zwV R_RG 31 y_RG_highOf b_RG_highOf 2 (some .int) 1 := ⟨⟨k_222, k_223, k_224, k_4, k_225⟩, by unfold zwD; decide +kernel⟩
theorem v_RG_40 : zwV R_RG 40 y_RG_insert b_RG_insert 9 none 2 := ⟨⟨k_226, k_140, k_141, k_4, k_142⟩, by unfold zwD; decide +kernel⟩
theorem v_LA_36 : zwV R_LA 36 y_CS_named b_CS_named 6 (some .int) 4 := ⟨⟨k_227, k_228, k_229, k_1, k_230⟩, by unfold zwD; decide +kernel⟩
theorem v_CS_71 : zwV R_CS 71 y_CS_gatherNamed b_CS_gatherNamed 3 none 1 := ⟨⟨k_231, k_233, s_12, k_1, k_234⟩, by unfold zwD; decide +kernel⟩
theorem t_CS_144 : zwS R_CS 144 y_CS_listOf b_CS_listOf 1 (some (.array .int)) 1 := ⟨⟨k_235, k_236, k_1, k_237⟩, by unfold zwD; decide +kernel⟩
theorem v_CS_148 : zwV R_CS 148 y_CS_gatherList b_CS_gatherList 3 none 1 := ⟨⟨k_272, k_274, s_13, k_1, k_275⟩, by unfold zwD; decide +kernel⟩
theorem t_CS_152 : zwS R_CS 152 y_CS_propertyOf b_CS_propertyOf 1 (some .int) 1 := ⟨⟨k_276, k_277, k_1, k_278⟩, by unfold zwD; decide +kernel⟩
theorem v_LA_40 : zwV R_LA 40 y_CS_close b_CS_close 5 (some .int) 1 := ⟨⟨k_283, k_284, k_285, k_1, k_286⟩, by unfold zwD; decide +kernel⟩
theorem t_CS_74 : zwS R_CS 74 y_CR_characterAt b_CR_characterAt 1 (some .int) 1 := ⟨⟨k_287, k_59, k_3, k_60⟩, by unfold zwD; decide +kernel⟩
theorem v_CS_78 : zwV R_CS 78 y_CS_isMissing b_CS_isMissing 4 (some .boolean) 2 := ⟨⟨k_288, k_290, s_14, k_1, k_291⟩, by unfold zwD; decide +kernel⟩
theorem v_CS_123 : zwV R_CS 123 y_CR_nextOf b_CR_nextOf 3 (some .int) 1 := ⟨⟨k_292, k_293, k_294, k_3, k_295⟩, by unfold zwD; decide +kernel⟩
theorem v_CS_96 : zwV R_CS 96 y_RG_contains b_RG_contains 2 (some .boolean) 1 := ⟨⟨k_296, k_297, k_298, k_4, k_299⟩, by unfold zwD; decide +kernel⟩
theorem v_LA_44 : zwV R_LA 44 y_CS_invert b_CS_invert 2 (some .int) 1 := ⟨⟨k_300, k_301, k_302, k_1, k_303⟩, by unfold zwD; decide +kernel⟩
theorem v_LA_48 : zwV R_LA 48 y_CS_join b_CS_join 3 (some .int) 2 := ⟨⟨k_304, k_305, k_306, k_1, k_307⟩, by unfold zwD; decide +kernel⟩
theorem v_LA_53 : zwV R_LA 53 y_CS_meets b_CS_meets 3 (some .int) 2 := ⟨⟨k_308, k_309, k_310, k_1, k_311⟩, by unfold zwD; decide +kernel⟩
theorem v_CS_89 : zwV R_CS 89 y_RG_overlaps b_RG_overlaps 4 (some .boolean) 1 := ⟨⟨k_312, k_313, k_314, k_4, k_315⟩, by unfold zwD; decide +kernel⟩
theorem v_RG_28 : zwV R_RG 28 y_RG_firstFrom b_RG_firstFrom 3 (some .int) 1 := ⟨⟨k_316, k_317, k_318, k_4, k_319⟩, by unfold zwD; decide +kernel⟩
theorem v_LA_57 : zwV R_LA 57 y_CS_same b_CS_same 3 (some .int) 2 := ⟨⟨k_320, k_321, k_322, k_1, k_323⟩, by unfold zwD; decide +kernel⟩
theorem v_CS_93 : zwV R_CS 93 y_RG_matches b_RG_matches 3 (some .boolean) 1 := ⟨⟨k_324, k_325, k_326, k_4, k_327⟩, by unfold zwD; decide +kernel⟩
theorem v_LA_61 : zwV R_LA 61 y_CS_has b_CS_has 3 (some .int) 2 := ⟨⟨k_328, k_329, k_330, k_1, k_331⟩, by unfold zwD; decide +kernel⟩
theorem v_LA_65 : zwV R_LA 65 y_CS_size b_CS_size 2 (some .int) 1 := ⟨⟨k_332, k_333, k_334, k_1, k_335⟩, by unfold zwD; decide +kernel⟩
theorem v_CS_99 : zwV R_CS 99 y_RG_memberCount b_RG_memberCount 3 (some .int) 0 := ⟨⟨k_336, k_337, k_338, k_4, k_339⟩, by unfold zwD; decide +kernel⟩
theorem v_LA_69 : zwV R_LA 69 y_CS_least b_CS_least 3 (some .int) 2 := ⟨⟨k_340, k_341, k_342, k_1, k_343⟩, by unfold zwD; decide +kernel⟩
theorem v_CS_102 : zwV R_CS 102 y_RG_firstFrom b_RG_firstFrom 3 (some .int) 1 := ⟨⟨k_344, k_317, k_318, k_4, k_319⟩, by unfold zwD; decide +kernel⟩
theorem v_LA_73 : zwV R_LA 73 y_CS_bound b_CS_bound 4 (some .int) 3 := ⟨⟨k_345, k_346, k_347, k_1, k_348⟩, by unfold zwD; decide +kernel⟩
theorem v_CS_105 : zwV R_CS 105 y_RG_highOf b_RG_highOf 2 (some .int) 1 := ⟨⟨k_349, k_223, k_224, k_4, k_225⟩, by unfold zwD; decide +kernel⟩
theorem v_CS_108 : zwV R_CS 108 y_RG_lowOf b_RG_lowOf 2 (some .int) 1 := ⟨⟨k_350, k_219, k_220, k_4, k_221⟩, by unfold zwD; decide +kernel⟩
theorem v_LA_78 : zwV R_LA 78 y_CS_about b_CS_about 3 (some .int) 2 := ⟨⟨k_351, k_352, k_353, k_1, k_354⟩, by unfold zwD; decide +kernel⟩
theorem v_CS_111 : zwV R_CS 111 y_TB_categoryOf b_TB_categoryOf 2 (some .int) 1 := ⟨⟨k_355, k_356, k_357, k_2, k_358⟩, by unfold zwD; decide +kernel⟩
theorem v_TB_37 : zwV R_TB 37 y_TB_pieceOf b_TB_pieceOf 4 (some .int) 1 := ⟨⟨k_359, k_361, s_15, k_2, k_362⟩, by unfold zwD; decide +kernel⟩
theorem v_CS_114 : zwV R_CS 114 y_TB_scriptOf b_TB_scriptOf 2 (some .int) 1 := ⟨⟨k_363, k_364, k_365, k_2, k_366⟩, by unfold zwD; decide +kernel⟩
theorem v_CS_117 : zwV R_CS 117 y_CS_upperOf b_CS_upperOf 6 (some .int) 1 := ⟨⟨k_367, k_369, s_16, k_1, k_370⟩, by unfold zwD; decide +kernel⟩
theorem v_CS_120 : zwV R_CS 120 y_CS_lowerOf b_CS_lowerOf 5 (some .int) 1 := ⟨⟨k_371, k_373, s_17, k_1, k_374⟩, by unfold zwD; decide +kernel⟩
theorem t_LA_9 : zwS R_LA 9 y_LA_cell b_LA_cell 2 (some .int) 2 := ⟨⟨k_375, k_376, k_0, k_377⟩, by unfold zwD; decide +kernel⟩
theorem n_LA_20 : zwI R_LA 20 y_MO_init b_MO_init 3 1 := ⟨⟨k_380, k_381, k_5, k_382⟩, by unfold zwD; decide +kernel⟩
theorem v_MO_55 : zwV R_MO 55 y_MO_table0 b_MO_table0 1 none 0 := ⟨⟨k_398, k_400, s_18, k_5, k_401⟩, by unfold zwD; decide +kernel⟩
theorem v_MO_67 : zwV R_MO 67 y_MO_kinds b_MO_kinds 5 none 3 := ⟨⟨k_402, k_404, s_19, k_5, k_405⟩, by unfold zwD; decide +kernel⟩
theorem v_MO_58 : zwV R_MO 58 y_MO_table1 b_MO_table1 1 none 0 := ⟨⟨k_406, k_408, s_20, k_5, k_409⟩, by unfold zwD; decide +kernel⟩
theorem v_MO_61 : zwV R_MO 61 y_MO_table2 b_MO_table2 1 none 0 := ⟨⟨k_410, k_412, s_21, k_5, k_413⟩, by unfold zwD; decide +kernel⟩
theorem v_MO_64 : zwV R_MO 64 y_MO_table3 b_MO_table3 1 none 0 := ⟨⟨k_414, k_416, s_22, k_5, k_417⟩, by unfold zwD; decide +kernel⟩
theorem v_LA_25 : zwV R_LA 25 y_MO_clear b_MO_clear 3 (some .int) 1 := ⟨⟨k_448, k_449, k_450, k_5, k_451⟩, by unfold zwD; decide +kernel⟩
theorem v_MO_117 : zwV R_MO 117 y_MO_none b_MO_none 2 (some .boolean) 1 := ⟨⟨k_452, k_454, s_23, k_5, k_455⟩, by unfold zwD; decide +kernel⟩
theorem v_LA_30 : zwV R_LA 30 y_MO_range b_MO_range 4 (some .int) 3 := ⟨⟨k_456, k_457, k_458, k_5, k_459⟩, by unfold zwD; decide +kernel⟩
theorem v_MO_121 : zwV R_MO 121 y_MO_fill b_MO_fill 5 none 3 := ⟨⟨k_460, k_462, s_24, k_5, k_463⟩, by unfold zwD; decide +kernel⟩
theorem v_MO_101 : zwV R_MO 101 y_MO_put b_MO_put 3 none 2 := ⟨⟨k_465, k_467, s_25, k_5, k_468⟩, by unfold zwD; decide +kernel⟩
theorem v_MO_124 : zwV R_MO 124 y_MO_ranges b_MO_ranges 8 (some .int) 1 := ⟨⟨k_469, k_471, s_26, k_5, k_472⟩, by unfold zwD; decide +kernel⟩
theorem v_MO_113 : zwV R_MO 113 y_MO_ones b_MO_ones 5 (some .int) 1 := ⟨⟨k_473, k_475, s_27, k_5, k_476⟩, by unfold zwD; decide +kernel⟩
theorem v_LA_35 : zwV R_LA 35 y_MO_property b_MO_property 8 (some .int) 4 := ⟨⟨k_481, k_482, k_483, k_5, k_484⟩, by unfold zwD; decide +kernel⟩
theorem v_MO_134 : zwV R_MO 134 y_MO_holds b_MO_holds 4 (some .boolean) 2 := ⟨⟨k_485, k_487, s_28, k_5, k_488⟩, by unfold zwD; decide +kernel⟩
theorem v_MO_75 : zwV R_MO 75 y_MO_category b_MO_category 2 (some .int) 1 := ⟨⟨k_489, k_491, s_29, k_5, k_492⟩, by unfold zwD; decide +kernel⟩
theorem v_MO_127 : zwV R_MO 127 y_MO_general b_MO_general 3 (some .boolean) 2 := ⟨⟨k_497, k_499, s_30, k_5, k_500⟩, by unfold zwD; decide +kernel⟩
theorem v_MO_131 : zwV R_MO 131 y_MO_script b_MO_script 3 (some .int) 1 := ⟨⟨k_501, k_503, s_31, k_5, k_504⟩, by unfold zwD; decide +kernel⟩
theorem v_LA_39 : zwV R_LA 39 y_MO_named b_MO_named 8 (some .int) 4 := ⟨⟨k_505, k_506, k_507, k_5, k_508⟩, by unfold zwD; decide +kernel⟩
theorem v_MO_152 : zwV R_MO 152 y_MO_names b_MO_names 3 (some .boolean) 2 := ⟨⟨k_509, k_511, s_32, k_5, k_512⟩, by unfold zwD; decide +kernel⟩
theorem v_MO_149 : zwV R_MO 149 y_MO_widely b_MO_widely 5 (some .boolean) 2 := ⟨⟨k_513, k_515, s_33, k_5, k_516⟩, by unfold zwD; decide +kernel⟩
theorem v_MO_143 : zwV R_MO 143 y_MO_blank b_MO_blank 2 (some .boolean) 1 := ⟨⟨k_517, k_519, s_34, k_5, k_520⟩, by unfold zwD; decide +kernel⟩
theorem v_MO_146 : zwV R_MO 146 y_MO_plainly b_MO_plainly 4 (some .boolean) 2 := ⟨⟨k_521, k_523, s_35, k_5, k_524⟩, by unfold zwD; decide +kernel⟩
theorem v_MO_137 : zwV R_MO 137 y_MO_digit b_MO_digit 2 (some .boolean) 1 := ⟨⟨k_525, k_527, s_36, k_5, k_528⟩, by unfold zwD; decide +kernel⟩
theorem v_MO_140 : zwV R_MO 140 y_MO_alpha b_MO_alpha 2 (some .boolean) 1 := ⟨⟨k_529, k_531, s_37, k_5, k_532⟩, by unfold zwD; decide +kernel⟩
theorem v_LA_43 : zwV R_LA 43 y_MO_close b_MO_close 6 (some .int) 1 := ⟨⟨k_533, k_534, k_535, k_5, k_536⟩, by unfold zwD; decide +kernel⟩
theorem v_MO_155 : zwV R_MO 155 y_MO_count b_MO_count 4 (some .int) 1 := ⟨⟨k_537, k_539, s_38, k_5, k_540⟩, by unfold zwD; decide +kernel⟩
theorem v_MO_158 : zwV R_MO 158 y_MO_in b_MO_in 3 (some .boolean) 2 := ⟨⟨k_541, k_543, s_39, k_5, k_544⟩, by unfold zwD; decide +kernel⟩
theorem v_MO_96 : zwV R_MO 96 y_MO_caseOf b_MO_caseOf 4 none 1 := ⟨⟨k_545, k_547, s_40, k_5, k_548⟩, by unfold zwD; decide +kernel⟩
theorem v_MO_89 : zwV R_MO 89 y_MO_first b_MO_first 2 (some .int) 1 := ⟨⟨k_549, k_551, s_41, k_5, k_552⟩, by unfold zwD; decide +kernel⟩
theorem v_MO_83 : zwV R_MO 83 y_MO_third b_MO_third 2 (some .int) 1 := ⟨⟨k_553, k_555, s_42, k_5, k_556⟩, by unfold zwD; decide +kernel⟩
theorem v_MO_86 : zwV R_MO 86 y_MO_pair b_MO_pair 3 (some .int) 1 := ⟨⟨k_557, k_559, s_43, k_5, k_560⟩, by unfold zwD; decide +kernel⟩
theorem v_MO_79 : zwV R_MO 79 y_MO_inAny b_MO_inAny 4 (some .boolean) 3 := ⟨⟨k_561, k_563, s_44, k_5, k_564⟩, by unfold zwD; decide +kernel⟩
theorem v_MO_92 : zwV R_MO 92 y_MO_withMate b_MO_withMate 2 none 1 := ⟨⟨k_565, k_567, s_45, k_5, k_568⟩, by unfold zwD; decide +kernel⟩
theorem v_LA_47 : zwV R_LA 47 y_MO_invert b_MO_invert 3 (some .int) 1 := ⟨⟨k_569, k_570, k_571, k_5, k_572⟩, by unfold zwD; decide +kernel⟩
theorem v_LA_52 : zwV R_LA 52 y_MO_join b_MO_join 4 (some .int) 2 := ⟨⟨k_573, k_574, k_575, k_5, k_576⟩, by unfold zwD; decide +kernel⟩
theorem v_LA_56 : zwV R_LA 56 y_MO_meets b_MO_meets 6 (some .int) 2 := ⟨⟨k_577, k_578, k_579, k_5, k_580⟩, by unfold zwD; decide +kernel⟩
theorem v_LA_60 : zwV R_LA 60 y_MO_same b_MO_same 6 (some .int) 2 := ⟨⟨k_581, k_582, k_583, k_5, k_584⟩, by unfold zwD; decide +kernel⟩
theorem v_LA_64 : zwV R_LA 64 y_MO_has b_MO_has 3 (some .int) 2 := ⟨⟨k_585, k_586, k_587, k_5, k_588⟩, by unfold zwD; decide +kernel⟩
theorem v_LA_68 : zwV R_LA 68 y_MO_size b_MO_size 2 (some .int) 1 := ⟨⟨k_589, k_590, k_591, k_5, k_592⟩, by unfold zwD; decide +kernel⟩
theorem v_LA_72 : zwV R_LA 72 y_MO_least b_MO_least 4 (some .int) 2 := ⟨⟨k_593, k_594, k_595, k_5, k_596⟩, by unfold zwD; decide +kernel⟩
theorem v_LA_77 : zwV R_LA 77 y_MO_bound b_MO_bound 6 (some .int) 3 := ⟨⟨k_597, k_598, k_599, k_5, k_600⟩, by unfold zwD; decide +kernel⟩
theorem v_MO_161 : zwV R_MO 161 y_MO_least b_MO_least 4 (some .int) 2 := ⟨⟨k_601, k_594, k_595, k_5, k_596⟩, by unfold zwD; decide +kernel⟩
theorem v_MO_165 : zwV R_MO 165 y_MO_after b_MO_after 4 (some .int) 2 := ⟨⟨k_602, k_604, s_46, k_5, k_605⟩, by unfold zwD; decide +kernel⟩
theorem v_LA_81 : zwV R_LA 81 y_MO_about b_MO_about 3 (some .int) 2 := ⟨⟨k_606, k_607, k_608, k_5, k_609⟩, by unfold zwD; decide +kernel⟩
theorem v_MO_168 : zwV R_MO 168 y_MO_upper b_MO_upper 4 (some .int) 1 := ⟨⟨k_610, k_612, s_47, k_5, k_613⟩, by unfold zwD; decide +kernel⟩
theorem v_MO_171 : zwV R_MO 171 y_MO_lower b_MO_lower 3 (some .int) 1 := ⟨⟨k_614, k_616, s_48, k_5, k_617⟩, by unfold zwD; decide +kernel⟩
theorem v_MO_174 : zwV R_MO 174 y_MO_next b_MO_next 5 (some .int) 1 := ⟨⟨k_618, k_620, s_49, k_5, k_621⟩, by unfold zwD; decide +kernel⟩
end
section
/-! EDGES: a set as its ascending edges; k edges are c or less -/
def asc (es : Nat → Int) (n : Nat) : Prop := ∀ i j, i < j → j < n → es i < es j
def Up (es : Nat → Int) (n : Nat) (c : Int) (k : Nat) : Prop := k ≤ n ∧ (∀ i, i < k → es i ≤ c) ∧ (∀ i, k ≤ i → i < n → c < es i)
theorem Up_ex {es : Nat → Int} (c : Int) : ∀ {n : Nat}, asc es n → ∃ k, Up es n c k := by
  intro n
  induction n with
  | zero => exact fun _ => ⟨0, Nat.le_refl _, fun i h => absurd h (by omega), fun i _ h => absurd h (by omega)⟩
  | succ n ih =>
    intro h
    obtain ⟨k, h1, h2, h3⟩ := ih (fun i j a b => h i j a (by omega))
    by_cases hk : k = n
    · subst hk
      by_cases hc : es k ≤ c
      · refine ⟨k + 1, Nat.le_refl _, fun i hi => ?_, fun i a b => absurd b (by omega)⟩
        by_cases q : i = k
        · rw [q]; exact hc
        · exact h2 i (by omega)
      · refine ⟨k, by omega, h2, fun i a b => ?_⟩
        have q : i = k := by omega
        rw [q]; omega
    · refine ⟨k, by omega, h2, fun i a b => ?_⟩
      by_cases q : i = n
      · have := h3 k (Nat.le_refl _) (by omega)
        have := h k n (by omega) (by omega)
        rw [q]; omega
      · exact h3 i a (by omega)
theorem Up_mono {es : Nat → Int} {n k k' : Nat} {c d : Int} (h : Up es n c k) (h' : Up es n d k') (hc : c ≤ d) : k ≤ k' := by
  rcases Nat.lt_or_ge k' k with q | q
  · have := h.2.1 k' q
    have := h'.2.2 k' (Nat.le_refl _) (by have := h.1; omega)
    omega
  · exact q
theorem Up_eq {es : Nat → Int} {n k k' : Nat} {c : Int} (h : Up es n c k) (h' : Up es n c k') : k = k' := Nat.le_antisymm (Up_mono h h' (Int.le_refl _)) (Up_mono h' h (Int.le_refl _))
/-- the search's turn -/
theorem Up_step {es : Nat → Int} {n k : Nat} {c : Int} (ha : asc es n) (h : Up es n c k) {t : Nat} (h0 : 0 < t) (ht : t ≤ n) : es (t - 1) ≤ c ↔ t ≤ k := by
  constructor
  · intro q
    rcases Nat.lt_or_ge k t with z | z
    · have := h.2.2 (t - 1) (by omega) (by omega)
      omega
    · exact z
  · intro q
    exact h.2.1 (t - 1) (by omega)
/-- insert, told by its four zones -/
theorem ins_asc {es es' : Nat → Int} {n f t nl nh : Nat} {low high : Int} (ha : asc es n) (hf : Up es n (low - 1) f) (ht : Up es n (high + 1) t) (hlh : low ≤ high) (hnl : nl + f % 2 = 1) (hnh : nh + t % 2 = 1)
    (zA : ∀ j, j < f → es' j = es j) (zB : nl = 1 → es' f = low) (zC : nh = 1 → es' (f + nl + nh - 1) = high + 1) (zD : ∀ j, f + nl + nh ≤ j → j < f + nl + nh + (n - t) → es' j = es (t + (j - (f + nl + nh)))) : asc es' (f + nl + nh + (n - t)) := by
  have hft : f ≤ t := Up_mono hf ht (by omega)
  have vA : ∀ j, j < f → es' j ≤ low - 1 := fun j h => by rw [zA j h]; exact hf.2.1 j h
  have vD : ∀ j, f + nl + nh ≤ j → j < f + nl + nh + (n - t) → high + 1 < es' j := fun j h1 h2 => by rw [zD j h1 h2]; exact ht.2.2 _ (by omega) (by omega)
  intro i j hij hj
  by_cases i1 : i < f
  · by_cases j1 : j < f
    · rw [zA i i1, zA j j1]; exact ha i j hij (by have := hf.1; omega)
    · have a1 := vA i i1
      by_cases j2 : f + nl + nh ≤ j
      · have := vD j j2 hj; omega
      · by_cases j3 : nh = 1 ∧ j = f + nl + nh - 1
        · have := zC j3.1; rw [j3.2]; omega
        · have e : j = f := by omega
          have := zB (by omega); rw [e]; omega
  · by_cases i2 : f + nl + nh ≤ i
    · rw [zD i i2 (by omega), zD j (by omega) hj]
      exact ha _ _ (by omega) (by omega)
    · by_cases j2 : f + nl + nh ≤ j
      · have := vD j j2 hj
        by_cases i3 : nh = 1 ∧ i = f + nl + nh - 1
        · have := zC i3.1; rw [i3.2]; omega
        · have e : i = f := by omega
          have := zB (by omega); rw [e]; omega
      · have e : i = f := by omega
        have e2 : j = f + nl + nh - 1 := by omega
        have := zB (by omega)
        have := zC (by omega)
        rw [e, e2]; omega
theorem ins_up {es es' : Nat → Int} {n f t nl nh : Nat} {low high : Int} (hf : Up es n (low - 1) f) (ht : Up es n (high + 1) t) (hlh : low ≤ high) (hnl : nl + f % 2 = 1) (hnh : nh + t % 2 = 1)
    (zA : ∀ j, j < f → es' j = es j) (zB : nl = 1 → es' f = low) (zC : nh = 1 → es' (f + nl + nh - 1) = high + 1) (zD : ∀ j, f + nl + nh ≤ j → j < f + nl + nh + (n - t) → es' j = es (t + (j - (f + nl + nh))))
    {c : Int} {k : Nat} (hk : Up es n c k) : ∃ k', Up es' (f + nl + nh + (n - t)) c k' ∧ (k' % 2 = 1 ↔ (k % 2 = 1 ∨ (low ≤ c ∧ c ≤ high))) := by
  have hft : f ≤ t := Up_mono hf ht (by omega)
  have htn := ht.1
  have vD : ∀ j, f + nl + nh ≤ j → j < f + nl + nh + (n - t) → high + 1 < es' j := fun j h1 h2 => by rw [zD j h1 h2]; exact ht.2.2 _ (by omega) (by omega)
  by_cases c1 : c < low
  · have hkf : k ≤ f := Up_mono hk hf (by omega)
    refine ⟨k, ⟨by omega, fun i hi => ?_, fun i a b => ?_⟩, by omega⟩
    · rw [zA i (by omega)]; exact hk.2.1 i hi
    · by_cases i1 : i < f
      · rw [zA i i1]; exact hk.2.2 i a (by omega)
      · by_cases i2 : f + nl + nh ≤ i
        · have := vD i i2 b; omega
        · by_cases i3 : nh = 1 ∧ i = f + nl + nh - 1
          · have := zC i3.1; rw [i3.2]; omega
          · have e : i = f := by omega
            have := zB (by omega); rw [e]; omega
  · by_cases c2 : c ≤ high
    · refine ⟨f + nl, ⟨by omega, fun i hi => ?_, fun i a b => ?_⟩, by omega⟩
      · by_cases i1 : i < f
        · rw [zA i i1]; have := hf.2.1 i i1; omega
        · have e : i = f := by omega
          have := zB (by omega); rw [e]; omega
      · by_cases i2 : f + nl + nh ≤ i
        · have := vD i i2 b; omega
        · have e : i = f + nl + nh - 1 := by omega
          have := zC (by omega); rw [e]; omega
    · have htk : t ≤ k := Up_mono ht hk (by omega)
      have hkn := hk.1
      refine ⟨f + nl + nh + (k - t), ⟨by omega, fun i hi => ?_, fun i a b => ?_⟩, by omega⟩
      · by_cases i1 : i < f
        · rw [zA i i1]; have := hf.2.1 i i1; omega
        · by_cases i2 : f + nl + nh ≤ i
          · rw [zD i i2 (by omega)]; exact hk.2.1 _ (by omega)
          · by_cases i3 : nh = 1 ∧ i = f + nl + nh - 1
            · have := zC i3.1; rw [i3.2]; omega
            · have e : i = f := by omega
              have := zB (by omega); rw [e]; omega
      · rw [zD i (by omega) b]; exact hk.2.2 _ (by omega) (by omega)
/-- every edge behind an insert was one, or is one of the two new ones -/
theorem ins_mem {es es' : Nat → Int} {n f t nl nh : Nat} {low high : Int} (ht : t ≤ n)
    (zA : ∀ j, j < f → es' j = es j) (zB : nl = 1 → es' f = low) (zC : nh = 1 → es' (f + nl + nh - 1) = high + 1) (zD : ∀ j, f + nl + nh ≤ j → j < f + nl + nh + (n - t) → es' j = es (t + (j - (f + nl + nh)))) (hnl : nl ≤ 1) (hnh : nh ≤ 1) (hft : f ≤ t)
    {j : Nat} (hj : j < f + nl + nh + (n - t)) : es' j = low ∨ es' j = high + 1 ∨ ∃ i, i < n ∧ es' j = es i := by
  by_cases i1 : j < f
  · exact Or.inr (Or.inr ⟨j, by omega, zA j i1⟩)
  · by_cases i2 : f + nl + nh ≤ j
    · exact Or.inr (Or.inr ⟨_, by omega, zD j i2 hj⟩)
    · by_cases i3 : nh = 1 ∧ j = f + nl + nh - 1
      · rw [i3.2]; exact Or.inr (Or.inl (zC i3.1))
      · have e : j = f := by omega
        rw [e]; exact Or.inl (zB (by omega))
/-- what the rows of the class do is told by the four zones -/
theorem ins_zones (es : Nat → Int) {n f t nl nh : Nat} (low hi : Int) (hnl : nl ≤ 1) (hnh : nh ≤ 1) (es' : Nat → Int)
    (he : es' = (if nh = 1 then (fun g => va_up g (f + nl + nh - 1) hi) else id) ((if nl = 1 then (fun g => va_up g f low) else id) (va_cpy es es t (f + nl + nh) (n - t)))) :
    (∀ j, j < f → es' j = es j) ∧ (nl = 1 → es' f = low) ∧ (nh = 1 → es' (f + nl + nh - 1) = hi) ∧ (∀ j, f + nl + nh ≤ j → j < f + nl + nh + (n - t) → es' j = es (t + (j - (f + nl + nh)))) := by
  subst he
  refine ⟨fun j hj => ?_, fun h => ?_, fun h => ?_, fun j h1 h2 => ?_⟩
  · by_cases a : nh = 1 <;> by_cases b : nl = 1 <;> simp [a, b, va_up, va_cpy] <;> omega
  · by_cases a : nh = 1 <;> simp [a, h, va_up]
  · by_cases b : nl = 1 <;> simp [b, h, va_up]
  · by_cases a : nh = 1 <;> by_cases b : nl = 1 <;> simp [a, b, va_up, va_cpy] <;> omega
/-- an ascending row whose values lie in a list is no longer than the list -/
theorem asc_len {es : Nat → Int} {n : Nat} (ha : asc es n) (B : List Int) (h : ∀ i, i < n → es i ∈ B) : n ≤ B.length := by
  have hn : ((List.range n).map es).Nodup := by
    rw [List.nodup_iff_pairwise_ne]
    rw [List.pairwise_map]
    refine List.Pairwise.imp_of_mem ?_ List.pairwise_lt_range
    intro a b h1 h2 h3
    have := ha a b h3 (List.mem_range.mp h2)
    omega
  have hs : ((List.range n).map es) ⊆ B := by
    intro x hx
    obtain ⟨i, hi, rfl⟩ := List.mem_map.mp hx
    exact h i (List.mem_range.mp hi)
  have := List.Nodup.length_le_of_subset hn hs
  simpa using this
end
section
/-! COUNTS: a set as a function to Bool, by its edges -/
def cnt (p : Nat → Bool) : Nat → Nat
  | 0 => 0
  | n + 1 => cnt p n + (if p n = true then 1 else 0)
/-- a range begins at c -/
def rst (p : Nat → Bool) : Nat → Bool := fun c => p c && (c == 0 || !p (c - 1))
def rep (last : Nat) (es : Nat → Int) (n : Nat) (p : Nat → Bool) : Prop :=
  asc es n ∧ n % 2 = 0 ∧ (∀ i, i < n → 0 ≤ es i ∧ es i ≤ (last : Int) + 1) ∧ ∀ c : Nat, c ≤ last → ∀ k, Up es n c k → (p c = true ↔ k % 2 = 1)
theorem Up_neg {es : Nat → Int} {n k : Nat} {c : Int} (hb : ∀ i, i < n → 0 ≤ es i) (hc : c < 0) (h : Up es n c k) : k = 0 := by
  rcases Nat.eq_zero_or_pos k with q | q
  · exact q
  · have := h.2.1 0 q
    have := hb 0 (by have := h.1; omega)
    omega
theorem Up_next {es : Nat → Int} {n k k' : Nat} {c : Int} (ha : asc es n) (h : Up es n c k) (h' : Up es n (c + 1) k') : k' = k ∨ (k' = k + 1 ∧ k < n ∧ es k = c + 1) := by
  have h1 := Up_mono h h' (by omega)
  have hn := h'.1
  by_cases q : k' = k
  · exact Or.inl q
  · have a := h.2.2 k (Nat.le_refl _) (by omega)
    have b := h'.2.1 k (by omega)
    by_cases z : k' = k + 1
    · exact Or.inr ⟨z, by omega, by omega⟩
    · have d := h'.2.1 (k + 1) (by omega)
      have := ha k (k + 1) (by omega) (by omega)
      omega
theorem Up_last {es : Nat → Int} {n k : Nat} {last : Nat} (ha : asc es n) (hb : ∀ i, i < n → es i ≤ (last : Int) + 1) (h : Up es n last k) : k = n ∨ (k + 1 = n ∧ es k = (last : Int) + 1) := by
  have h1 := h.1
  by_cases q : k = n
  · exact Or.inl q
  · have a := h.2.2 k (Nat.le_refl _) (by omega)
    have b := hb k (by omega)
    by_cases z : k + 1 = n
    · exact Or.inr ⟨z, by omega⟩
    · have d := hb (k + 1) (by omega)
      have := ha k (k + 1) (by omega) (by omega)
      omega
theorem rep_rc_aux {last : Nat} {es : Nat → Int} {n : Nat} {p : Nat → Bool} (h : rep last es n p) : ∀ C : Nat, C ≤ last + 1 → ∀ k, Up es n ((C : Int) - 1) k → cnt (rst p) C = (k + 1) / 2 := by
  obtain ⟨ha, hev, hb, hp⟩ := h
  intro C
  induction C with
  | zero =>
    intro _ k hk
    have := Up_neg (fun i hi => (hb i hi).1) (by omega) hk
    subst this
    rfl
  | succ C ih =>
    intro hC k' hk'
    obtain ⟨k, hk⟩ := Up_ex ((C : Int) - 1) ha
    have e := ih (by omega) k hk
    have hk2 : Up es n (C : Int) k' := by
      have : ((C + 1 : Nat) : Int) - 1 = C := by omega
      rw [this] at hk'; exact hk'
    have hpC := hp C (by omega) k' hk2
    have hnx := Up_next ha hk (by have : (C : Int) - 1 + 1 = C := by omega
                                  rw [this]; exact hk2)
    have hprev : (C == 0 || !p (C - 1)) = true ↔ k % 2 = 0 := by
      rcases Nat.eq_zero_or_pos C with q | q
      · have := Up_neg (fun i hi => (hb i hi).1) (by omega) hk
        simp [q, this]
      · have hq := hp (C - 1) (by omega) k (by have : ((C - 1 : Nat) : Int) = (C : Int) - 1 := by omega
                                               rw [this]; exact hk)
        have hne : (C == 0) = false := by simp; omega
        rw [hne, Bool.false_or]
        cases hpp : p (C - 1) with
        | true => rw [hpp] at hq; simp at hq; simp; omega
        | false => rw [hpp] at hq; simp at hq; simp; omega
    show cnt (rst p) C + (if rst p C = true then 1 else 0) = (k' + 1) / 2
    rw [e]
    by_cases hr : rst p C = true
    · have hr2 := hr
      unfold rst at hr2
      rw [Bool.and_eq_true, hpC, hprev] at hr2
      rw [if_pos hr]
      omega
    · rw [if_neg hr]
      have hr2 : ¬ (k' % 2 = 1 ∧ k % 2 = 0) := by
        intro z
        apply hr
        unfold rst
        rw [Bool.and_eq_true, hpC, hprev]
        exact z
      omega
theorem rep_rc {last : Nat} {es : Nat → Int} {n : Nat} {p : Nat → Bool} (h : rep last es n p) : cnt (rst p) (last + 1) = n / 2 := by
  obtain ⟨k, hk⟩ := Up_ex (last : Int) h.1
  have e := rep_rc_aux h (last + 1) (Nat.le_refl _) k (by have : ((last + 1 : Nat) : Int) - 1 = last := by omega
                                                          rw [this]; exact hk)
  have := Up_last h.1 (fun i hi => (h.2.2.1 i hi).2) hk
  have := h.2.1
  omega
def msum (es : Nat → Int) : Nat → Int
  | 0 => 0
  | m + 1 => msum es m + (es (2 * m + 1) - es (2 * m))
theorem rep_mc_aux {last : Nat} {es : Nat → Int} {n : Nat} {p : Nat → Bool} (h : rep last es n p) : ∀ C : Nat, C ≤ last + 1 → ∀ k, Up es n ((C : Int) - 1) k → (cnt p C : Int) = msum es (k / 2) + (if k % 2 = 1 then (C : Int) - es (k - 1) else 0) := by
  obtain ⟨ha, hev, hb, hp⟩ := h
  intro C
  induction C with
  | zero =>
    intro _ k hk
    have := Up_neg (fun i hi => (hb i hi).1) (by omega) hk
    subst this
    rfl
  | succ C ih =>
    intro hC k' hk'
    obtain ⟨k, hk⟩ := Up_ex ((C : Int) - 1) ha
    have e := ih (by omega) k hk
    have hk2 : Up es n (C : Int) k' := by
      have : ((C + 1 : Nat) : Int) - 1 = C := by omega
      rw [this] at hk'; exact hk'
    have hpC := hp C (by omega) k' hk2
    have hnx := Up_next ha hk (by have : (C : Int) - 1 + 1 = C := by omega
                                  rw [this]; exact hk2)
    have hc : cnt p (C + 1) = cnt p C + (if p C = true then 1 else 0) := rfl
    rw [hc]
    rcases hnx with rfl | ⟨rfl, hkn, hes⟩
    · by_cases o : k' % 2 = 1
      · rw [if_pos o] at e ⊢
        rw [if_pos (hpC.mpr o)]
        omega
      · rw [if_neg o] at e ⊢
        rw [if_neg (fun z => o (hpC.mp z))]
        omega
    · by_cases o : k % 2 = 1
      · rw [if_pos o] at e
        rw [if_neg (show ¬ (k + 1) % 2 = 1 by omega), if_neg (fun z => absurd (hpC.mp z) (by omega))]
        have e2 : (k + 1) / 2 = k / 2 + 1 := by omega
        have e3 : 2 * (k / 2) + 1 = k := by omega
        have e4 : 2 * (k / 2) = k - 1 := by omega
        rw [e2]
        show _ = msum es (k / 2) + (es (2 * (k / 2) + 1) - es (2 * (k / 2))) + 0
        rw [e3, e4]
        omega
      · rw [if_neg o] at e
        rw [if_pos (show (k + 1) % 2 = 1 by omega), if_pos (hpC.mpr (by omega))]
        have e2 : (k + 1) / 2 = k / 2 := by omega
        have e3 : k + 1 - 1 = k := by omega
        rw [e2, e3]
        omega
theorem rep_mc {last : Nat} {es : Nat → Int} {n : Nat} {p : Nat → Bool} (h : rep last es n p) : (cnt p (last + 1) : Int) = msum es (n / 2) := by
  obtain ⟨k, hk⟩ := Up_ex (last : Int) h.1
  have e := rep_mc_aux h (last + 1) (Nat.le_refl _) k (by have : ((last + 1 : Nat) : Int) - 1 = last := by omega
                                                          rw [this]; exact hk)
  have hev := h.2.1
  rcases Up_last h.1 (fun i hi => (h.2.2.1 i hi).2) hk with rfl | ⟨z, hes⟩
  · rw [if_neg (by omega)] at e
    omega
  · rw [if_pos (by omega)] at e
    have e2 : n / 2 = k / 2 + 1 := by omega
    have e3 : 2 * (k / 2) + 1 = k := by omega
    have e4 : 2 * (k / 2) = k - 1 := by omega
    rw [e2]
    show _ = msum es (k / 2) + (es (2 * (k / 2) + 1) - es (2 * (k / 2)))
    rw [e3, e4, hes]
    omega
/-- the same set has the same edges -/
theorem rep_up_same {last : Nat} {es es' : Nat → Int} {n n' : Nat} {p p' : Nat → Bool} (h : rep last es n p) (h' : rep last es' n' p') (hpp : ∀ c, c ≤ last → p c = p' c) : ∀ C : Nat, C ≤ last + 1 → ∀ k k', Up es n ((C : Int) - 1) k → Up es' n' ((C : Int) - 1) k' → k = k' := by
  intro C
  induction C with
  | zero =>
    intro _ k k' hk hk'
    have := Up_neg (fun i hi => (h.2.2.1 i hi).1) (by omega) hk
    have := Up_neg (fun i hi => (h'.2.2.1 i hi).1) (by omega) hk'
    omega
  | succ C ih =>
    intro hC k k' hk hk'
    obtain ⟨j, hj⟩ := Up_ex ((C : Int) - 1) h.1
    obtain ⟨j', hj'⟩ := Up_ex ((C : Int) - 1) h'.1
    have e := ih (by omega) j j' hj hj'
    have t : ((C + 1 : Nat) : Int) - 1 = (C : Int) := by omega
    rw [t] at hk hk'
    have a := h.2.2.2 C (by omega) k hk
    have a' := h'.2.2.2 C (by omega) k' hk'
    rw [hpp C (by omega)] at a
    have t2 : (C : Int) - 1 + 1 = C := by omega
    have b := Up_next h.1 hj (by rw [t2]; exact hk)
    have b' := Up_next h'.1 hj' (by rw [t2]; exact hk')
    have q : k % 2 = 1 ↔ k' % 2 = 1 := a.symm.trans a'
    omega
theorem rep_same {last : Nat} {es es' : Nat → Int} {n n' : Nat} {p p' : Nat → Bool} (h : rep last es n p) (h' : rep last es' n' p') (hpp : ∀ c, c ≤ last → p c = p' c) : n = n' ∧ ∀ i, i < n → es i = es' i := by
  have key := rep_up_same h h' hpp
  obtain ⟨k, hk⟩ := Up_ex (last : Int) h.1
  obtain ⟨k', hk'⟩ := Up_ex (last : Int) h'.1
  have t : ((last + 1 : Nat) : Int) - 1 = (last : Int) := by omega
  have e := key (last + 1) (Nat.le_refl _) k k' (by rw [t]; exact hk) (by rw [t]; exact hk')
  have z := Up_last h.1 (fun i hi => (h.2.2.1 i hi).2) hk
  have z' := Up_last h'.1 (fun i hi => (h'.2.2.1 i hi).2) hk'
  have v := h.2.1
  have v' := h'.2.1
  have hn : n = n' := by omega
  refine ⟨hn, fun i hi => ?_⟩
  have one : ∀ {es es' : Nat → Int} {n n' : Nat}, asc es n → (∀ i, i < n → 0 ≤ es i ∧ es i ≤ (last : Int) + 1) → (∀ i, i < n' → 0 ≤ es' i ∧ es' i ≤ (last : Int) + 1) → asc es' n' → n = n' → (∀ C : Nat, C ≤ last + 1 → ∀ k k', Up es n ((C : Int) - 1) k → Up es' n' ((C : Int) - 1) k' → k = k') → i < n → ¬ es i < es' i := by
    intro es es' n n' ha hb hb' ha' hn key hi q
    have b := hb i hi
    have b' := hb' i (by omega)
    obtain ⟨k, hk⟩ := Up_ex (es i) ha
    obtain ⟨k', hk'⟩ := Up_ex (es i) ha'
    have t : (((es i).toNat + 1 : Nat) : Int) - 1 = es i := by omega
    have e := key ((es i).toNat + 1) (by omega) k k' (by rw [t]; exact hk) (by rw [t]; exact hk')
    have u : i < k := by
      rcases Nat.lt_or_ge i k with w | w
      · exact w
      · have := hk.2.2 i w hi; omega
    have := hk'.2.1 i (by omega)
    omega
  have o1 := one h.1 h.2.2.1 h'.2.2.1 h'.1 hn key hi
  have o2 := one h'.1 h'.2.2.1 h.2.2.1 h.1 hn.symm (fun C hC k k' a b => (key C hC k' k b a).symm) (by omega)
  omega
/-- turning round -/
theorem rep_compl {last : Nat} {es e1 e2 : Nat → Int} {n n1 n2 : Nat} {p : Nat → Bool} (h : rep last es n p)
    (h1 : (0 < n ∧ es 0 = 0 ∧ n1 + 1 = n ∧ ∀ j, j < n1 → e1 j = es (j + 1)) ∨ (¬ (0 < n ∧ es 0 = 0) ∧ n1 = n + 1 ∧ e1 0 = 0 ∧ ∀ j, j < n → e1 (j + 1) = es j))
    (h2 : (0 < n1 ∧ e1 (n1 - 1) = (last : Int) + 1 ∧ n2 + 1 = n1 ∧ ∀ j, j < n2 → e2 j = e1 j) ∨ (¬ (0 < n1 ∧ e1 (n1 - 1) = (last : Int) + 1) ∧ n2 = n1 + 1 ∧ e2 n1 = (last : Int) + 1 ∧ ∀ j, j < n1 → e2 j = e1 j)) :
    rep last e2 n2 (fun c => !p c) := by
  obtain ⟨ha, hev, hb, hp⟩ := h
  have a1 : asc e1 n1 := by
    intro i j hij hj
    rcases h1 with ⟨q1, q2, q3, q4⟩ | ⟨q1, q2, q3, q4⟩
    · rw [q4 i (by omega), q4 j hj]; exact ha _ _ (by omega) (by omega)
    · obtain ⟨j', rfl⟩ : ∃ j', j = j' + 1 := ⟨j - 1, by omega⟩
      rw [q4 j' (by omega)]
      rcases Nat.eq_zero_or_pos i with z | z
      · rw [z, q3]
        have b0 := hb 0 (by omega)
        rcases Nat.eq_zero_or_pos j' with w | w
        · rw [w]
          have : ¬ es 0 = 0 := fun e => q1 ⟨by omega, e⟩
          omega
        · have := ha 0 j' w (by omega); omega
      · obtain ⟨i', rfl⟩ : ∃ i', i = i' + 1 := ⟨i - 1, by omega⟩
        rw [q4 i' (by omega)]; exact ha _ _ (by omega) (by omega)
  have b1 : ∀ i, i < n1 → 0 ≤ e1 i ∧ e1 i ≤ (last : Int) + 1 := by
    intro i hi
    rcases h1 with ⟨q1, q2, q3, q4⟩ | ⟨q1, q2, q3, q4⟩
    · rw [q4 i hi]; exact hb _ (by omega)
    · rcases Nat.eq_zero_or_pos i with z | z
      · rw [z, q3]; omega
      · obtain ⟨i', rfl⟩ : ∃ i', i = i' + 1 := ⟨i - 1, by omega⟩
        rw [q4 i' (by omega)]; exact hb _ (by omega)
  have u1 : ∀ c : Int, 0 ≤ c → ∀ k, Up es n c k → ∃ k1, Up e1 n1 c k1 ∧ k1 % 2 = (k + 1) % 2 := by
    intro c hc k hk
    have hkn := hk.1
    rcases h1 with ⟨q1, q2, q3, q4⟩ | ⟨q1, q2, q3, q4⟩
    · have k0 : 0 < k := by
        rcases Nat.eq_zero_or_pos k with z | z
        · have := hk.2.2 0 (by omega) q1; omega
        · exact z
      refine ⟨k - 1, ⟨by omega, fun i hi => ?_, fun i x y => ?_⟩, by omega⟩
      · rw [q4 i (by omega)]; exact hk.2.1 _ (by omega)
      · rw [q4 i y]; exact hk.2.2 _ (by omega) (by omega)
    · refine ⟨k + 1, ⟨by omega, fun i hi => ?_, fun i x y => ?_⟩, by omega⟩
      · rcases Nat.eq_zero_or_pos i with z | z
        · rw [z, q3]; exact hc
        · obtain ⟨i', rfl⟩ : ∃ i', i = i' + 1 := ⟨i - 1, by omega⟩
          rw [q4 i' (by omega)]; exact hk.2.1 _ (by omega)
      · obtain ⟨i', rfl⟩ : ∃ i', i = i' + 1 := ⟨i - 1, by omega⟩
        rw [q4 i' (by omega)]; exact hk.2.2 _ (by omega) (by omega)
  have a2 : asc e2 n2 := by
    intro i j hij hj
    rcases h2 with ⟨q1, q2, q3, q4⟩ | ⟨q1, q2, q3, q4⟩
    · rw [q4 i (by omega), q4 j hj]; exact a1 _ _ hij (by omega)
    · rw [q4 i (by omega)]
      by_cases z : j = n1
      · rw [z, q3]
        have bi := b1 i (by omega)
        by_cases w : i = n1 - 1
        · have : ¬ e1 (n1 - 1) = (last : Int) + 1 := fun e => q1 ⟨by omega, e⟩
          rw [w] at bi ⊢; omega
        · have := a1 i (n1 - 1) (by omega) (by omega)
          have := b1 (n1 - 1) (by omega)
          omega
      · rw [q4 j (by omega)]; exact a1 _ _ hij (by omega)
  refine ⟨a2, by omega, fun i hi => ?_, fun c hc k2 hk2 => ?_⟩
  · rcases h2 with ⟨q1, q2, q3, q4⟩ | ⟨q1, q2, q3, q4⟩
    · rw [q4 i hi]; exact b1 _ (by omega)
    · by_cases z : i = n1
      · rw [z, q3]; omega
      · rw [q4 i (by omega)]; exact b1 _ (by omega)
  · obtain ⟨k, hk⟩ := Up_ex (c : Int) ha
    obtain ⟨k1, hk1, hpar⟩ := u1 c (by omega) k hk
    have hkn1 := hk1.1
    have u2 : Up e2 n2 c k1 := by
      rcases h2 with ⟨q1, q2, q3, q4⟩ | ⟨q1, q2, q3, q4⟩
      · have lt : k1 < n1 := by
          rcases Nat.lt_or_ge k1 n1 with w | w
          · exact w
          · have := hk1.2.1 (n1 - 1) (by omega); omega
        refine ⟨by omega, fun i hi => ?_, fun i x y => ?_⟩
        · rw [q4 i (by omega)]; exact hk1.2.1 _ hi
        · rw [q4 i y]; exact hk1.2.2 _ x (by omega)
      · refine ⟨by omega, fun i hi => ?_, fun i x y => ?_⟩
        · rw [q4 i (by omega)]; exact hk1.2.1 _ hi
        · by_cases z : i = n1
          · rw [z, q3]; omega
          · rw [q4 i (by omega)]; exact hk1.2.2 _ x (by omega)
    have e := Up_eq hk2 u2
    have hkk := hp c hc k hk
    have hk3 : k2 % 2 = (k + 1) % 2 := by rw [e]; exact hpar
    show (!p c) = true ↔ k2 % 2 = 1
    rw [hk3]
    cases hpc : p c with
    | true =>
      have q : k % 2 = 1 := hkk.mp hpc
      exact ⟨fun z => absurd z (by decide), fun z => absurd z (by omega)⟩
    | false =>
      have q : ¬ k % 2 = 1 := fun z => by have w := hkk.mpr z; rw [hpc] at w; cases w
      exact ⟨fun _ => by omega, fun _ => rfl⟩
end
section
/-! BITS: the number of ones of a word, byte by byte -/
theorem and_split (k a b c d : Nat) (hb : b < 2 ^ k) (hd : d < 2 ^ k) : (2 ^ k * a + b) &&& (2 ^ k * c + d) = 2 ^ k * (a &&& c) + (b &&& d) := by
  apply Nat.eq_of_testBit_eq
  intro j
  have hbd : b &&& d < 2 ^ k := Nat.and_lt_two_pow b hd
  rw [Nat.testBit_and, Nat.testBit_two_pow_mul_add a hb, Nat.testBit_two_pow_mul_add c hd, Nat.testBit_two_pow_mul_add _ hbd]
  by_cases h : j < k
  · rw [if_pos h, if_pos h, if_pos h, Nat.testBit_and]
  · rw [if_neg h, if_neg h, if_neg h, Nat.testBit_and]
theorem and_split8 (a b c d : Nat) (hb : b < 256) (hd : d < 256) : (256 * a + b) &&& (256 * c + d) = 256 * (a &&& c) + (b &&& d) := and_split 8 a b c d hb hd
theorem cnt_add (p : Nat → Bool) (a : Nat) : ∀ b, cnt p (a + b) = cnt p a + cnt (fun i => p (a + i)) b
  | 0 => rfl
  | b + 1 => by
    show cnt p (a + b) + (if p (a + b) = true then 1 else 0) = cnt p a + (cnt (fun i => p (a + i)) b + (if p (a + b) = true then 1 else 0))
    rw [cnt_add p a b]
    omega
theorem cnt_congr {p q : Nat → Bool} : ∀ {n : Nat}, (∀ i, i < n → p i = q i) → cnt p n = cnt q n
  | 0, _ => rfl
  | n + 1, h => by
    show cnt p n + _ = cnt q n + _
    rw [cnt_congr (fun i hi => h i (by omega)), h n (by omega)]
def mk8 (m : Nat) : Nat → Nat
  | 0 => 0
  | k + 1 => 256 * mk8 m k + m
def bm (f : Nat → Nat) : Nat → Nat → Nat
  | 0, _ => 0
  | k + 1, n => 256 * bm f k (n / 256) + f (n % 256)
def bsum (f : Nat → Nat) : Nat → Nat → Nat
  | 0, _ => 0
  | k + 1, n => f (n % 256) + bsum f k (n / 256)
def by1 (x : Nat) : Nat := x - ((x / 2) &&& 85)
def by2 (x : Nat) : Nat := (x &&& 51) + ((x / 4) &&& 51)
def by3 (x : Nat) : Nat := (x + x / 16) % 16
theorem by_ok : ∀ x, x < 256 → by3 (by2 (by1 x)) = cnt (fun i => x.testBit i) 8 ∧ by1 x < 256 ∧ by2 (by1 x) < 256 ∧ by2 (by1 x) % 16 ≤ 4 ∧ by2 (by1 x) / 16 ≤ 4 ∧ ((x / 2) &&& 85) ≤ x ∧ by3 (by2 (by1 x)) ≤ 8 := by decide +kernel
theorem by_e1 : ∀ x, x < 256 → ∀ e, e < 2 → (128 * e + x / 2) &&& 85 = (x / 2) &&& 85 := by decide +kernel
theorem by_e2 : ∀ x, x < 256 → ∀ e, e < 4 → (64 * e + x / 4) &&& 51 = (x / 4) &&& 51 := by decide +kernel
theorem bm_and1 : ∀ k n, (n / 2) &&& mk8 85 k = bm (fun x => (x / 2) &&& 85) k n
  | 0, n => by show (n / 2) &&& 0 = 0; exact Nat.and_zero _
  | k + 1, n => by
    show (n / 2) &&& (256 * mk8 85 k + 85) = 256 * bm _ k (n / 256) + ((n % 256 / 2) &&& 85)
    have e : n / 2 = 256 * (n / 256 / 2) + (128 * (n / 256 % 2) + n % 256 / 2) := by omega
    rw [e, and_split8 _ _ _ _ (by omega) (by omega), bm_and1 k (n / 256), by_e1 _ (by omega) _ (by omega)]
theorem bm_and2a : ∀ k n, n &&& mk8 51 k = bm (fun x => x &&& 51) k n
  | 0, n => by show n &&& 0 = 0; exact Nat.and_zero _
  | k + 1, n => by
    show n &&& (256 * mk8 51 k + 51) = 256 * bm _ k (n / 256) + ((n % 256) &&& 51)
    have e : n = 256 * (n / 256) + n % 256 := by omega
    rw [← bm_and2a k (n / 256)]
    conv => lhs; rw [e]
    rw [and_split8 _ _ _ _ (by omega) (by omega)]
theorem bm_and2b : ∀ k n, (n / 4) &&& mk8 51 k = bm (fun x => (x / 4) &&& 51) k n
  | 0, n => by show (n / 4) &&& 0 = 0; exact Nat.and_zero _
  | k + 1, n => by
    show (n / 4) &&& (256 * mk8 51 k + 51) = 256 * bm _ k (n / 256) + ((n % 256 / 4) &&& 51)
    have e : n / 4 = 256 * (n / 256 / 4) + (64 * (n / 256 % 4) + n % 256 / 4) := by omega
    rw [e, and_split8 _ _ _ _ (by omega) (by omega), bm_and2b k (n / 256), by_e2 _ (by omega) _ (by omega)]
theorem bm_add (f g : Nat → Nat) : ∀ k n, bm f k n + bm g k n = bm (fun x => f x + g x) k n
  | 0, _ => rfl
  | k + 1, n => by
    show 256 * bm f k (n / 256) + f (n % 256) + (256 * bm g k (n / 256) + g (n % 256)) = 256 * bm _ k (n / 256) + (f (n % 256) + g (n % 256))
    rw [← bm_add f g k (n / 256)]
    omega
theorem bm_le (g : Nat → Nat) (hg : ∀ x, x < 256 → g x ≤ x) : ∀ k n, bm g k n ≤ n
  | 0, _ => Nat.zero_le _
  | k + 1, n => by
    show 256 * bm g k (n / 256) + g (n % 256) ≤ n
    have := bm_le g hg k (n / 256)
    have := hg (n % 256) (by omega)
    omega
theorem bm_sub (g : Nat → Nat) (hg : ∀ x, x < 256 → g x ≤ x) : ∀ k n, n < 256 ^ k → n - bm g k n = bm (fun x => x - g x) k n
  | 0, n, h => by
    have : n = 0 := by omega
    subst this
    rfl
  | k + 1, n, h => by
    show n - (256 * bm g k (n / 256) + g (n % 256)) = 256 * bm _ k (n / 256) + (n % 256 - g (n % 256))
    have h2 : n / 256 < 256 ^ k := by rw [Nat.pow_succ] at h; omega
    rw [← bm_sub g hg k (n / 256) h2]
    have := bm_le g hg k (n / 256)
    have := hg (n % 256) (by omega)
    omega
theorem bm_comp (f g : Nat → Nat) (hg : ∀ x, x < 256 → g x < 256) : ∀ k n, bm f k (bm g k n) = bm (fun x => f (g x)) k n
  | 0, _ => rfl
  | k + 1, n => by
    show 256 * bm f k ((256 * bm g k (n / 256) + g (n % 256)) / 256) + f ((256 * bm g k (n / 256) + g (n % 256)) % 256) = 256 * bm _ k (n / 256) + f (g (n % 256))
    have := hg (n % 256) (by omega)
    rw [show (256 * bm g k (n / 256) + g (n % 256)) / 256 = bm g k (n / 256) by omega, show (256 * bm g k (n / 256) + g (n % 256)) % 256 = g (n % 256) by omega, bm_comp f g hg k (n / 256)]
theorem bm_lt (g : Nat → Nat) (hg : ∀ x, x < 256 → g x < 256) : ∀ k n, bm g k n < 256 ^ k
  | 0, _ => by show (0 : Nat) < 256 ^ 0; decide
  | k + 1, n => by
    show 256 * bm g k (n / 256) + g (n % 256) < 256 ^ (k + 1)
    have := bm_lt g hg k (n / 256)
    have := hg (n % 256) (by omega)
    rw [Nat.pow_succ]
    omega
theorem bm_congr {f g : Nat → Nat} (h : ∀ x, x < 256 → f x = g x) : ∀ k n, bm f k n = bm g k n
  | 0, _ => rfl
  | k + 1, n => by
    show 256 * bm f k (n / 256) + f (n % 256) = 256 * bm g k (n / 256) + g (n % 256)
    rw [bm_congr h k (n / 256), h _ (by omega)]
end
section
theorem bm_16 (h : Nat → Nat) (hh : ∀ x, x < 256 → h x % 16 ≤ 4) : ∀ k m, bm h k m % 16 ≤ 4
  | 0, _ => by show 0 % 16 ≤ 4; omega
  | k + 1, m => by
    show (256 * bm h k (m / 256) + h (m % 256)) % 16 ≤ 4
    have := hh (m % 256) (by omega)
    omega
theorem bm_s3 (h : Nat → Nat) (h1 : ∀ x, x < 256 → h x % 16 ≤ 4) (h2 : ∀ x, x < 256 → h x / 16 ≤ 4) : ∀ k m, (bm h k m + bm h k m / 16) &&& mk8 15 k = bm (fun x => by3 (h x)) k m
  | 0, m => by show (0 + 0 / 16) &&& 0 = 0; rfl
  | k + 1, m => by
    show (256 * bm h k (m / 256) + h (m % 256) + (256 * bm h k (m / 256) + h (m % 256)) / 16) &&& (256 * mk8 15 k + 15) = 256 * bm _ k (m / 256) + by3 (h (m % 256))
    have a1 := h1 (m % 256) (by omega)
    have a2 := h2 (m % 256) (by omega)
    have a3 := bm_16 h h1 k (m / 256)
    have ih := bm_s3 h h1 h2 k (m / 256)
    generalize bm h k (m / 256) = A at *
    generalize h (m % 256) = B at *
    have e : 256 * A + B + (256 * A + B) / 16 = 256 * (A + A / 16) + (B + 16 * (A % 16) + B / 16) := by omega
    rw [e, and_split8 _ _ _ _ (by omega) (by omega), ih]
    have e2 : (B + 16 * (A % 16) + B / 16) &&& 15 = (B + 16 * (A % 16) + B / 16) % 16 := Nat.and_two_pow_sub_one_eq_mod _ 4
    rw [e2]
    show _ = _ + (B + B / 16) % 16
    omega
end
section
theorem top_gen (A L S U : Nat) (hA : 0 < A) (hL : L < A) (hS : S < 256) : (L + A * S + 256 * A * U) % (256 * A) / A = S := by
  have h1 : L + A * S < 256 * A := by
    have : A * S + A ≤ A * 256 := by rw [← Nat.mul_succ]; exact Nat.mul_le_mul_left A hS
    rw [Nat.mul_comm 256 A]
    omega
  rw [Nat.add_mul_mod_self_left, Nat.mod_eq_of_lt h1, Nat.add_mul_div_left _ _ hA, Nat.div_eq_of_lt hL, Nat.zero_add]
theorem top_aux (L S U : Nat) (hL : L < 72057594037927936) (hS : S ≤ 64) : (L + 72057594037927936 * S + 18446744073709551616 * U) % 18446744073709551616 / 72057594037927936 = S := top_gen 72057594037927936 L S U (by decide) hL (Nat.lt_of_le_of_lt hS (by decide))
theorem top_key (x L S U : Nat) (h : x = L + 72057594037927936 * S + 18446744073709551616 * U) (hL : L < 72057594037927936) (hS : S ≤ 64) : x % 18446744073709551616 / 72057594037927936 = S := by
  subst h
  exact top_aux L S U hL hS
end
section
theorem top_e (r0 r1 r2 r3 r4 r5 r6 r7 : Nat) : (256 * (256 * (256 * (256 * (256 * (256 * (256 * (256 * 0 + r7) + r6) + r5) + r4) + r3) + r2) + r1) + r0) * 72340172838076673 = (r0 + 256 * (r0 + r1) + 65536 * (r0 + r1 + r2) + 16777216 * (r0 + r1 + r2 + r3) + 4294967296 * (r0 + r1 + r2 + r3 + r4) + 1099511627776 * (r0 + r1 + r2 + r3 + r4 + r5) + 281474976710656 * (r0 + r1 + r2 + r3 + r4 + r5 + r6)) + 72057594037927936 * (r0 + r1 + r2 + r3 + r4 + r5 + r6 + r7) + 18446744073709551616 * ((r1 + r2 + r3 + r4 + r5 + r6 + r7) + 256 * (r2 + r3 + r4 + r5 + r6 + r7) + 65536 * (r3 + r4 + r5 + r6 + r7) + 16777216 * (r4 + r5 + r6 + r7) + 4294967296 * (r5 + r6 + r7) + 1099511627776 * (r6 + r7) + 281474976710656 * r7) := by omega
end
section
theorem top_l (r0 r1 r2 r3 r4 r5 r6 r7 : Nat) (a0 : r0 ≤ 8) (a1 : r1 ≤ 8) (a2 : r2 ≤ 8) (a3 : r3 ≤ 8) (a4 : r4 ≤ 8) (a5 : r5 ≤ 8) (a6 : r6 ≤ 8) (a7 : r7 ≤ 8) : (r0 + 256 * (r0 + r1) + 65536 * (r0 + r1 + r2) + 16777216 * (r0 + r1 + r2 + r3) + 4294967296 * (r0 + r1 + r2 + r3 + r4) + 1099511627776 * (r0 + r1 + r2 + r3 + r4 + r5) + 281474976710656 * (r0 + r1 + r2 + r3 + r4 + r5 + r6)) < 72057594037927936 := by omega
end
section
theorem bm_top (f : Nat → Nat) (hf : ∀ x, x < 256 → f x ≤ 8) (m : Nat) : bm f 8 m * 72340172838076673 % 18446744073709551616 / 72057594037927936 = bsum f 8 m := by
  simp only [bm, bsum]
  have a0 := hf (m % 256) (by omega)
  have a1 := hf (m / 256 % 256) (by omega)
  have a2 := hf (m / 256 / 256 % 256) (by omega)
  have a3 := hf (m / 256 / 256 / 256 % 256) (by omega)
  have a4 := hf (m / 256 / 256 / 256 / 256 % 256) (by omega)
  have a5 := hf (m / 256 / 256 / 256 / 256 / 256 % 256) (by omega)
  have a6 := hf (m / 256 / 256 / 256 / 256 / 256 / 256 % 256) (by omega)
  have a7 := hf (m / 256 / 256 / 256 / 256 / 256 / 256 / 256 % 256) (by omega)
  generalize f (m % 256) = r0 at *
  generalize f (m / 256 % 256) = r1 at *
  generalize f (m / 256 / 256 % 256) = r2 at *
  generalize f (m / 256 / 256 / 256 % 256) = r3 at *
  generalize f (m / 256 / 256 / 256 / 256 % 256) = r4 at *
  generalize f (m / 256 / 256 / 256 / 256 / 256 % 256) = r5 at *
  generalize f (m / 256 / 256 / 256 / 256 / 256 / 256 % 256) = r6 at *
  generalize f (m / 256 / 256 / 256 / 256 / 256 / 256 / 256 % 256) = r7 at *
  clear hf
  have e := top_e r0 r1 r2 r3 r4 r5 r6 r7
  have l := top_l r0 r1 r2 r3 r4 r5 r6 r7 a0 a1 a2 a3 a4 a5 a6 a7
  exact (top_key _ _ _ _ e l (by clear e l; omega)).trans (by clear e l; omega)
end
section
theorem bsum_cnt : ∀ k n, bsum (fun x => cnt (fun i => x.testBit i) 8) k n = cnt (fun i => n.testBit i) (8 * k)
  | 0, _ => rfl
  | k + 1, n => by
    show cnt (fun i => (n % 256).testBit i) 8 + bsum _ k (n / 256) = _
    rw [bsum_cnt k (n / 256), show 8 * (k + 1) = 8 + 8 * k by omega, cnt_add]
    have e1 : cnt (fun i => (n % 256).testBit i) 8 = cnt (fun i => n.testBit i) 8 := cnt_congr (fun i hi => by
      show (n % 2 ^ 8).testBit i = n.testBit i
      rw [Nat.testBit_mod_two_pow]; simp [hi])
    have e2 : cnt (fun i => (n / 256).testBit i) (8 * k) = cnt (fun i => n.testBit (8 + i)) (8 * k) := cnt_congr (fun i _ => by
      show (n / 2 ^ 8).testBit i = n.testBit (8 + i)
      rw [Nat.testBit_div_two_pow, Nat.add_comm])
    rw [e1, e2]
theorem bsum_congr {f g : Nat → Nat} (h : ∀ x, x < 256 → f x = g x) : ∀ k n, bsum f k n = bsum g k n
  | 0, _ => rfl
  | k + 1, n => by
    show f (n % 256) + bsum f k (n / 256) = g (n % 256) + bsum g k (n / 256)
    rw [bsum_congr h k (n / 256), h _ (by omega)]
end
section
/-- the reference's count of a word's ones, in Nat -/
theorem ones_nat (b : Nat) (hb : b < 18446744073709551616) (n1 n2 n3 : Nat) (e1 : n1 = b - ((b / 2) &&& 6148914691236517205)) (e2 : n2 = (n1 &&& 3689348814741910323) + ((n1 / 4) &&& 3689348814741910323)) (e3 : n3 = (n2 + n2 / 16) &&& 1085102592571150095) :
    n1 < 18446744073709551616 ∧ n2 < 18446744073709551616 ∧ n2 + n2 / 16 < 18446744073709551616 ∧ n3 < 18446744073709551616 ∧ ((b / 2) &&& 6148914691236517205) ≤ b ∧ n3 * 72340172838076673 % 18446744073709551616 / 72057594037927936 = cnt (fun i => b.testBit i) 64 := by
  have m1 : mk8 85 8 = 6148914691236517205 := by decide +kernel
  have m2 : mk8 51 8 = 3689348814741910323 := by decide +kernel
  have m3 : mk8 15 8 = 1085102592571150095 := by decide +kernel
  rw [← m1, bm_and1] at e1
  have hg : ∀ x, x < 256 → (x / 2) &&& 85 ≤ x := fun x hx => (by_ok x hx).2.2.2.2.2.1
  have le1 : ((b / 2) &&& 6148914691236517205) ≤ b := by rw [← m1, bm_and1]; exact bm_le _ hg 8 b
  rw [bm_sub _ hg 8 b (by rw [show (256 : Nat) ^ 8 = 18446744073709551616 by decide]; exact hb)] at e1
  have f1 : n1 = bm by1 8 b := e1
  rw [← m2, bm_and2a, bm_and2b, bm_add] at e2
  have f2 : n2 = bm by2 8 n1 := e2
  rw [f1, bm_comp by2 by1 (fun x hx => (by_ok x hx).2.1)] at f2
  rw [← m3, f2, bm_s3 _ (fun x hx => (by_ok x hx).2.2.2.1) (fun x hx => (by_ok x hx).2.2.2.2.1)] at e3
  have p8 : (256 : Nat) ^ 8 = 18446744073709551616 := by decide
  have l1 : n1 < 18446744073709551616 := by rw [f1, ← p8]; exact bm_lt _ (fun x hx => (by_ok x hx).2.1) 8 b
  have g2 : ∀ x, x < 256 → by2 (by1 x) < 128 := fun x hx => by have := by_ok x hx; omega
  have l2a : n2 ≤ bm (fun _ => 127) 8 b := by
    rw [f2]
    have mono : ∀ k m, bm (fun x => by2 (by1 x)) k m ≤ bm (fun _ => 127) k m := by
      intro k
      induction k with
      | zero => exact fun _ => Nat.le_refl _
      | succ k ih =>
        intro m
        show 256 * bm _ k (m / 256) + by2 (by1 (m % 256)) ≤ 256 * bm _ k (m / 256) + 127
        have := ih (m / 256)
        have := g2 (m % 256) (by omega)
        omega
    exact mono 8 b
  have l2b : bm (fun _ => 127) 8 b = 9187201950435737471 := by simp [bm]
  rw [l2b] at l2a
  have l3 : n3 < 18446744073709551616 := by
    rw [e3, ← p8]
    exact bm_lt _ (fun x hx => Nat.lt_of_le_of_lt (by_ok x hx).2.2.2.2.2.2 (by decide)) 8 b
  have l5 : n3 * 72340172838076673 % 18446744073709551616 / 72057594037927936 = cnt (fun i => b.testBit i) 64 := by
    rw [e3]
    refine (bm_top (fun x => by3 (by2 (by1 x))) (fun x hx => (by_ok x hx).2.2.2.2.2.2) b).trans ?_
    rw [bsum_congr (fun x hx => (by_ok x hx).1) 8 b]
    exact bsum_cnt 8 b
  clear e1 e2 e3 f1 f2
  exact ⟨l1, by clear le1 l5 l3 l1; omega, by clear le1 l5 l3 l1; omega, l3, le1, l5⟩
end
section
/-! LEAST, RANGES: what the edges say of members -/
def Lst (last : Nat) (p : Nat → Bool) (c r : Int) : Prop :=
  (r = -1 ∧ ∀ d : Nat, d ≤ last → c ≤ d → p d = false) ∨ (∃ d : Nat, r = d ∧ d ≤ last ∧ c ≤ d ∧ p d = true ∧ ∀ d' : Nat, c ≤ d' → d' < d → p d' = false)
theorem Lst_eq {last : Nat} {p : Nat → Bool} {c r r' : Int} (h : Lst last p c r) (h' : Lst last p c r') : r = r' := by
  rcases h with ⟨e, h⟩ | ⟨d, e, h1, h2, h3, h4⟩ <;> rcases h' with ⟨e', h'⟩ | ⟨d', e', h1', h2', h3', h4'⟩
  · omega
  · have := h d' h1' h2'; rw [this] at h3'; cases h3'
  · have := h' d h1 h2; rw [this] at h3; cases h3
  · rcases Nat.lt_trichotomy d d' with q | q | q
    · have := h4' d h2 q; rw [this] at h3; cases h3
    · omega
    · have := h4 d' h2' q; rw [this] at h3'; cases h3'
theorem rep_false {last : Nat} {es : Nat → Int} {n : Nat} {p : Nat → Bool} (h : rep last es n p) {d k : Nat} (hd : d ≤ last) (hk : Up es n d k) (he : k % 2 = 0) : p d = false := by
  have := h.2.2.2 d hd k hk
  cases hp : p d with
  | false => rfl
  | true => rw [hp] at this; simp at this; omega
theorem rep_odd {last : Nat} {es : Nat → Int} {n : Nat} {p : Nat → Bool} (h : rep last es n p) {c : Int} {k : Nat} (hk : Up es n c k) (ho : k % 2 = 1) : 0 ≤ c ∧ c ≤ last ∧ p c.toNat = true ∧ Lst last p c c := by
  obtain ⟨ha, hev, hb, hp⟩ := h
  have hkn := hk.1
  have h0 : 0 ≤ c := by
    have := hk.2.1 (k - 1) (by omega)
    have := hb (k - 1) (by omega)
    omega
  have hl : c ≤ last := by
    have := hk.2.2 k (Nat.le_refl _) (by omega)
    have := hb k (by omega)
    omega
  have e : ((c.toNat : Nat) : Int) = c := by omega
  have hpc : p c.toNat = true := (hp c.toNat (by omega) k (by rw [e]; exact hk)).mpr ho
  exact ⟨h0, hl, hpc, Or.inr ⟨c.toNat, by omega, by omega, by omega, hpc, fun d' a b => absurd b (by omega)⟩⟩
theorem rep_even {last : Nat} {es : Nat → Int} {n : Nat} {p : Nat → Bool} (h : rep last es n p) {c : Int} {k : Nat} (hk : Up es n c k) (ho : k % 2 = 0) (hn : k < n) : 0 ≤ es k ∧ es k ≤ last ∧ Lst last p c (es k) := by
  have h' := h
  obtain ⟨ha, hev, hb, hp⟩ := h
  have b0 := hb k hn
  have b1 := hb (k + 1) (by omega)
  have a1 := ha k (k + 1) (by omega) (by omega)
  have hc := hk.2.2 k (Nat.le_refl _) hn
  have e : (((es k).toNat : Nat) : Int) = es k := by omega
  have hu : Up es n (es k) (k + 1) := by
    refine ⟨by omega, fun i hi => ?_, fun i x y => ?_⟩
    · by_cases q : i = k
      · rw [q]; exact Int.le_refl _
      · have := ha i k (by omega) hn; omega
    · exact ha k i (by omega) y
  refine ⟨b0.1, by omega, Or.inr ⟨(es k).toNat, by omega, by omega, by omega, ?_, fun d' x y => ?_⟩⟩
  · exact (hp _ (by omega) (k + 1) (by rw [e]; exact hu)).mpr (by omega)
  · refine rep_false h' (by omega) (k := k) ⟨by omega, fun i hi => ?_, fun i z w => ?_⟩ ho
    · have := hk.2.1 i hi; omega
    · by_cases q : i = k
      · rw [q]; omega
      · have := ha k i (by omega) w; omega
theorem rep_end {last : Nat} {es : Nat → Int} {n : Nat} {p : Nat → Bool} (h : rep last es n p) {c : Int} (hk : Up es n c n) : Lst last p c (-1) := by
  refine Or.inl ⟨rfl, fun d hd hc => ?_⟩
  refine rep_false h hd (k := n) ⟨Nat.le_refl _, fun i hi => ?_, fun i x y => absurd y (by omega)⟩ h.2.1
  have := hk.2.1 i hi
  omega
theorem rep_in {last : Nat} {es : Nat → Int} {n : Nat} {p : Nat → Bool} (h : rep last es n p) {c : Nat} (hc : c ≤ last) : p c = true ↔ ∃ i, 2 * i + 1 < n ∧ es (2 * i) ≤ c ∧ (c : Int) < es (2 * i + 1) := by
  obtain ⟨ha, hev, hb, hp⟩ := h
  obtain ⟨k, hk⟩ := Up_ex (c : Int) ha
  rw [hp c hc k hk]
  have hkn := hk.1
  constructor
  · intro ho
    refine ⟨k / 2, by omega, ?_, ?_⟩
    · have := hk.2.1 (2 * (k / 2)) (by omega); exact this
    · have := hk.2.2 (2 * (k / 2) + 1) (by omega) (by omega); exact this
  · intro ⟨i, h1, h2, h3⟩
    have a : 2 * i < k := by
      rcases Nat.lt_or_ge (2 * i) k with w | w
      · exact w
      · have := hk.2.2 _ w (by omega); omega
    have b : k ≤ 2 * i + 1 := by
      rcases Nat.lt_or_ge (2 * i + 1) k with w | w
      · have := hk.2.1 _ w; omega
      · exact w
    omega
end
section
/-! THE REFERENCE, PURE: its tables and functions of numbers -/
def lA (w : Nat → Nat) : Nat → Int64 := fun j => lN (w j)
def nF (f : Nat → Nat) : Nat → Int := fun j => ((f j : Nat) : Int)
def kset (f : Nat → Nat) (a b w : Nat) : Nat → Nat := fun c => cond (Nat.ble a c && Nat.ble c b) w (f c)
def kfold (L : List (Nat × Nat × Nat)) (f : Nat → Nat) : Nat → Nat := L.foldl (fun f t => kset f t.1 t.2.1 t.2.2) f
def kalt (f : Nat → Nat) (a b : Nat) : Nat → Nat := fun c => cond (Nat.ble a c && (Nat.blt c b && Nat.beq ((c - a) % 2) 0)) 6 (f c)
def K0 : List (Nat × Nat × Nat) := [(0, 31, 1), (127, 159, 1), (32, 32, 24), (160, 160, 24), (8192, 8202, 24), (8239, 8239, 24), (8287, 8287, 24), (12288, 12288, 24), (8232, 8232, 22), (8233, 8233, 23), (33, 35, 16), (37, 39, 16), (42, 42, 16), (44, 44, 16), (46, 47, 16), (58, 59, 16), (63, 64, 16), (92, 92, 16), (161, 161, 16), (167, 167, 16), (182, 183, 16), (191, 191, 16), (8214, 8215, 16), (8224, 8231, 16), (36, 36, 18), (162, 165, 18), (8352, 8383, 18), (40, 40, 17), (91, 91, 17), (123, 123, 17)]
def K1 : List (Nat × Nat × Nat) := [(8218, 8218, 17), (8222, 8222, 17), (41, 41, 13), (93, 93, 13), (125, 125, 13), (43, 43, 20), (60, 62, 20), (124, 124, 20), (126, 126, 20), (172, 172, 20), (177, 177, 20), (215, 215, 20), (247, 247, 20), (8592, 8596, 20), (45, 45, 12), (8208, 8213, 12), (48, 57, 8), (1632, 1641, 8), (94, 94, 19), (96, 96, 19), (168, 168, 19), (175, 175, 19), (180, 180, 19), (184, 184, 19), (95, 95, 11), (166, 166, 21), (169, 169, 21), (174, 174, 21), (176, 176, 21), (170, 170, 5)]
def K2 : List (Nat × Nat × Nat) := [(186, 186, 5), (1488, 1514, 5), (1568, 1599, 5), (1601, 1610, 5), (12353, 12438, 5), (12449, 12538, 5), (171, 171, 15), (8216, 8216, 15), (8219, 8220, 15), (8223, 8223, 15), (187, 187, 14), (8217, 8217, 14), (8221, 8221, 14), (173, 173, 2), (8203, 8207, 2), (178, 179, 10), (185, 185, 10), (188, 190, 10), (8544, 8559, 9), (768, 879, 7), (97, 122, 4), (181, 181, 4), (223, 246, 4), (248, 255, 4), (945, 969, 4), (1072, 1119, 4), (256, 383, 4), (65, 90, 6), (192, 214, 6), (216, 222, 6)]
def K3 : List (Nat × Nat × Nat) := [(913, 929, 6), (931, 937, 6), (1024, 1071, 6), (376, 376, 6), (8490, 8490, 6), (8491, 8491, 6)]
def kN : Nat → Nat := kalt (kalt (kalt (kalt (kfold K3 (kfold K2 (kfold K1 (kfold K0 (fun _ => 0))))) 256 312) 330 376) 313 329) 377 383
def kF : Nat → Int := nF kN
/-- CATEGORY, as the reference finds it -/
def catF (c : Int) : Int := if c < 12544 then kF c.toNat else if (19968 ≤ c ∧ c ≤ 40959) ∨ (44032 ≤ c ∧ c ≤ 55203) then 5 else if 57344 ≤ c ∧ c ≤ 63743 then 3 else if c = 65039 then 7 else if c = 65279 then 2 else if 127744 ≤ c ∧ c ≤ 128591 then 21 else 0
def scrG (k c : Int) : Int := if k = 0 ∨ k = 3 then 0 else if c = 170 ∨ c = 186 ∨ c = 8490 ∨ c = 8491 ∨ (c < 384 ∧ c ≠ 181 ∧ (k = 4 ∨ k = 6)) then 2 else if 913 ≤ c ∧ c ≤ 969 then 3 else if 1024 ≤ c ∧ c ≤ 1119 then 4 else if 1488 ≤ c ∧ c ≤ 1514 then 5 else if 1568 ≤ c ∧ c ≤ 1610 then 6 else if 12353 ≤ c ∧ c ≤ 12438 then 7 else if 12449 ≤ c ∧ c ≤ 12538 then 8 else if 19968 ≤ c ∧ c ≤ 40959 then 9 else if 44032 ≤ c ∧ c ≤ 55203 then 10 else if (768 ≤ c ∧ c ≤ 879) ∨ c = 65039 then 11 else 1
def scrF (c : Int) : Int := scrG (catF c) c
def pairF (c : Int) : Int := if (65 ≤ c ∧ c ≤ 90) ∨ (192 ≤ c ∧ c ≤ 214) ∨ (216 ≤ c ∧ c ≤ 222) ∨ (913 ≤ c ∧ c ≤ 929) ∨ (931 ≤ c ∧ c ≤ 937) ∨ (1040 ≤ c ∧ c ≤ 1071) then 32 else if 1024 ≤ c ∧ c ≤ 1039 then 80 else if ((256 ≤ c ∧ c ≤ 303) ∨ (306 ≤ c ∧ c ≤ 311) ∨ (313 ≤ c ∧ c ≤ 328) ∨ (330 ≤ c ∧ c ≤ 375) ∨ (377 ≤ c ∧ c ≤ 382)) ∧ catF c = 6 then 1 else 0
theorem pairF_bd (c : Int) : 0 ≤ pairF c ∧ pairF c ≤ 80 := by unfold pairF; repeat' split <;> omega
def thirdF (c : Int) : Int := if c = 383 then 83 else if c = 8490 then 75 else if c = 8491 then 197 else if c = 181 then 924 else if c = 962 then 931 else -1
theorem thirdF_bd (c : Int) : -1 ≤ thirdF c ∧ thirdF c ≤ 1000 := by unfold thirdF; repeat' split <;> omega
def firstF (c : Int) : Int := if 0 ≤ thirdF c then thirdF c else if c = 255 then 376 else if 0 < pairF c then c else if 32 ≤ c ∧ pairF (c - 32) = 32 then c - 32 else if 80 ≤ c ∧ pairF (c - 80) = 80 then c - 80 else if 0 < c ∧ pairF (c - 1) = 1 then c - 1 else c
theorem firstF_bd (c : Int) (h : 0 ≤ c ∧ c ≤ 1114111) : 0 ≤ firstF c ∧ firstF c ≤ 1114111 := by
  have := thirdF_bd c
  unfold firstF; repeat' split <;> omega
theorem kN_tab : (List.range 12544).all (fun c => Nat.ble (kN c) 24) = true := by decide +kernel
theorem kF_bd (c : Nat) (h : c < 12544) : 0 ≤ kF c ∧ kF c ≤ 24 := by
  have h1 := List.all_eq_true.mp kN_tab c (List.mem_range.mpr h)
  have h2 := Nat.le_of_ble_eq_true h1
  show 0 ≤ ((kN c : Nat) : Int) ∧ ((kN c : Nat) : Int) ≤ 24
  omega
theorem catF_bd (c : Int) (h : 0 ≤ c) : 0 ≤ catF c ∧ catF c ≤ 24 := by
  unfold catF
  split
  · exact kF_bd _ (by omega)
  · repeat' split <;> omega
theorem scrF_bd (c : Int) : 0 ≤ scrF c ∧ scrF c ≤ 11 := by unfold scrF scrG; repeat' split <;> omega
def genF (g t : Int) : Prop := (g = 0 ∧ t < 4) ∨ (g = 1 ∧ 4 ≤ t ∧ t < 7) ∨ (g = 2 ∧ t = 7) ∨ (g = 3 ∧ 8 ≤ t ∧ t < 11) ∨ (g = 4 ∧ 11 ≤ t ∧ t < 18) ∨ (g = 5 ∧ 18 ≤ t ∧ t < 22) ∨ (¬ (0 ≤ g ∧ g ≤ 5) ∧ 22 ≤ t)
/-- the pieces of the class: first character, CATEGORY, SCRIPT -/
def PL : List (Nat × Nat × Nat) := [(0, 1, 1), (32, 24, 1), (33, 16, 1), (36, 18, 1), (37, 16, 1), (40, 17, 1), (41, 13, 1), (42, 16, 1), (43, 20, 1), (44, 16, 1), (45, 12, 1), (46, 16, 1), (48, 8, 1), (58, 16, 1), (60, 20, 1), (63, 16, 1), (65, 6, 2), (91, 17, 1), (92, 16, 1), (93, 13, 1), (94, 19, 1), (95, 11, 1), (96, 19, 1), (97, 4, 2), (123, 17, 1), (124, 20, 1), (125, 13, 1), (126, 20, 1), (127, 1, 1), (160, 24, 1), (161, 16, 1), (162, 18, 1), (166, 21, 1), (167, 16, 1), (168, 19, 1), (169, 21, 1), (170, 5, 2), (171, 15, 1), (172, 20, 1), (173, 2, 1), (174, 21, 1), (175, 19, 1), (176, 21, 1), (177, 20, 1), (178, 10, 1), (180, 19, 1), (181, 4, 1), (182, 16, 1), (184, 19, 1), (185, 10, 1), (186, 5, 2), (187, 14, 1), (188, 10, 1), (191, 16, 1), (192, 6, 2), (215, 20, 1), (216, 6, 2), (223, 4, 2), (247, 20, 1), (248, 4, 2), (256, 6, 2), (257, 4, 2), (258, 6, 2), (259, 4, 2), (260, 6, 2), (261, 4, 2), (262, 6, 2), (263, 4, 2), (264, 6, 2), (265, 4, 2), (266, 6, 2), (267, 4, 2), (268, 6, 2), (269, 4, 2), (270, 6, 2), (271, 4, 2), (272, 6, 2), (273, 4, 2), (274, 6, 2), (275, 4, 2), (276, 6, 2), (277, 4, 2), (278, 6, 2), (279, 4, 2), (280, 6, 2), (281, 4, 2), (282, 6, 2), (283, 4, 2), (284, 6, 2), (285, 4, 2), (286, 6, 2), (287, 4, 2), (288, 6, 2), (289, 4, 2), (290, 6, 2), (291, 4, 2), (292, 6, 2), (293, 4, 2), (294, 6, 2), (295, 4, 2), (296, 6, 2), (297, 4, 2), (298, 6, 2), (299, 4, 2), (300, 6, 2), (301, 4, 2), (302, 6, 2), (303, 4, 2), (304, 6, 2), (305, 4, 2), (306, 6, 2), (307, 4, 2), (308, 6, 2), (309, 4, 2), (310, 6, 2), (311, 4, 2), (312, 4, 2), (313, 6, 2), (314, 4, 2), (315, 6, 2), (316, 4, 2), (317, 6, 2), (318, 4, 2), (319, 6, 2), (320, 4, 2), (321, 6, 2), (322, 4, 2), (323, 6, 2), (324, 4, 2), (325, 6, 2), (326, 4, 2), (327, 6, 2), (328, 4, 2), (329, 4, 2), (330, 6, 2), (331, 4, 2), (332, 6, 2), (333, 4, 2), (334, 6, 2), (335, 4, 2), (336, 6, 2), (337, 4, 2), (338, 6, 2), (339, 4, 2), (340, 6, 2), (341, 4, 2), (342, 6, 2), (343, 4, 2), (344, 6, 2), (345, 4, 2), (346, 6, 2), (347, 4, 2), (348, 6, 2), (349, 4, 2), (350, 6, 2), (351, 4, 2), (352, 6, 2), (353, 4, 2), (354, 6, 2), (355, 4, 2), (356, 6, 2), (357, 4, 2), (358, 6, 2), (359, 4, 2), (360, 6, 2), (361, 4, 2), (362, 6, 2), (363, 4, 2), (364, 6, 2), (365, 4, 2), (366, 6, 2), (367, 4, 2), (368, 6, 2), (369, 4, 2), (370, 6, 2), (371, 4, 2), (372, 6, 2), (373, 4, 2), (374, 6, 2), (375, 4, 2), (376, 6, 2), (377, 6, 2), (378, 4, 2), (379, 6, 2), (380, 4, 2), (381, 6, 2), (382, 4, 2), (383, 4, 2), (384, 0, 0), (768, 7, 11), (880, 0, 0), (913, 6, 3), (930, 0, 0), (931, 6, 3), (938, 0, 0), (945, 4, 3), (970, 0, 0), (1024, 6, 4), (1072, 4, 4), (1120, 0, 0), (1488, 5, 5), (1515, 0, 0), (1568, 5, 6), (1600, 0, 0), (1601, 5, 6), (1611, 0, 0), (1632, 8, 1), (1642, 0, 0), (8192, 24, 1), (8203, 2, 1), (8208, 12, 1), (8214, 16, 1), (8216, 15, 1), (8217, 14, 1), (8218, 17, 1), (8219, 15, 1), (8221, 14, 1), (8222, 17, 1), (8223, 15, 1), (8224, 16, 1), (8232, 22, 1), (8233, 23, 1), (8234, 0, 0), (8239, 24, 1), (8240, 0, 0), (8287, 24, 1), (8288, 0, 0), (8352, 18, 1), (8384, 0, 0), (8490, 6, 2), (8492, 0, 0), (8544, 9, 1), (8560, 0, 0), (8592, 20, 1), (8597, 0, 0), (12288, 24, 1), (12289, 0, 0), (12353, 5, 7), (12439, 0, 0), (12449, 5, 8), (12539, 0, 0), (19968, 5, 9), (40960, 0, 0), (44032, 5, 10), (55204, 0, 0), (57344, 3, 0), (63744, 0, 0), (65039, 7, 11), (65040, 0, 0), (65279, 2, 1), (65280, 0, 0), (127744, 21, 1), (128592, 0, 0)]
def LOn (i : Nat) : Nat := (PL.getD i (0, 0, 0)).1
def CAn (i : Nat) : Nat := (PL.getD i (0, 0, 0)).2.1
def SCn (i : Nat) : Nat := (PL.getD i (0, 0, 0)).2.2
def digF (c : Int) : Prop := 48 ≤ c ∧ c ≤ 57
def alpF (c : Int) : Prop := (65 ≤ c ∧ c ≤ 90) ∨ (97 ≤ c ∧ c ≤ 122)
def blkF (c : Int) : Prop := c = 9 ∨ c = 32 ∨ c = 160 ∨ c = 5760 ∨ c = 6158 ∨ (8192 ≤ c ∧ c ≤ 8202) ∨ c = 8239 ∨ c = 8287 ∨ c = 12288
def holdF (k c : Int) : Prop := (k < 25 ∧ catF c = k) ∨ (25 ≤ k ∧ k < 32 ∧ genF (k - 25) (catF c)) ∨ (32 ≤ k ∧ k < 44 ∧ scrF c = k - 32) ∨ k = 44 ∨ (k = 45 ∧ (catF c = 4 ∨ catF c = 6)) ∨ (k = 46 ∧ (genF 1 (catF c) ∨ genF 3 (catF c))) ∨ (k = 47 ∧ (genF 1 (catF c) ∨ genF 3 (catF c) ∨ c = 95)) ∨ (48 ≤ k ∧ ((9 ≤ c ∧ c ≤ 13) ∨ c = 133 ∨ genF 6 (catF c)))
def plainF (k c : Int) : Prop := ((k = 0 ∨ k = 8) ∧ digF c) ∨ ((k = 1 ∨ k = 10) ∧ (alpF c ∨ digF c ∨ c = 95)) ∨ ((k = 2 ∨ k = 11) ∧ ((9 ≤ c ∧ c ≤ 13) ∨ c = 32)) ∨ (k = 3 ∧ blkF c) ∨ (k = 4 ∧ ((10 ≤ c ∧ c ≤ 13) ∨ c = 133 ∨ c = 8232 ∨ c = 8233)) ∨ (k = 5 ∧ alpF c) ∨ (k = 6 ∧ alpF c ∧ 96 < c) ∨ (k = 7 ∧ alpF c ∧ c < 96) ∨ (k = 9 ∧ (alpF c ∨ digF c)) ∨ (k = 12 ∧ (c = 9 ∨ c = 32)) ∨ (k = 13 ∧ (c < 32 ∨ c = 127)) ∨ (k = 14 ∧ 33 ≤ c ∧ c ≤ 126) ∨ (k = 15 ∧ ((33 ≤ c ∧ c ≤ 126) ∨ c = 32)) ∨ (k = 16 ∧ 33 ≤ c ∧ c ≤ 126 ∧ ¬ alpF c ∧ ¬ digF c) ∨ (k = 17 ∧ (digF c ∨ (65 ≤ c ∧ c ≤ 70) ∨ (97 ≤ c ∧ c ≤ 102))) ∨ (17 < k ∧ c < 128) ∨ (k < 0 ∧ c < 128)
def grpF (c : Int) : Prop := ¬ genF 6 (catF c) ∧ catF c ≠ 1 ∧ catF c ≠ 0
def wideF (k c : Int) : Prop := ((k = 0 ∨ k = 8) ∧ catF c = 8) ∨ ((k = 1 ∨ k = 10) ∧ holdF 47 c) ∨ ((k = 2 ∨ k = 11) ∧ holdF 48 c) ∨ (k = 12 ∧ blkF c) ∨ (k = 5 ∧ genF 1 (catF c)) ∨ (k = 6 ∧ catF c = 4) ∨ (k = 7 ∧ catF c = 6) ∨ (k = 9 ∧ holdF 46 c) ∨ (k = 13 ∧ catF c = 1) ∨ (k = 14 ∧ grpF c) ∨ (k = 15 ∧ (grpF c ∨ catF c = 24)) ∨ (k = 16 ∧ (genF 4 (catF c) ∨ (genF 5 (catF c) ∧ c < 128))) ∨ (¬ (0 ≤ k ∧ k ≤ 2) ∧ ¬ (5 ≤ k ∧ k ≤ 16) ∧ plainF k c)
def PTl : List Nat := [12544, 19968, 40960, 44032, 55204, 57344, 63744, 65039, 65040, 65279, 65280, 127744, 128592, 1114112]
def PT : Nat → Int := fun j => ((PTl.getD j 0 : Nat) : Int)
end
section
/-! TABLE, PURE: the pieces against the reference -/
def LOf : Nat → Int := nF LOn
def CAf : Nat → Int := nF CAn
def SCf : Nat → Int := nF SCn
def hiE (i : Nat) : Int := if i + 1 < 253 then LOf (i + 1) else 1114112
theorem asc_adj {es : Nat → Int} {n : Nat} (h : ∀ i, i + 1 < n → es i < es (i + 1)) : asc es n := by
  intro i j hij
  induction j with
  | zero => exact absurd hij (by omega)
  | succ j ih =>
    intro hj
    have := h j hj
    by_cases q : i = j
    · rw [q]; exact this
    · have := ih (by omega) (by omega); omega
theorem PL_adj : (List.range 252).all (fun i => Nat.blt (LOn i) (LOn (i + 1))) = true := by decide +kernel
theorem PL_bd : (List.range 253).all (fun i => Nat.ble (LOn i) 128592 && (Nat.ble (CAn i) 24 && Nat.ble (SCn i) 11)) = true := by decide +kernel
theorem LO_asc : asc LOf 253 := asc_adj (fun i hi => by
  have := List.all_eq_true.mp PL_adj i (List.mem_range.mpr (by omega))
  have := Nat.le_of_ble_eq_true this
  show ((LOn i : Nat) : Int) < ((LOn (i + 1) : Nat) : Int)
  omega)
theorem PL_in (i : Nat) (hi : i < 253) : (0 ≤ LOf i ∧ LOf i ≤ 128592) ∧ (0 ≤ CAf i ∧ CAf i ≤ 24) ∧ (0 ≤ SCf i ∧ SCf i ≤ 11) := by
  have h := List.all_eq_true.mp PL_bd i (List.mem_range.mpr hi)
  rw [Bool.and_eq_true, Bool.and_eq_true] at h
  have a := Nat.le_of_ble_eq_true h.1
  have b := Nat.le_of_ble_eq_true h.2.1
  have c := Nat.le_of_ble_eq_true h.2.2
  show (0 ≤ ((LOn i : Nat) : Int) ∧ ((LOn i : Nat) : Int) ≤ 128592) ∧ (0 ≤ ((CAn i : Nat) : Int) ∧ ((CAn i : Nat) : Int) ≤ 24) ∧ (0 ≤ ((SCn i : Nat) : Int) ∧ ((SCn i : Nat) : Int) ≤ 11)
  omega
theorem hiE_gt (i : Nat) (hi : i < 253) : LOf i < hiE i ∧ hiE i ≤ 1114112 := by
  unfold hiE
  split
  · have := LO_asc i (i + 1) (by omega) (by assumption)
    have := (PL_in (i + 1) (by assumption)).1
    omega
  · have := (PL_in i hi).1
    omega
def pcN (i : Nat) : Nat := cond (Nat.blt (i + 1) 253) (LOn (i + 1)) 1114112
theorem hiE_pcN (i : Nat) : hiE i = ((pcN i : Nat) : Int) := by
  unfold hiE pcN
  by_cases h : i + 1 < 253
  · rw [if_pos h, show Nat.blt (i + 1) 253 = true from Nat.ble_eq_true_of_le h]; rfl
  · rw [if_neg h, show Nat.blt (i + 1) 253 = false from by
      cases q : Nat.blt (i + 1) 253 with
      | false => rfl
      | true => exact absurd (Nat.le_of_ble_eq_true q) h]; rfl
theorem pc_low : (List.range 241).all (fun i => (List.range (min (pcN i) 12544 - LOn i)).all (fun j => Nat.beq (kN (LOn i + j)) (CAn i) && decide (scrG ((CAn i : Nat) : Int) ((LOn i + j : Nat) : Int) = ((SCn i : Nat) : Int)))) = true := by decide +kernel
theorem pc_val : (LOn 240 = 12539 ∧ CAn 240 = 0 ∧ SCn 240 = 0) ∧ (LOn 241 = 19968 ∧ CAn 241 = 5 ∧ SCn 241 = 9) ∧ (LOn 242 = 40960 ∧ CAn 242 = 0 ∧ SCn 242 = 0) ∧ (LOn 243 = 44032 ∧ CAn 243 = 5 ∧ SCn 243 = 10) ∧ (LOn 244 = 55204 ∧ CAn 244 = 0 ∧ SCn 244 = 0) ∧ (LOn 245 = 57344 ∧ CAn 245 = 3 ∧ SCn 245 = 0) ∧ (LOn 246 = 63744 ∧ CAn 246 = 0 ∧ SCn 246 = 0) ∧ (LOn 247 = 65039 ∧ CAn 247 = 7 ∧ SCn 247 = 11) ∧ (LOn 248 = 65040 ∧ CAn 248 = 0 ∧ SCn 248 = 0) ∧ (LOn 249 = 65279 ∧ CAn 249 = 2 ∧ SCn 249 = 1) ∧ (LOn 250 = 65280 ∧ CAn 250 = 0 ∧ SCn 250 = 0) ∧ (LOn 251 = 127744 ∧ CAn 251 = 21 ∧ SCn 251 = 1) ∧ (LOn 252 = 128592 ∧ CAn 252 = 0 ∧ SCn 252 = 0) := by decide +kernel
theorem cat_piece (i : Nat) (hi : i < 253) (c : Int) (h1 : LOf i ≤ c) (h2 : c < hiE i) : catF c = CAf i ∧ scrF c = SCf i := by
  have e1 : LOf i = ((LOn i : Nat) : Int) := rfl
  rw [hiE_pcN] at h2
  by_cases hc : c < 12544
  · have hlt : i < 241 := by
      rcases Nat.lt_or_ge i 241 with w | w
      · exact w
      · have a := LO_asc 240 (if i = 241 then 241 else i) (by split <;> omega) (by split <;> omega)
        have b : LOf 240 = 12539 := by decide +kernel
        have d : LOf 241 = 19968 := by decide +kernel
        by_cases q : i = 241
        · rw [q, d] at h1; omega
        · have := LO_asc 241 i (by omega) hi
          omega
    have h := List.all_eq_true.mp pc_low i (List.mem_range.mpr hlt)
    have h := List.all_eq_true.mp h (c.toNat - LOn i) (List.mem_range.mpr (by omega))
    rw [Bool.and_eq_true] at h
    have e2 : LOn i + (c.toNat - LOn i) = c.toNat := by omega
    rw [e2] at h
    have k1 := Nat.eq_of_beq_eq_true h.1
    have k2 := of_decide_eq_true h.2
    have e3 : ((c.toNat : Nat) : Int) = c := by omega
    rw [e3] at k2
    have kc : catF c = CAf i := by
      unfold catF
      rw [if_pos hc]
      show ((kN c.toNat : Nat) : Int) = ((CAn i : Nat) : Int)
      rw [k1]
    refine ⟨kc, ?_⟩
    unfold scrF
    rw [kc]
    exact k2
  · have hge : 240 ≤ i := by
      rcases Nat.lt_or_ge i 240 with w | w
      · have a := LO_asc i 240 w (by omega)
        have b : LOf 240 = 12539 := by decide +kernel
        have := hiE_pcN i
        unfold hiE at this
        rw [if_pos (by omega)] at this
        by_cases q : i + 1 = 240
        · rw [q] at this; omega
        · have := LO_asc (i + 1) 240 (by omega) (by omega); omega
      · exact w
    rcases (show i = 240 ∨ i = 241 ∨ i = 242 ∨ i = 243 ∨ i = 244 ∨ i = 245 ∨ i = 246 ∨ i = 247 ∨ i = 248 ∨ i = 249 ∨ i = 250 ∨ i = 251 ∨ i = 252 by omega) with rfl | rfl | rfl | rfl | rfl | rfl | rfl | rfl | rfl | rfl | rfl | rfl | rfl
    · have a1 : ((LOn 240 : Nat) : Int) = 12539 := by decide +kernel
      have a2 : ((pcN 240 : Nat) : Int) = 19968 := by decide +kernel
      have a3 : CAf 240 = 0 := by decide +kernel
      have a4 : SCf 240 = 0 := by decide +kernel
      rw [a2] at h2; rw [e1, a1] at h1; rw [a3, a4]
      have kc : catF c = 0 := by unfold catF; repeat' split <;> omega
      refine ⟨kc, ?_⟩
      unfold scrF scrG; rw [kc]; repeat' split <;> omega
    · have a1 : ((LOn 241 : Nat) : Int) = 19968 := by decide +kernel
      have a2 : ((pcN 241 : Nat) : Int) = 40960 := by decide +kernel
      have a3 : CAf 241 = 5 := by decide +kernel
      have a4 : SCf 241 = 9 := by decide +kernel
      rw [a2] at h2; rw [e1, a1] at h1; rw [a3, a4]
      have kc : catF c = 5 := by unfold catF; repeat' split <;> omega
      refine ⟨kc, ?_⟩
      unfold scrF scrG; rw [kc]; repeat' split <;> omega
    · have a1 : ((LOn 242 : Nat) : Int) = 40960 := by decide +kernel
      have a2 : ((pcN 242 : Nat) : Int) = 44032 := by decide +kernel
      have a3 : CAf 242 = 0 := by decide +kernel
      have a4 : SCf 242 = 0 := by decide +kernel
      rw [a2] at h2; rw [e1, a1] at h1; rw [a3, a4]
      have kc : catF c = 0 := by unfold catF; repeat' split <;> omega
      refine ⟨kc, ?_⟩
      unfold scrF scrG; rw [kc]; repeat' split <;> omega
    · have a1 : ((LOn 243 : Nat) : Int) = 44032 := by decide +kernel
      have a2 : ((pcN 243 : Nat) : Int) = 55204 := by decide +kernel
      have a3 : CAf 243 = 5 := by decide +kernel
      have a4 : SCf 243 = 10 := by decide +kernel
      rw [a2] at h2; rw [e1, a1] at h1; rw [a3, a4]
      have kc : catF c = 5 := by unfold catF; repeat' split <;> omega
      refine ⟨kc, ?_⟩
      unfold scrF scrG; rw [kc]; repeat' split <;> omega
    · have a1 : ((LOn 244 : Nat) : Int) = 55204 := by decide +kernel
      have a2 : ((pcN 244 : Nat) : Int) = 57344 := by decide +kernel
      have a3 : CAf 244 = 0 := by decide +kernel
      have a4 : SCf 244 = 0 := by decide +kernel
      rw [a2] at h2; rw [e1, a1] at h1; rw [a3, a4]
      have kc : catF c = 0 := by unfold catF; repeat' split <;> omega
      refine ⟨kc, ?_⟩
      unfold scrF scrG; rw [kc]; repeat' split <;> omega
    · have a1 : ((LOn 245 : Nat) : Int) = 57344 := by decide +kernel
      have a2 : ((pcN 245 : Nat) : Int) = 63744 := by decide +kernel
      have a3 : CAf 245 = 3 := by decide +kernel
      have a4 : SCf 245 = 0 := by decide +kernel
      rw [a2] at h2; rw [e1, a1] at h1; rw [a3, a4]
      have kc : catF c = 3 := by unfold catF; repeat' split <;> omega
      refine ⟨kc, ?_⟩
      unfold scrF scrG; rw [kc]; repeat' split <;> omega
    · have a1 : ((LOn 246 : Nat) : Int) = 63744 := by decide +kernel
      have a2 : ((pcN 246 : Nat) : Int) = 65039 := by decide +kernel
      have a3 : CAf 246 = 0 := by decide +kernel
      have a4 : SCf 246 = 0 := by decide +kernel
      rw [a2] at h2; rw [e1, a1] at h1; rw [a3, a4]
      have kc : catF c = 0 := by unfold catF; repeat' split <;> omega
      refine ⟨kc, ?_⟩
      unfold scrF scrG; rw [kc]; repeat' split <;> omega
    · have a1 : ((LOn 247 : Nat) : Int) = 65039 := by decide +kernel
      have a2 : ((pcN 247 : Nat) : Int) = 65040 := by decide +kernel
      have a3 : CAf 247 = 7 := by decide +kernel
      have a4 : SCf 247 = 11 := by decide +kernel
      rw [a2] at h2; rw [e1, a1] at h1; rw [a3, a4]
      have kc : catF c = 7 := by unfold catF; repeat' split <;> omega
      refine ⟨kc, ?_⟩
      unfold scrF scrG; rw [kc]; repeat' split <;> omega
    · have a1 : ((LOn 248 : Nat) : Int) = 65040 := by decide +kernel
      have a2 : ((pcN 248 : Nat) : Int) = 65279 := by decide +kernel
      have a3 : CAf 248 = 0 := by decide +kernel
      have a4 : SCf 248 = 0 := by decide +kernel
      rw [a2] at h2; rw [e1, a1] at h1; rw [a3, a4]
      have kc : catF c = 0 := by unfold catF; repeat' split <;> omega
      refine ⟨kc, ?_⟩
      unfold scrF scrG; rw [kc]; repeat' split <;> omega
    · have a1 : ((LOn 249 : Nat) : Int) = 65279 := by decide +kernel
      have a2 : ((pcN 249 : Nat) : Int) = 65280 := by decide +kernel
      have a3 : CAf 249 = 2 := by decide +kernel
      have a4 : SCf 249 = 1 := by decide +kernel
      rw [a2] at h2; rw [e1, a1] at h1; rw [a3, a4]
      have kc : catF c = 2 := by unfold catF; repeat' split <;> omega
      refine ⟨kc, ?_⟩
      unfold scrF scrG; rw [kc]; repeat' split <;> omega
    · have a1 : ((LOn 250 : Nat) : Int) = 65280 := by decide +kernel
      have a2 : ((pcN 250 : Nat) : Int) = 127744 := by decide +kernel
      have a3 : CAf 250 = 0 := by decide +kernel
      have a4 : SCf 250 = 0 := by decide +kernel
      rw [a2] at h2; rw [e1, a1] at h1; rw [a3, a4]
      have kc : catF c = 0 := by unfold catF; repeat' split <;> omega
      refine ⟨kc, ?_⟩
      unfold scrF scrG; rw [kc]; repeat' split <;> omega
    · have a1 : ((LOn 251 : Nat) : Int) = 127744 := by decide +kernel
      have a2 : ((pcN 251 : Nat) : Int) = 128592 := by decide +kernel
      have a3 : CAf 251 = 21 := by decide +kernel
      have a4 : SCf 251 = 1 := by decide +kernel
      rw [a2] at h2; rw [e1, a1] at h1; rw [a3, a4]
      have kc : catF c = 21 := by unfold catF; repeat' split <;> omega
      refine ⟨kc, ?_⟩
      unfold scrF scrG; rw [kc]; repeat' split <;> omega
    · have a1 : ((LOn 252 : Nat) : Int) = 128592 := by decide +kernel
      have a2 : ((pcN 252 : Nat) : Int) = 1114112 := by decide +kernel
      have a3 : CAf 252 = 0 := by decide +kernel
      have a4 : SCf 252 = 0 := by decide +kernel
      rw [a2] at h2; rw [e1, a1] at h1; rw [a3, a4]
      have kc : catF c = 0 := by unfold catF; repeat' split <;> omega
      refine ⟨kc, ?_⟩
      unfold scrF scrG; rw [kc]; repeat' split <;> omega
end
section
/-! WORDS: longs as lN n (rows wb_ from kit/laws/BITS.to-paste) -/
theorem wb_tb (n : Nat) : (lN n).toBitVec = BitVec.ofNat 64 n := rfl
theorem wb_inj {a b : Int64} (h : a.toBitVec = b.toBitVec) : a = b := Int64.toBitVec_inj.mp h
theorem wb_tn {n : Nat} (h : n < 2 ^ 64) : (lN n).toBitVec.toNat = n := by rw [wb_tb, BitVec.toNat_ofNat, Nat.mod_eq_of_lt h]
theorem wb_of (x : Int64) : ∃ n, n < 2 ^ 64 ∧ x = lN n := ⟨x.toBitVec.toNat, x.toBitVec.isLt, wb_inj (by rw [wb_tb]; simp)⟩
theorem wb_of32 (x : Int32) : ∃ n, n < 2 ^ 32 ∧ x = nI n := ⟨x.toBitVec.toNat, x.toBitVec.isLt, Int32.toBitVec_inj.mp (by show _ = BitVec.ofNat 32 _; simp)⟩
theorem wb_c : ∀ k, k < 64 → ((nI k).toInt64 &&& 63) = lN k := by decide +kernel
theorem wb_cu : ∀ k, k < 64 → ((nI k).toInt64.toUInt64 &&& Int64.toUInt64 63) = UInt64.ofNat k := by decide +kernel
theorem wb_sm : ∀ k, k < 64 → (BitVec.ofNat 64 k).smod 64 = BitVec.ofNat 64 k := by decide +kernel
theorem wb_pw {a b : Nat} (h : a ≤ b) : 2 ^ b = 2 ^ a * 2 ^ (b - a) := by rw [← Nat.pow_add]; congr 1; omega
theorem wb_lt2 {a b : Nat} (h : a < b) : 2 ^ a < 2 ^ b := Nat.pow_lt_pow_right (by decide) h
theorem wb_mod (n : Nat) : lN n = lN (n % 2 ^ 64) := wb_inj (by rw [wb_tb, wb_tb]; apply BitVec.eq_of_toNat_eq; rw [BitVec.toNat_ofNat, BitVec.toNat_ofNat, Nat.mod_mod])
theorem wb_shr {n k : Nat} (hn : n < 2 ^ 64) (hk : k < 64) : ((lN n).toUInt64 >>> ((nI k).toInt64.toUInt64 &&& Int64.toUInt64 63)).toInt64 = lN (n / 2 ^ k) := by
  rw [wb_cu k hk]
  apply wb_inj
  apply BitVec.eq_of_toNat_eq
  show ((lN n).toUInt64 >>> UInt64.ofNat k).toNat = (BitVec.ofNat 64 _).toNat
  have h1 : (UInt64.ofNat k).toNat = k := by
    show (BitVec.ofNat 64 k).toNat = k
    rw [BitVec.toNat_ofNat, Nat.mod_eq_of_lt (by omega)]
  have h2 : (lN n).toUInt64.toNat = n := wb_tn hn
  rw [UInt64.toNat_shiftRight, h1, h2, Nat.mod_eq_of_lt hk, Nat.shiftRight_eq_div_pow, BitVec.toNat_ofNat, Nat.mod_eq_of_lt (Nat.lt_of_le_of_lt (Nat.div_le_self _ _) hn)]
theorem wb_shl (n : Nat) {k : Nat} (hk : k < 64) : lN n <<< ((nI k).toInt64 &&& 63) = lN (n * 2 ^ k) := by
  rw [wb_c k hk]
  apply wb_inj
  rw [Int64.toBitVec_shiftLeft, wb_tb, wb_tb, wb_tb, wb_sm k hk]
  apply BitVec.eq_of_toNat_eq
  rw [BitVec.shiftLeft_eq', BitVec.toNat_shiftLeft, BitVec.toNat_ofNat, BitVec.toNat_ofNat, BitVec.toNat_ofNat, Nat.mod_eq_of_lt (show k < 2 ^ 64 by omega), Nat.shiftLeft_eq, Nat.mul_mod, Nat.mod_mod, ← Nat.mul_mod]
theorem wb_and {a b : Nat} (ha : a < 2 ^ 64) (hb : b < 2 ^ 64) : lN a &&& lN b = lN (a &&& b) := by
  apply wb_inj
  rw [Int64.toBitVec_and, wb_tb, wb_tb, wb_tb]
  apply BitVec.eq_of_toNat_eq
  rw [BitVec.toNat_and, BitVec.toNat_ofNat, BitVec.toNat_ofNat, BitVec.toNat_ofNat, Nat.mod_eq_of_lt ha, Nat.mod_eq_of_lt hb, Nat.mod_eq_of_lt (Nat.and_lt_two_pow _ hb)]
theorem wb_or {a b : Nat} (ha : a < 2 ^ 64) (hb : b < 2 ^ 64) : lN a ||| lN b = lN (a ||| b) := by
  apply wb_inj
  rw [Int64.toBitVec_or, wb_tb, wb_tb, wb_tb]
  apply BitVec.eq_of_toNat_eq
  rw [BitVec.toNat_or, BitVec.toNat_ofNat, BitVec.toNat_ofNat, BitVec.toNat_ofNat, Nat.mod_eq_of_lt ha, Nat.mod_eq_of_lt hb, Nat.mod_eq_of_lt (Nat.or_lt_two_pow ha hb)]
theorem wb_mask {n k : Nat} (hn : n < 2 ^ 64) (hk : k < 64) : lN n &&& lN (2 ^ k - 1) = lN (n % 2 ^ k) := by
  rw [wb_and hn (by have := wb_lt2 hk; omega), Nat.and_two_pow_sub_one_eq_mod]
theorem wb_a1 {n : Nat} (hn : n < 2 ^ 64) : lN n &&& 1 = lN (n % 2) := wb_mask (k := 1) hn (by decide)
theorem wb_bit {n k : Nat} (hn : n < 2 ^ 64) (hk : k < 64) : ((lN n).toUInt64 >>> ((nI k).toInt64.toUInt64 &&& Int64.toUInt64 63)).toInt64 &&& 1 = lN (n / 2 ^ k % 2) := by
  rw [wb_shr hn hk, wb_a1 (Nat.lt_of_le_of_lt (Nat.div_le_self _ _) hn)]
theorem wb_lg0 {x y : Int64} : lg_cmp x y = 0 ↔ x = y := by
  unfold lg_cmp
  by_cases h : x > y
  · rw [if_pos h]
    constructor
    · intro q; exact absurd q (by decide)
    · intro q; subst q; exact absurd h (by simp [Int64.lt_iff_toInt_lt])
  · rw [if_neg h]
    by_cases q : x = y
    · simp [q]
    · rw [if_neg q]
      exact ⟨fun z => absurd z (by decide), fun z => absurd z q⟩
theorem wb_eq {a b : Nat} (ha : a < 2 ^ 64) (hb : b < 2 ^ 64) : lN a = lN b ↔ a = b := by
  constructor
  · intro h
    have := congrArg (fun z : Int64 => z.toBitVec.toNat) h
    simp only at this
    rw [wb_tn ha, wb_tn hb] at this
    exact this
  · intro h; rw [h]
theorem wb_in {n k : Nat} (hn : n < 2 ^ 64) (hk : k < 64) : lN n >>> ((nI k).toInt64 &&& 63) &&& 1 = lN (if n.testBit k = true then 1 else 0) := by
  rw [wb_c k hk]
  apply wb_inj
  rw [Int64.toBitVec_and, Int64.toBitVec_shiftRight, wb_tb, wb_tb, wb_tb, wb_sm k hk]
  apply BitVec.eq_of_getLsbD_eq
  intro i hi
  rw [BitVec.getLsbD_and]
  have e1 : (1 : Int64).toBitVec = 1#64 := rfl
  rw [e1]
  by_cases h0 : i = 0
  · subst h0
    have hk2 : (BitVec.ofNat 64 k).toNat = k := by rw [BitVec.toNat_ofNat]; exact Nat.mod_eq_of_lt (by omega)
    rw [BitVec.sshiftRight_eq', hk2, BitVec.getLsbD_sshiftRight]
    by_cases b : n.testBit k = true
    · simp [b, hk, BitVec.getLsbD_ofNat]
    · simp [b, hk, BitVec.getLsbD_ofNat]
  · have e2 : (1#64).getLsbD i = false := by
      rw [BitVec.getLsbD_one]; simp; omega
    rw [e2, Bool.and_false]
    by_cases b : n.testBit k = true
    · simp [b]; omega
    · simp [b]
end
section
/-! INSERT: what an insert does to the edges, and to the set -/
def Ins (es : Nat → Int) (n : Nat) (low high : Int) (es' : Nat → Int) (n' : Nat) : Prop :=
  asc es' n' ∧ n' % 2 = n % 2 ∧ (∀ (c : Int) (k : Nat), Up es n c k → ∃ k', Up es' n' c k' ∧ (k' % 2 = 1 ↔ (k % 2 = 1 ∨ (low ≤ c ∧ c ≤ high)))) ∧ ∀ j, j < n' → es' j = low ∨ es' j = high + 1 ∨ ∃ i, i < n ∧ es' j = es i
def insE (es : Nat → Int) (n f t nl nh : Nat) (low hi : Int) : Nat → Int :=
  (if nh = 1 then (fun g => va_up g (f + nl + nh - 1) hi) else id) ((if nl = 1 then (fun g => va_up g f low) else id) (va_cpy es es t (f + nl + nh) (n - t)))
theorem Ins_of {es : Nat → Int} {n f t nl nh : Nat} {low high : Int} (ha : asc es n) (hf : Up es n (low - 1) f) (ht : Up es n (high + 1) t) (hlh : low ≤ high) (hnl : nl + f % 2 = 1) (hnh : nh + t % 2 = 1) :
    Ins es n low high (insE es n f t nl nh low (high + 1)) (f + nl + nh + (n - t)) := by
  obtain ⟨zA, zB, zC, zD⟩ := ins_zones es (n := n) (f := f) (t := t) (nl := nl) (nh := nh) low (high + 1) (by omega) (by omega) (insE es n f t nl nh low (high + 1)) rfl
  have hft : f ≤ t := Up_mono hf ht (by omega)
  refine ⟨ins_asc ha hf ht hlh hnl hnh zA zB zC zD, ?_, fun c k hk => ins_up hf ht hlh hnl hnh zA zB zC zD hk, fun j hj => ins_mem ht.1 zA zB zC zD (by omega) (by omega) hft hj⟩
  have := ht.1
  omega
theorem Ins_B {es es' : Nat → Int} {n n' : Nat} {low high : Int} (h : Ins es n low high es' n') (B : List Int) (hB : ∀ i, i < n → es i ∈ B) (hl : low ∈ B) (hh : high + 1 ∈ B) : ∀ j, j < n' → es' j ∈ B := by
  intro j hj
  rcases h.2.2.2 j hj with e | e | ⟨i, hi, e⟩
  · rw [e]; exact hl
  · rw [e]; exact hh
  · rw [e]; exact hB i hi
theorem Ins_len {es es' : Nat → Int} {n n' : Nat} {low high : Int} (h : Ins es n low high es' n') (B : List Int) (hB : ∀ i, i < n → es i ∈ B) (hl : low ∈ B) (hh : high + 1 ∈ B) : n' ≤ B.length := asc_len h.1 B (Ins_B h B hB hl hh)
theorem Ins_rep {last : Nat} {es es' : Nat → Int} {n n' : Nat} {low high : Int} {p : Nat → Bool} (h : Ins es n low high es' n') (hr : rep last es n p) (h0 : 0 ≤ low) (hl : high ≤ last) (hlh : low ≤ high) :
    rep last es' n' (fun c => p c || (decide (low ≤ c) && decide ((c : Int) ≤ high))) := by
  obtain ⟨ha, hev, hb, hp⟩ := hr
  obtain ⟨h1, h2, h3, h4⟩ := h
  refine ⟨h1, by omega, fun i hi => ?_, fun c hc k' hk' => ?_⟩
  · rcases h4 i hi with e | e | ⟨j, hj, e⟩
    · rw [e]; omega
    · rw [e]; omega
    · rw [e]; exact hb j hj
  · obtain ⟨k, hk⟩ := Up_ex (c : Int) ha
    obtain ⟨k2, hk2, hpar⟩ := h3 c k hk
    have e := Up_eq hk' hk2
    rw [e, hpar, ← hp c hc k hk]
    simp
end
section
/-! THE REFERENCE'S SETS: bit c % 64 of word s * 17408 + c / 64 -/
def bt (bw : Nat → Nat) (s c : Nat) : Bool := (bw (s * 17408 + c / 64)).testBit (c % 64)
theorem bt_word {s s' c c' : Nat} (hc : c < 1114112) (hc' : c' < 1114112) : s' * 17408 + c' / 64 = s * 17408 + c / 64 ↔ s' = s ∧ c' / 64 = c / 64 := by omega
theorem bt_put {bw : Nat → Nat} {s s' c c' : Nat} (hc : c < 1114112) (hc' : c' < 1114112) : bt (va_up bw (s * 17408 + c / 64) (bw (s * 17408 + c / 64) ||| 2 ^ (c % 64))) s' c' = (bt bw s' c' || (decide (s' = s) && decide (c' = c))) := by
  unfold bt va_up
  by_cases h : s' * 17408 + c' / 64 = s * 17408 + c / 64
  · rw [if_pos h, Nat.testBit_or, Nat.testBit_two_pow, h]
    have := (bt_word hc hc').mp h
    by_cases q : c' = c
    · subst q; simp [this.1]
    · have q2 : ¬ c % 64 = c' % 64 := by omega
      simp [q, q2]
  · rw [if_neg h]
    by_cases q : s' = s ∧ c' = c
    · exact absurd (by rw [q.1, q.2]) h
    · have : (decide (s' = s) && decide (c' = c)) = false := by
        by_cases z : s' = s
        · have : ¬ c' = c := fun w => q ⟨z, w⟩
          simp [this]
        · simp [z]
      rw [this, Bool.or_false]
theorem bt_fill {bw : Nat → Nat} {s s' c c' : Nat} (hc : c < 1114112) (hc' : c' < 1114112) (h0 : c % 64 = 0) : bt (va_up bw (s * 17408 + c / 64) 18446744073709551615) s' c' = (bt bw s' c' || (decide (s' = s) && (decide (c ≤ c') && decide (c' < c + 64)))) := by
  unfold bt va_up
  have ones : ∀ j, j < 64 → (18446744073709551615 : Nat).testBit j = true := by decide +kernel
  by_cases h : s' * 17408 + c' / 64 = s * 17408 + c / 64
  · rw [if_pos h, ones _ (by omega)]
    have e := (bt_word hc hc').mp h
    have a : c ≤ c' := by omega
    have b : c' < c + 64 := by omega
    simp [e.1, a, b]
  · rw [if_neg h]
    have : (decide (s' = s) && (decide (c ≤ c') && decide (c' < c + 64))) = false := by
      by_cases z : s' = s
      · by_cases a : c ≤ c'
        · have : ¬ c' < c + 64 := by intro b; exact h (by omega)
          simp [this]
        · simp [a]
      · simp [z]
    rw [this, Bool.or_false]
theorem cnt_word (p : Nat → Bool) (w : Nat) : cnt p (64 * (w + 1)) = cnt p (64 * w) + cnt (fun j => p (64 * w + j)) 64 := by
  rw [show 64 * (w + 1) = 64 * w + 64 by omega, cnt_add]
theorem bt_at (bw : Nat → Nat) (s w j : Nat) (hj : j < 64) : bt bw s (64 * w + j) = (bw (s * 17408 + w)).testBit j := by
  unfold bt
  rw [show (64 * w + j) / 64 = w by omega, show (64 * w + j) % 64 = j by omega]
/-- the reference's word of starts of ranges -/
theorem rst_word {b : Nat} (bw : Nat → Nat) (s w : Nat) (hb : b = bw (s * 17408 + w)) (before : Nat) (hbf : before = if w = 0 then 0 else bw (s * 17408 + (w - 1)) / 9223372036854775808) (hlt : ∀ j, bw j < 18446744073709551616) :
    cnt (fun j => (b &&& ((b * 2 % 18446744073709551616 ||| before) ^^^ 18446744073709551615)).testBit j) 64 = cnt (fun j => rst (bt bw s) (64 * w + j)) 64 := by
  have ones : ∀ j, j < 64 → (18446744073709551615 : Nat).testBit j = true := by decide +kernel
  refine cnt_congr (fun j hj => ?_)
  show (b &&& ((b * 2 % 2 ^ 64 ||| before) ^^^ 18446744073709551615)).testBit j = _
  rw [Nat.testBit_and, Nat.testBit_xor, ones j hj, Nat.testBit_or, Nat.testBit_mod_two_pow]
  unfold rst
  rw [bt_at bw s w j hj, ← hb]
  congr 1
  rcases Nat.eq_zero_or_pos j with q | q
  · subst q
    have e1 : (b * 2).testBit 0 = false := by rw [Nat.testBit_zero]; simp
    rw [e1]
    rcases Nat.eq_zero_or_pos w with z | z
    · subst z
      rw [hbf]; simp
    · have hlt1 := hlt (s * 17408 + (w - 1))
      have e2 : before.testBit 0 = bt bw s (64 * w + 0 - 1) := by
        rw [show 64 * w + 0 - 1 = 64 * (w - 1) + 63 by omega, bt_at bw s (w - 1) 63 (by omega), hbf, if_neg (by omega), Nat.testBit_zero, Nat.testBit_eq_decide_div_mod_eq]
      rw [e2]
      have : (64 * w + 0 == 0) = false := by simp; omega
      rw [this]; simp
  · have e1 : (b * 2).testBit j = b.testBit (j - 1) := by
      obtain ⟨i, rfl⟩ : ∃ i, j = i + 1 := ⟨j - 1, by omega⟩
      rw [Nat.testBit_add_one, Nat.mul_div_cancel _ (by decide)]; rfl
    have e2 : before.testBit j = false := by
      apply Nat.testBit_lt_two_pow
      have : before < 2 := by
        rw [hbf]; split
        · omega
        · have := hlt (s * 17408 + (w - 1)); omega
      have : 2 ^ 1 ≤ 2 ^ j := Nat.pow_le_pow_right (by decide) q
      omega
    rw [e1, e2]
    have e3 : bt bw s (64 * w + j - 1) = b.testBit (j - 1) := by
      rw [show 64 * w + j - 1 = 64 * w + (j - 1) by omega, bt_at bw s w (j - 1) (by omega), ← hb]
    rw [e3]
    have : (64 * w + j == 0) = false := by simp; omega
    rw [this]
    simp [hj]
end
section
/-! MORE ROWS: new rows of numbers, whose class is the known one -/
theorem va_RA_inj {U : State} {a b : ClassId} {ty : FieldType} (h : va_RA U a ty) (h' : va_RA U b ty) : a = b := by
  cases ty with
  | object C =>
    obtain ⟨kA, comp, -, -, -, h4⟩ := h
    obtain ⟨kB, comp', -, -, -, h4'⟩ := h'
    exact Option.some.inj (h4.symm.trans h4')
  | _ =>
    have h1 : U.vm.findClass _ = some a := h
    have h2 : U.vm.findClass _ = some b := h'
    exact Option.some.inj (h1.symm.trans h2)
section ZN
variable {p : Program} {l : Launch} {e : Env} {R : Room} {s : State} {m : MethodId} {args : Array Value} {below : List Frame} {meth : Method} {c : Code} {H : Heap} {locs : List Loc} {cells slots : Nat} {Q : State → Prop}
variable {cc : ByteArray} {pc : Nat} {ls : Array Slot} {rest : List Value} {D : va_G} {cl : List vw_C} {tys : List (ClassId × FieldType)} {ws : va_W} {A : Nat → Prop} {H0 : Heap}
theorem ix_newa (hx : p.tables.exec = Jvm.exec) (hb : c.code = cc) {atype : ArrayType} (harr : (Cond.arrayClass (newarray.typeOf atype)).before args s = true) {ty : FieldType} (hty : newarray.typeOf atype = ty) (hK : va_K D cl tys s) (hP : va_P D cl ws H) (hD : va_D A ws) (hS : va_S A H0 H locs) (hA : ∀ q, H0.size ≤ q → A q) (t0 : Nat) {cI : ClassId} (ht : tys[t0]? = some (cI, ty))
    {n : Int} {N' : Nat} {a0 : vp_A} (ha : ∀ cA : ClassId, vp_cell cA a0 = arrV cA N' (fun _ => defaultValue ty)) (hn : n = (N' : Int) ∧ N' ≤ 2147483647) (hbytes : N' * componentBytes ty ≤ 536870912) (hcells : cells + 1 ≤ R.cells) (hslots : slots + N' ≤ R.slots) (hdg : decode cc pc = .ok (.newarray atype, 2))
    (kk : ∀ (q : Nat) (H1 : Heap), va_P D cl (ws ++ [(q, .inl (cI, a0))]) H1 → va_D A (ws ++ [(q, .inl (cI, a0))]) → va_S A H0 H1 locs →
      W p l e R s m args below meth c H1 locs (cells + 1) (slots + N') Q (F0 m (pc + 2) ls (.ref q :: rest))) : W p l e R s m args below meth c H locs cells slots Q (F0 m pc ls (.int (iI n) :: rest)) := by
  refine va_newa hx hb harr hty hK hP hD hS hA ha (fun q => by rw [← iI_0, iI_lt (by omega)] at q; omega) (by rw [iI_cl (by omega)]; omega) hbytes hcells hslots hdg (fun q cA H1 k1 p1 d1 s1 => ?_)
  have e1 := (k1.2 tys.length (cA, ty) (by simp)).2
  have e2 := (hK.2 t0 _ ht).2
  have := va_RA_inj e1 e2
  subst this
  exact kk q H1 p1 d1 s1
end ZN
theorem zNe {A : Nat → Prop} {a b : Nat} (h1 : A a) (h2 : ¬ A b) : ¬ some b = some a := fun e => by
  injection e with e
  rw [e] at h2
  exact h2 h1
/-- the ranges of another set, put in one by one -/
def IA (es : Nat → Int) (n : Nat) (es2 : Nat → Int) : Nat → (Nat → Int) → Nat → Prop
  | 0, e, m => e = es ∧ m = n
  | i + 1, e, m => ∃ (e0 : Nat → Int) (m0 : Nat), IA es n es2 i e0 m0 ∧ Ins e0 m0 (es2 (2 * i)) (es2 (2 * i + 1) - 1) e m
def Cmp (last : Int) (es : Nat → Int) (n : Nat) (e2 : Nat → Int) (n2 : Nat) : Prop := ∃ (e1 : Nat → Int) (n1 : Nat),
  ((0 < n ∧ es 0 = 0 ∧ n1 + 1 = n ∧ ∀ j, j < n1 → e1 j = es (j + 1)) ∨ (¬ (0 < n ∧ es 0 = 0) ∧ n1 = n + 1 ∧ e1 0 = 0 ∧ ∀ j, j < n → e1 (j + 1) = es j)) ∧
  ((0 < n1 ∧ e1 (n1 - 1) = last + 1 ∧ n2 + 1 = n1 ∧ ∀ j, j < n2 → e2 j = e1 j) ∨ (¬ (0 < n1 ∧ e1 (n1 - 1) = last + 1) ∧ n2 = n1 + 1 ∧ e2 n1 = last + 1 ∧ ∀ j, j < n1 → e2 j = e1 j))
theorem cmp_l (es : Nat → Int) (n : Nat) : ∀ j, j < n - 1 → va_cpy es es 1 0 (n - 1) j = es (j + 1) := fun j hj => by
  rw [pk_cpy_in (by omega) (by omega)]; congr 1; omega
theorem cmp_r (es : Nat → Int) (n : Nat) : ∀ j, j < n → va_up (va_cpy es es 0 1 n) 0 0 (j + 1) = es j := fun j hj => by
  unfold va_up
  rw [if_neg (by omega), pk_cpy_in (by omega) (by omega)]; congr 1; omega
theorem cmp_u (e : Nat → Int) (n : Nat) (v : Int) : va_up e n v n = v ∧ ∀ j, j < n → va_up e n v j = e j := ⟨by simp [va_up], fun j hj => by unfold va_up; rw [if_neg (by omega)]⟩
end
section
def pw (P : Nat) : Prop := ∃ j, j ≤ 11 ∧ P = 2 ^ j
theorem pw_bd {P : Nat} (h : pw P) : 1 ≤ P ∧ P ≤ 2048 := by
  obtain ⟨j, hj, rfl⟩ := h
  have := Nat.pow_le_pow_right (show 0 < 2 by decide) hj
  exact ⟨Nat.one_le_two_pow, this⟩
theorem pw_half {P : Nat} (h : pw P) : P = 1 ∨ ∃ P', pw P' ∧ P = 2 * P' := by
  obtain ⟨j, hj, rfl⟩ := h
  cases j with
  | zero => exact Or.inl rfl
  | succ j => exact Or.inr ⟨2 ^ j, ⟨j, by omega, rfl⟩, by rw [Nat.pow_succ]; omega⟩
theorem pw_top : pw 2048 := ⟨11, by omega, rfl⟩
/-- the least of the set from c on, or -1 -/
def FF (es : Nat → Int) (n : Nat) (c m : Int) : Prop := ∃ k, Up es n c k ∧ ((k % 2 = 1 ∧ m = c) ∨ (k % 2 = 0 ∧ k < n ∧ m = es k) ∨ (k % 2 = 0 ∧ k = n ∧ m = -1))
theorem FF_eq {es : Nat → Int} {n : Nat} {c m m' : Int} (h : FF es n c m) (h' : FF es n c m') : m = m' := by
  obtain ⟨k, hk, h⟩ := h
  obtain ⟨k', hk', h'⟩ := h'
  have e := Up_eq hk hk'
  subst e
  rcases h with ⟨a, b⟩ | ⟨a, b, d⟩ | ⟨a, b, d⟩ <;> rcases h' with ⟨a', b'⟩ | ⟨a', b', d'⟩ | ⟨a', b', d'⟩ <;> first | omega | (rw [d, d'])
def hit (es : Nat → Int) (es2 : Nat → Int) (n2 : Nat) (i : Nat) : Prop := ∃ m, FF es2 n2 (es (2 * i)) m ∧ 0 ≤ m ∧ m ≤ es (2 * i + 1) - 1
set_option maxHeartbeats 4000000 in
set_option maxRecDepth 100000 in
theorem c_RG_edgesUpTo (l : Launch) (g : zG) (h q : Nat) (n : Nat) (es : Nat → Int) (c : Int) (ha : asc es n) (hn : n ≤ 2048) (hbd : ∀ i, i < n → 0 ≤ es i ∧ es i ≤ 1114112) (hc : -2147483648 ≤ c ∧ c ≤ 2147483647) : Met l y_RG_edgesUpTo w_RG_edgesUpTo (zr 0 0) (zP g [.ref h, .int (iI c)] [(h, .inr (1, [.ref q, .int (iI (((n : Nat) : Int)))])), (q, .inl (zI g, 2048, .inl (ai es)))]) (vp_Si (fun z => ∃ k : Nat, z = iI ((k : Nat) : Int) ∧ Up es n c k)) 0 0 (fun _ => False) := by
  refine Met.ofW (cc := b_RG_edgesUpTo) (maxL := 5) (ret := (some .int)) (by decide) rfl ?_
  intro p e s m args below meth cd s₁ B hml hv
  obtain ⟨hargs, hP, hK, hZ⟩ := hv
  have hx := B.exec
  have hb := B.bytes
  have hr := B.returns
  have ht : ∀ w ∈ lw_ok, w.before args s = true := fun w h => atoms_spec (ws := w_RG_edgesUpTo) B.pre w (List.mem_cons_of_mem _ h)
  have hown : s.vm.findClass R_RG = some m.cls := findClass_of_methodNamed B.named
  have hlocks := B.notSynchronized
  have hS : va_S (fun _ => False) s.heap s.heap [] := va_S.rf
  generalize hQ : MQ below _ args s 0 0 _ = Q
  have hl := lv_entry ([.ref h, .int (iI c)]) (n := 5) (Nat.le_of_ble_eq_true rfl)
  rw [show entryFrame m args 5 = entryFrame m ([.ref h, .int (iI c)] : List Value).toArray 5 by rw [hargs], lg_entry_eq]
  generalize (lg_sl ([.ref h, .int (iI c)]) ++ List.replicate (5 - (lg_sl ([.ref h, .int (iI c)])).length) Slot.unset).toArray = ls at hl ⊢
  have hl : lv_has ls 5 [(0, .ref h), (1, .int (iI c))] := hl
  obtain ⟨k, hk⟩ := Up_ex c ha
  have hkn := hk.1
  have J6 : ∀ fu : Nat, ∀ (pa : Nat) (sp : Int) (ls : Array Slot), sp.toNat < fu → lv_has ls 5 [(0, .ref h), (1, .int (iI c)), (2, .int (iI (((pa : Nat) : Int)))), (3, .int (iI sp))] → (pa ≤ k) → ((sp = 0 ∧ k = pa) ∨ (∃ P : Nat, pw P ∧ sp = ((P : Nat) : Int) ∧ k < pa + 2 * P)) → W p l e (headSpec w_RG_edgesUpTo (zr 0 0)).room s m args below meth cd s.heap [] 0 0 Q (F0 m 6 ls []) := by
    intro fu
    induction fu with
    | zero => exact fun _ _ _ hfu _ _ _ => absurd hfu (Nat.not_lt_zero _)
    | succ fu ih =>
      intro pa sp ls hfu hl h1 h2
      have hsp : 0 ≤ sp ∧ sp ≤ 2048 := by
        rcases h2 with ⟨e, -⟩ | ⟨P, hp, e, -⟩
        · omega
        · have := pw_bd hp; omega
      refine lv_iload_n hx hb d_RG_edgesUpTo_6 rfl (lv_at hl 3 rfl) ?_
      refine ix_if_le (tgt := 47) hx hb d_RG_edgesUpTo_7 (by decide) (by omega) (fun c_7 => ?_) (fun c_7 => ?_)
      · have e9 : k = pa := by
          rcases h2 with ⟨-, e⟩ | ⟨P, hp, e, -⟩
          · exact e
          · have := pw_bd hp; omega
        refine lv_iload_n hx hb d_RG_edgesUpTo_47 rfl (lv_at hl 2 rfl) ?_
        subst hQ
        exact W.iret (v := iI (((pa : Nat) : Int))) hx hb hr (fun t h9 hW => ⟨_, rfl, ⟨pa, rfl, by rw [← e9]; exact hk⟩, h9⟩) (fun _ h9 => by cases h9) d_RG_edgesUpTo_48
      · rcases h2 with ⟨e0, -⟩ | ⟨P, hp, rfl, h2⟩
        · exact absurd e0 (by omega)
        have hpb := pw_bd hp
        refine lv_iload_n hx hb d_RG_edgesUpTo_10 rfl (lv_at hl 2 rfl) ?_
        refine lv_iload_n hx hb d_RG_edgesUpTo_11 rfl (lv_at hl 3 rfl) ?_
        refine ix_iadd hx hb d_RG_edgesUpTo_12 ?_
        refine lv_istore (lv' := [(4, .int (iI ((((pa : Nat) : Int)) + (((P : Nat) : Int))))), (0, .ref h), (1, .int (iI c)), (2, .int (iI (((pa : Nat) : Int)))), (3, .int (iI (((P : Nat) : Int))))]) hx hb d_RG_edgesUpTo_13 hl (by decide) rfl (fun ls hl => ?_)
        refine lv_iload hx hb d_RG_edgesUpTo_15 (lv_at hl 0 rfl) ?_
        refine lv_aload_n hx hb d_RG_edgesUpTo_17 rfl (lv_at hl 1 rfl) ?_
        refine va_get (D := g.1) (ci := 1) (v := .int (iI (((n : Nat) : Int)))) (C := R_RG) (T := F_RG) (N := 2) hx hb ht i_RG hown hK hP 0 rfl rfl 1 (by decide) (ht _ k_94) (fun _ h9 => h9) rfl d_RG_edgesUpTo_18 ?_
        refine ix_icmp_gt (tgt := 40) hx hb d_RG_edgesUpTo_21 (by decide) (by omega) (fun c_21 => ?_) (fun c_21 => ?_)
        · refine lv_iload_n hx hb d_RG_edgesUpTo_40 rfl (lv_at hl 4 rfl) ?_
          refine lv_iconst (v := iI 2) hx hb d_RG_edgesUpTo_41 rfl ?_
          refine ix_idiv hx hb d_RG_edgesUpTo_42 (by omega) ?_
          refine lv_istore_n (lv' := [(3, .int (iI ((((P : Nat) : Int)) / 2))), (4, .int (iI ((((pa : Nat) : Int)) + (((P : Nat) : Int))))), (0, .ref h), (1, .int (iI c)), (2, .int (iI (((pa : Nat) : Int))))]) hx hb d_RG_edgesUpTo_43 rfl hl (by decide) rfl (fun ls hl => ?_)
          refine lv_goto (tgt := 6) hx hb d_RG_edgesUpTo_44 (by decide) ?_
          exact ih pa ((((P : Nat) : Int)) / 2) ls (by omega) (lv_sub hl [2, 3, 4, 0] rfl) (by omega) (by exact (pw_half hp).elim (fun e => Or.inl ⟨by omega, by omega⟩) (fun ⟨P2, hp2, e⟩ => Or.inr ⟨P2, hp2, by omega, by omega⟩))
        · refine lv_aload_n hx hb d_RG_edgesUpTo_24 rfl (lv_at hl 1 rfl) ?_
          refine va_get (D := g.1) (ci := 1) (v := .ref q) (C := R_RG) (T := F_RG) (N := 2) hx hb ht i_RG hown hK hP 0 rfl rfl 0 (by decide) (ht _ k_93) (fun _ h9 => h9) rfl d_RG_edgesUpTo_25 ?_
          refine lv_iload hx hb d_RG_edgesUpTo_28 (lv_at hl 0 rfl) ?_
          refine lv_iconst (v := iI 1) hx hb d_RG_edgesUpTo_30 rfl ?_
          refine ix_isub hx hb d_RG_edgesUpTo_31 ?_
          refine ix_iald hx hb hK hP 1 0 rfl rfl (i := (((((pa : Nat) : Int)) + (((P : Nat) : Int))) - 1)) ((pa + P) - 1) (by omega) d_RG_edgesUpTo_32 ?_
          have f_1 := hbd ((pa + P) - 1) (by omega)
          refine lv_iload_n hx hb d_RG_edgesUpTo_33 rfl (lv_at hl 2 rfl) ?_
          refine ix_icmp_gt (tgt := 40) hx hb d_RG_edgesUpTo_34 (by decide) (by omega) (fun c_34 => ?_) (fun c_34 => ?_)
          · have u : ¬ pa + P ≤ k := fun z => absurd ((Up_step ha hk (t := pa + P) (by omega) (by omega)).mpr z) (by omega)
            refine lv_iload_n hx hb d_RG_edgesUpTo_40 rfl (lv_at hl 4 rfl) ?_
            refine lv_iconst (v := iI 2) hx hb d_RG_edgesUpTo_41 rfl ?_
            refine ix_idiv hx hb d_RG_edgesUpTo_42 (by omega) ?_
            refine lv_istore_n (lv' := [(3, .int (iI ((((P : Nat) : Int)) / 2))), (4, .int (iI ((((pa : Nat) : Int)) + (((P : Nat) : Int))))), (0, .ref h), (1, .int (iI c)), (2, .int (iI (((pa : Nat) : Int))))]) hx hb d_RG_edgesUpTo_43 rfl hl (by decide) rfl (fun ls hl => ?_)
            refine lv_goto (tgt := 6) hx hb d_RG_edgesUpTo_44 (by decide) ?_
            exact ih pa ((((P : Nat) : Int)) / 2) ls (by omega) (lv_sub hl [2, 3, 4, 0] rfl) (by omega) (by exact (pw_half hp).elim (fun e => Or.inl ⟨by omega, by omega⟩) (fun ⟨P2, hp2, e⟩ => Or.inr ⟨P2, hp2, by omega, by omega⟩))
          · have u := (Up_step ha hk (t := pa + P) (by omega) (by omega)).mp c_34
            refine lv_iload hx hb d_RG_edgesUpTo_37 (lv_at hl 0 rfl) ?_
            refine lv_istore_n (lv' := [(2, .int (iI ((((pa : Nat) : Int)) + (((P : Nat) : Int))))), (4, .int (iI ((((pa : Nat) : Int)) + (((P : Nat) : Int))))), (0, .ref h), (1, .int (iI c)), (3, .int (iI (((P : Nat) : Int))))]) hx hb d_RG_edgesUpTo_39 rfl hl (by decide) rfl (fun ls hl => ?_)
            refine lv_iload_n hx hb d_RG_edgesUpTo_40 rfl (lv_at hl 4 rfl) ?_
            refine lv_iconst (v := iI 2) hx hb d_RG_edgesUpTo_41 rfl ?_
            refine ix_idiv hx hb d_RG_edgesUpTo_42 (by omega) ?_
            refine lv_istore_n (lv' := [(3, .int (iI ((((P : Nat) : Int)) / 2))), (2, .int (iI ((((pa : Nat) : Int)) + (((P : Nat) : Int))))), (4, .int (iI ((((pa : Nat) : Int)) + (((P : Nat) : Int))))), (0, .ref h), (1, .int (iI c))]) hx hb d_RG_edgesUpTo_43 rfl hl (by decide) rfl (fun ls hl => ?_)
            refine lv_goto (tgt := 6) hx hb d_RG_edgesUpTo_44 (by decide) ?_
            exact ih (pa + P) ((((P : Nat) : Int)) / 2) ls (by omega) (lv_sub hl [3, 4, 1, 0] rfl) (by omega) (by exact (pw_half hp).elim (fun e => Or.inl ⟨by omega, by omega⟩) (fun ⟨P2, hp2, e⟩ => Or.inr ⟨P2, hp2, by omega, by omega⟩))
  refine lv_iconst (v := iI 0) hx hb d_RG_edgesUpTo_0 rfl ?_
  refine lv_istore_n (lv' := [(2, .int (iI 0)), (0, .ref h), (1, .int (iI c))]) hx hb d_RG_edgesUpTo_1 rfl hl (by decide) rfl (fun ls hl => ?_)
  refine lv_sipush (v := iI 2048) hx hb d_RG_edgesUpTo_2 (by decide) ?_
  refine lv_istore_n (lv' := [(3, .int (iI 2048)), (2, .int (iI 0)), (0, .ref h), (1, .int (iI c))]) hx hb d_RG_edgesUpTo_5 rfl hl (by decide) rfl (fun ls hl => ?_)
  exact J6 (_ + 1) 0 2048 ls (Nat.lt_succ_self _) (lv_sub hl [2, 3, 1, 0] rfl) (by omega) (by exact Or.inr ⟨2048, pw_top, rfl, by omega⟩)
set_option maxHeartbeats 4000000 in
set_option maxRecDepth 100000 in
theorem c_RG_rangeCount (l : Launch) (g : zG) (h q : Nat) (n : Nat) (es : Nat → Int) (hn : n ≤ 2048) : Met l y_RG_rangeCount w_RG_rangeCount (zr 0 0) (zP g [.ref h] [(h, .inr (1, [.ref q, .int (iI (((n : Nat) : Int)))])), (q, .inl (zI g, 2048, .inl (ai es)))]) (vp_Si (fun z => z = iI ((n / 2 : Nat) : Int))) 0 0 (fun _ => False) := by
  refine Met.ofW (cc := b_RG_rangeCount) (maxL := 1) (ret := (some .int)) (by decide) rfl ?_
  intro p e s m args below meth cd s₁ B hml hv
  obtain ⟨hargs, hP, hK, hZ⟩ := hv
  have hx := B.exec
  have hb := B.bytes
  have hr := B.returns
  have ht : ∀ w ∈ lw_ok, w.before args s = true := fun w h => atoms_spec (ws := w_RG_rangeCount) B.pre w (List.mem_cons_of_mem _ h)
  have hown : s.vm.findClass R_RG = some m.cls := findClass_of_methodNamed B.named
  have hlocks := B.notSynchronized
  have hS : va_S (fun _ => False) s.heap s.heap [] := va_S.rf
  generalize hQ : MQ below _ args s 0 0 _ = Q
  have hl := lv_entry ([.ref h]) (n := 1) (Nat.le_of_ble_eq_true rfl)
  rw [show entryFrame m args 1 = entryFrame m ([.ref h] : List Value).toArray 1 by rw [hargs], lg_entry_eq]
  generalize (lg_sl ([.ref h]) ++ List.replicate (1 - (lg_sl ([.ref h])).length) Slot.unset).toArray = ls at hl ⊢
  have hl : lv_has ls 1 [(0, .ref h)] := hl
  refine lv_aload_n hx hb d_RG_rangeCount_0 rfl (lv_at hl 0 rfl) ?_
  refine va_get (D := g.1) (ci := 1) (v := .int (iI (((n : Nat) : Int)))) (C := R_RG) (T := F_RG) (N := 2) hx hb ht i_RG hown hK hP 0 rfl rfl 1 (by decide) (ht _ k_94) (fun _ h9 => h9) rfl d_RG_rangeCount_1 ?_
  refine lv_iconst (v := iI 2) hx hb d_RG_rangeCount_4 rfl ?_
  refine ix_idiv hx hb d_RG_rangeCount_5 (by omega) ?_
  subst hQ
  exact W.iret (v := iI ((((n : Nat) : Int)) / 2)) hx hb hr (fun t h9 hW => ⟨_, rfl, congrArg iI (by omega), h9⟩) (fun _ h9 => by cases h9) d_RG_rangeCount_6
set_option maxHeartbeats 4000000 in
set_option maxRecDepth 100000 in
theorem c_RG_lowOf (l : Launch) (g : zG) (h q : Nat) (n : Nat) (es : Nat → Int) (i : Nat) (hi : 2 * i < 2048) : Met l y_RG_lowOf w_RG_lowOf (zr 0 0) (zP g [.ref h, .int (iI (((i : Nat) : Int)))] [(h, .inr (1, [.ref q, .int (iI (((n : Nat) : Int)))])), (q, .inl (zI g, 2048, .inl (ai es)))]) (vp_Si (fun z => z = iI (es (2 * i)))) 0 0 (fun _ => False) := by
  refine Met.ofW (cc := b_RG_lowOf) (maxL := 2) (ret := (some .int)) (by decide) rfl ?_
  intro p e s m args below meth cd s₁ B hml hv
  obtain ⟨hargs, hP, hK, hZ⟩ := hv
  have hx := B.exec
  have hb := B.bytes
  have hr := B.returns
  have ht : ∀ w ∈ lw_ok, w.before args s = true := fun w h => atoms_spec (ws := w_RG_lowOf) B.pre w (List.mem_cons_of_mem _ h)
  have hown : s.vm.findClass R_RG = some m.cls := findClass_of_methodNamed B.named
  have hlocks := B.notSynchronized
  have hS : va_S (fun _ => False) s.heap s.heap [] := va_S.rf
  generalize hQ : MQ below _ args s 0 0 _ = Q
  have hl := lv_entry ([.ref h, .int (iI (((i : Nat) : Int)))]) (n := 2) (Nat.le_of_ble_eq_true rfl)
  rw [show entryFrame m args 2 = entryFrame m ([.ref h, .int (iI (((i : Nat) : Int)))] : List Value).toArray 2 by rw [hargs], lg_entry_eq]
  generalize (lg_sl ([.ref h, .int (iI (((i : Nat) : Int)))]) ++ List.replicate (2 - (lg_sl ([.ref h, .int (iI (((i : Nat) : Int)))])).length) Slot.unset).toArray = ls at hl ⊢
  have hl : lv_has ls 2 [(0, .ref h), (1, .int (iI (((i : Nat) : Int))))] := hl
  refine lv_aload_n hx hb d_RG_lowOf_0 rfl (lv_at hl 0 rfl) ?_
  refine va_get (D := g.1) (ci := 1) (v := .ref q) (C := R_RG) (T := F_RG) (N := 2) hx hb ht i_RG hown hK hP 0 rfl rfl 0 (by decide) (ht _ k_93) (fun _ h9 => h9) rfl d_RG_lowOf_1 ?_
  refine lv_iconst (v := iI 2) hx hb d_RG_lowOf_4 rfl ?_
  refine lv_iload_n hx hb d_RG_lowOf_5 rfl (lv_at hl 1 rfl) ?_
  refine ix_imul hx hb d_RG_lowOf_6 ?_
  refine ix_iald hx hb hK hP 1 0 rfl rfl (i := (2 * (((i : Nat) : Int)))) (2 * i) (by omega) d_RG_lowOf_7 ?_
  subst hQ
  exact W.iret (v := iI (es (2 * i))) hx hb hr (fun t h9 hW => ⟨_, rfl, rfl, h9⟩) (fun _ h9 => by cases h9) d_RG_lowOf_8
set_option maxHeartbeats 4000000 in
set_option maxRecDepth 100000 in
theorem c_RG_highOf (l : Launch) (g : zG) (h q : Nat) (n : Nat) (es : Nat → Int) (i : Nat) (hi : 2 * i + 1 < 2048) : Met l y_RG_highOf w_RG_highOf (zr 0 0) (zP g [.ref h, .int (iI (((i : Nat) : Int)))] [(h, .inr (1, [.ref q, .int (iI (((n : Nat) : Int)))])), (q, .inl (zI g, 2048, .inl (ai es)))]) (vp_Si (fun z => z = iI (es (2 * i + 1) - 1))) 0 0 (fun _ => False) := by
  refine Met.ofW (cc := b_RG_highOf) (maxL := 2) (ret := (some .int)) (by decide) rfl ?_
  intro p e s m args below meth cd s₁ B hml hv
  obtain ⟨hargs, hP, hK, hZ⟩ := hv
  have hx := B.exec
  have hb := B.bytes
  have hr := B.returns
  have ht : ∀ w ∈ lw_ok, w.before args s = true := fun w h => atoms_spec (ws := w_RG_highOf) B.pre w (List.mem_cons_of_mem _ h)
  have hown : s.vm.findClass R_RG = some m.cls := findClass_of_methodNamed B.named
  have hlocks := B.notSynchronized
  have hS : va_S (fun _ => False) s.heap s.heap [] := va_S.rf
  generalize hQ : MQ below _ args s 0 0 _ = Q
  have hl := lv_entry ([.ref h, .int (iI (((i : Nat) : Int)))]) (n := 2) (Nat.le_of_ble_eq_true rfl)
  rw [show entryFrame m args 2 = entryFrame m ([.ref h, .int (iI (((i : Nat) : Int)))] : List Value).toArray 2 by rw [hargs], lg_entry_eq]
  generalize (lg_sl ([.ref h, .int (iI (((i : Nat) : Int)))]) ++ List.replicate (2 - (lg_sl ([.ref h, .int (iI (((i : Nat) : Int)))])).length) Slot.unset).toArray = ls at hl ⊢
  have hl : lv_has ls 2 [(0, .ref h), (1, .int (iI (((i : Nat) : Int))))] := hl
  refine lv_aload_n hx hb d_RG_highOf_0 rfl (lv_at hl 0 rfl) ?_
  refine va_get (D := g.1) (ci := 1) (v := .ref q) (C := R_RG) (T := F_RG) (N := 2) hx hb ht i_RG hown hK hP 0 rfl rfl 0 (by decide) (ht _ k_93) (fun _ h9 => h9) rfl d_RG_highOf_1 ?_
  refine lv_iconst (v := iI 2) hx hb d_RG_highOf_4 rfl ?_
  refine lv_iload_n hx hb d_RG_highOf_5 rfl (lv_at hl 1 rfl) ?_
  refine ix_imul hx hb d_RG_highOf_6 ?_
  refine lv_iconst (v := iI 1) hx hb d_RG_highOf_7 rfl ?_
  refine ix_iadd hx hb d_RG_highOf_8 ?_
  refine ix_iald hx hb hK hP 1 0 rfl rfl (i := ((2 * (((i : Nat) : Int))) + 1)) ((2 * i) + 1) (by omega) d_RG_highOf_9 ?_
  refine lv_iconst (v := iI 1) hx hb d_RG_highOf_10 rfl ?_
  refine ix_isub hx hb d_RG_highOf_11 ?_
  subst hQ
  exact W.iret (v := iI ((es ((2 * i) + 1)) - 1)) hx hb hr (fun t h9 hW => ⟨_, rfl, rfl, h9⟩) (fun _ h9 => by cases h9) d_RG_highOf_12
set_option maxHeartbeats 4000000 in
set_option maxRecDepth 100000 in
theorem c_RG_memberCount (l : Launch) (g : zG) (h q : Nat) (n : Nat) (es : Nat → Int) (ha : asc es n) (hn : n ≤ 2048) (hbd : ∀ i, i < n → 0 ≤ es i ∧ es i ≤ 1114112) : Met l y_RG_memberCount w_RG_memberCount (zr 0 0) (zP g [.ref h] [(h, .inr (1, [.ref q, .int (iI (((n : Nat) : Int)))])), (q, .inl (zI g, 2048, .inl (ai es)))]) (vp_Si (fun z => z = iI (msum es (n / 2)))) 0 0 (fun _ => False) := by
  refine Met.ofW (cc := b_RG_memberCount) (maxL := 3) (ret := (some .int)) (by decide) rfl ?_
  intro p e s m args below meth cd s₁ B hml hv
  obtain ⟨hargs, hP, hK, hZ⟩ := hv
  have hx := B.exec
  have hb := B.bytes
  have hr := B.returns
  have ht : ∀ w ∈ lw_ok, w.before args s = true := fun w h => atoms_spec (ws := w_RG_memberCount) B.pre w (List.mem_cons_of_mem _ h)
  have hown : s.vm.findClass R_RG = some m.cls := findClass_of_methodNamed B.named
  have hlocks := B.notSynchronized
  have hS : va_S (fun _ => False) s.heap s.heap [] := va_S.rf
  generalize hQ : MQ below _ args s 0 0 _ = Q
  have hl := lv_entry ([.ref h]) (n := 3) (Nat.le_of_ble_eq_true rfl)
  rw [show entryFrame m args 3 = entryFrame m ([.ref h] : List Value).toArray 3 by rw [hargs], lg_entry_eq]
  generalize (lg_sl ([.ref h]) ++ List.replicate (3 - (lg_sl ([.ref h])).length) Slot.unset).toArray = ls at hl ⊢
  have hl : lv_has ls 3 [(0, .ref h)] := hl
  have J4 : ∀ fu : Nat, ∀ (j : Nat) (ls : Array Slot), n - 2 * j < fu → lv_has ls 3 [(0, .ref h), (1, .int (iI (msum es j))), (2, .int (iI (((2 * j : Nat) : Int))))] → (2 * j ≤ n) → W p l e (headSpec w_RG_memberCount (zr 0 0)).room s m args below meth cd s.heap [] 0 0 Q (F0 m 4 ls []) := by
    intro fu
    induction fu with
    | zero => exact fun _ _ hfu _ _ => absurd hfu (Nat.not_lt_zero _)
    | succ fu ih =>
      intro j ls hfu hl h1
      refine lv_iload_n hx hb d_RG_memberCount_4 rfl (lv_at hl 2 rfl) ?_
      refine lv_iconst (v := iI 1) hx hb d_RG_memberCount_5 rfl ?_
      refine ix_iadd hx hb d_RG_memberCount_6 ?_
      refine lv_aload_n hx hb d_RG_memberCount_7 rfl (lv_at hl 0 rfl) ?_
      refine va_get (D := g.1) (ci := 1) (v := .int (iI (((n : Nat) : Int)))) (C := R_RG) (T := F_RG) (N := 2) hx hb ht i_RG hown hK hP 0 rfl rfl 1 (by decide) (ht _ k_94) (fun _ h9 => h9) rfl d_RG_memberCount_8 ?_
      refine ix_icmp_ge (tgt := 38) hx hb d_RG_memberCount_11 (by decide) (by omega) (fun c_11 => ?_) (fun c_11 => ?_)
      · have e9 : j = n / 2 := by omega
        refine lv_iload_n hx hb d_RG_memberCount_38 rfl (lv_at hl 1 rfl) ?_
        subst hQ
        exact W.iret (v := iI (msum es j)) hx hb hr (fun t h9 hW => ⟨_, rfl, by rw [e9], h9⟩) (fun _ h9 => by cases h9) d_RG_memberCount_39
      · refine lv_iload_n hx hb d_RG_memberCount_14 rfl (lv_at hl 1 rfl) ?_
        refine lv_aload_n hx hb d_RG_memberCount_15 rfl (lv_at hl 0 rfl) ?_
        refine va_get (D := g.1) (ci := 1) (v := .ref q) (C := R_RG) (T := F_RG) (N := 2) hx hb ht i_RG hown hK hP 0 rfl rfl 0 (by decide) (ht _ k_93) (fun _ h9 => h9) rfl d_RG_memberCount_16 ?_
        refine lv_iload_n hx hb d_RG_memberCount_19 rfl (lv_at hl 2 rfl) ?_
        refine lv_iconst (v := iI 1) hx hb d_RG_memberCount_20 rfl ?_
        refine ix_iadd hx hb d_RG_memberCount_21 ?_
        refine ix_iald hx hb hK hP 1 0 rfl rfl (i := ((((2 * j : Nat) : Int)) + 1)) ((2 * j) + 1) (by omega) d_RG_memberCount_22 ?_
        have f_2 := hbd ((2 * j) + 1) (by omega)
        refine lv_aload_n hx hb d_RG_memberCount_23 rfl (lv_at hl 0 rfl) ?_
        refine va_get (D := g.1) (ci := 1) (v := .ref q) (C := R_RG) (T := F_RG) (N := 2) hx hb ht i_RG hown hK hP 0 rfl rfl 0 (by decide) (ht _ k_93) (fun _ h9 => h9) rfl d_RG_memberCount_24 ?_
        refine lv_iload_n hx hb d_RG_memberCount_27 rfl (lv_at hl 2 rfl) ?_
        refine ix_iald hx hb hK hP 1 0 rfl rfl (i := (((2 * j : Nat) : Int))) (2 * j) (by omega) d_RG_memberCount_28 ?_
        have f_3 := hbd (2 * j) (by omega)
        refine ix_isub hx hb d_RG_memberCount_29 ?_
        refine ix_iadd hx hb d_RG_memberCount_30 ?_
        refine lv_istore_n (lv' := [(1, .int (iI ((msum es j) + ((es ((2 * j) + 1)) - (es (2 * j)))))), (0, .ref h), (2, .int (iI (((2 * j : Nat) : Int))))]) hx hb d_RG_memberCount_31 rfl hl (by decide) rfl (fun ls hl => ?_)
        refine lv_iinc (v := iI ((((2 * j : Nat) : Int)) + 2)) (lv' := [(2, .int (iI ((((2 * j : Nat) : Int)) + 2))), (1, .int (iI ((msum es j) + ((es ((2 * j) + 1)) - (es (2 * j)))))), (0, .ref h)]) hx hb d_RG_memberCount_32 hl (k := 2) rfl (iI_add _ _) (by decide) rfl (fun ls hl => ?_)
        refine lv_goto (tgt := 4) hx hb d_RG_memberCount_35 (by decide) ?_
        exact ih (j + 1) ls (by omega) (lv_sub hl [2, 1, 0] rfl) (by omega)
  refine lv_iconst (v := iI 0) hx hb d_RG_memberCount_0 rfl ?_
  refine lv_istore_n (lv' := [(1, .int (iI 0)), (0, .ref h)]) hx hb d_RG_memberCount_1 rfl hl (by decide) rfl (fun ls hl => ?_)
  refine lv_iconst (v := iI 0) hx hb d_RG_memberCount_2 rfl ?_
  refine lv_istore_n (lv' := [(2, .int (iI 0)), (1, .int (iI 0)), (0, .ref h)]) hx hb d_RG_memberCount_3 rfl hl (by decide) rfl (fun ls hl => ?_)
  exact J4 (_ + 1) 0 ls (Nat.lt_succ_self _) (lv_sub hl [2, 1, 0] rfl) (by omega)
set_option maxHeartbeats 4000000 in
set_option maxRecDepth 100000 in
theorem c_RG_contains (l : Launch) (g : zG) (h q : Nat) (n : Nat) (es : Nat → Int) (c : Int) (ha : asc es n) (hn : n ≤ 2048) (hbd : ∀ i, i < n → 0 ≤ es i ∧ es i ≤ 1114112) (hc : -2147483648 ≤ c ∧ c ≤ 2147483647) : Met l y_RG_contains w_RG_contains (zr 1 24) (zP g [.ref h, .int (iI c)] [(h, .inr (1, [.ref q, .int (iI (((n : Nat) : Int)))])), (q, .inl (zI g, 2048, .inl (ai es)))]) (vp_Si (fun z => ((∃ k, Up es n c k ∧ k % 2 = 1) ∧ z = iI 1) ∨ (¬ (∃ k, Up es n c k ∧ k % 2 = 1) ∧ z = iI 0))) 0 0 (fun _ => False) := by
  refine Met.ofW (cc := b_RG_contains) (maxL := 2) (ret := (some .boolean)) (by decide) rfl ?_
  intro p e s m args below meth cd s₁ B hml hv
  obtain ⟨hargs, hP, hK, hZ⟩ := hv
  have hx := B.exec
  have hb := B.bytes
  have hr := B.returns
  have ht : ∀ w ∈ lw_ok, w.before args s = true := fun w h => atoms_spec (ws := w_RG_contains) B.pre w (List.mem_cons_of_mem _ h)
  have hown : s.vm.findClass R_RG = some m.cls := findClass_of_methodNamed B.named
  have hlocks := B.notSynchronized
  have hS : va_S (fun _ => False) s.heap s.heap [] := va_S.rf
  generalize hQ : MQ below _ args s 0 0 _ = Q
  have hl := lv_entry ([.ref h, .int (iI c)]) (n := 2) (Nat.le_of_ble_eq_true rfl)
  rw [show entryFrame m args 2 = entryFrame m ([.ref h, .int (iI c)] : List Value).toArray 2 by rw [hargs], lg_entry_eq]
  generalize (lg_sl ([.ref h, .int (iI c)]) ++ List.replicate (2 - (lg_sl ([.ref h, .int (iI c)])).length) Slot.unset).toArray = ls at hl ⊢
  have hl : lv_has ls 2 [(0, .ref h), (1, .int (iI c))] := hl
  refine lv_aload_n hx hb d_RG_contains_0 rfl (lv_at hl 0 rfl) ?_
  refine lv_iload_n hx hb d_RG_contains_1 rfl (lv_at hl 1 rfl) ?_
  refine zcV (ci := 1) (q0 := 0) (As := [.int (iI c)]) (rest := []) ⟨hx, hb, hml, hown, ht⟩ v_RG_17 (c_RG_edgesUpTo l g h q n es c ha hn hbd (by omega)) ⟨Nat.le_of_ble_eq_true rfl, Nat.le_of_ble_eq_true rfl⟩ ⟨Nat.zero_le _, Nat.zero_le _⟩ hK hZ hS hP rfl rfl rfl rfl hl.1 rfl (Nat.le_of_ble_eq_true rfl) d_RG_contains_2 (fun r_2 h_2 => ?_)
  obtain ⟨k2, rfl, hk2⟩ := h_2
  have hkn2 := hk2.1
  refine lv_iconst (v := iI 2) hx hb d_RG_contains_5 rfl ?_
  refine ix_irem hx hb d_RG_contains_6 (by omega) ?_
  refine lv_iconst (v := iI 1) hx hb d_RG_contains_7 rfl ?_
  refine ix_icmp_ne (tgt := 15) hx hb d_RG_contains_8 (by decide) (by omega) (fun c_8 => ?_) (fun c_8 => ?_)
  · refine lv_iconst (v := iI 0) hx hb d_RG_contains_15 rfl ?_
    subst hQ
    exact W.zret (v := iI 0) hx hb hr (by decide) (fun t h9 hW => ⟨_, rfl, Or.inr ⟨fun ⟨k9, a9, b9⟩ => by have := Up_eq a9 hk2; omega, rfl⟩, h9⟩) (fun _ h9 => by cases h9) d_RG_contains_16
  · refine lv_iconst (v := iI 1) hx hb d_RG_contains_11 rfl ?_
    refine lv_goto (tgt := 16) hx hb d_RG_contains_12 (by decide) ?_
    subst hQ
    exact W.zret (v := iI 1) hx hb hr (by decide) (fun t h9 hW => ⟨_, rfl, Or.inl ⟨⟨k2, hk2, by omega⟩, rfl⟩, h9⟩) (fun _ h9 => by cases h9) d_RG_contains_16
set_option maxHeartbeats 4000000 in
set_option maxRecDepth 100000 in
theorem c_RG_firstFrom (l : Launch) (g : zG) (h q : Nat) (n : Nat) (es : Nat → Int) (c : Int) (ha : asc es n) (hn : n ≤ 2048) (hbd : ∀ i, i < n → 0 ≤ es i ∧ es i ≤ 1114112) (hc : -2147483648 ≤ c ∧ c ≤ 2147483647) : Met l y_RG_firstFrom w_RG_firstFrom (zr 1 24) (zP g [.ref h, .int (iI c)] [(h, .inr (1, [.ref q, .int (iI (((n : Nat) : Int)))])), (q, .inl (zI g, 2048, .inl (ai es)))]) (vp_Si (fun z => ∃ m9 : Int, z = iI m9 ∧ FF es n c m9 ∧ -2147483648 ≤ m9 ∧ m9 ≤ 2147483647)) 0 0 (fun _ => False) := by
  refine Met.ofW (cc := b_RG_firstFrom) (maxL := 3) (ret := (some .int)) (by decide) rfl ?_
  intro p e s m args below meth cd s₁ B hml hv
  obtain ⟨hargs, hP, hK, hZ⟩ := hv
  have hx := B.exec
  have hb := B.bytes
  have hr := B.returns
  have ht : ∀ w ∈ lw_ok, w.before args s = true := fun w h => atoms_spec (ws := w_RG_firstFrom) B.pre w (List.mem_cons_of_mem _ h)
  have hown : s.vm.findClass R_RG = some m.cls := findClass_of_methodNamed B.named
  have hlocks := B.notSynchronized
  have hS : va_S (fun _ => False) s.heap s.heap [] := va_S.rf
  generalize hQ : MQ below _ args s 0 0 _ = Q
  have hl := lv_entry ([.ref h, .int (iI c)]) (n := 3) (Nat.le_of_ble_eq_true rfl)
  rw [show entryFrame m args 3 = entryFrame m ([.ref h, .int (iI c)] : List Value).toArray 3 by rw [hargs], lg_entry_eq]
  generalize (lg_sl ([.ref h, .int (iI c)]) ++ List.replicate (3 - (lg_sl ([.ref h, .int (iI c)])).length) Slot.unset).toArray = ls at hl ⊢
  have hl : lv_has ls 3 [(0, .ref h), (1, .int (iI c))] := hl
  refine lv_aload_n hx hb d_RG_firstFrom_0 rfl (lv_at hl 0 rfl) ?_
  refine lv_iload_n hx hb d_RG_firstFrom_1 rfl (lv_at hl 1 rfl) ?_
  refine zcV (ci := 1) (q0 := 0) (As := [.int (iI c)]) (rest := []) ⟨hx, hb, hml, hown, ht⟩ v_RG_17 (c_RG_edgesUpTo l g h q n es c ha hn hbd (by omega)) ⟨Nat.le_of_ble_eq_true rfl, Nat.le_of_ble_eq_true rfl⟩ ⟨Nat.zero_le _, Nat.zero_le _⟩ hK hZ hS hP rfl rfl rfl rfl hl.1 rfl (Nat.le_of_ble_eq_true rfl) d_RG_firstFrom_2 (fun r_2 h_2 => ?_)
  obtain ⟨k2, rfl, hk2⟩ := h_2
  have hkn2 := hk2.1
  refine lv_istore_n (lv' := [(2, .int (iI (((k2 : Nat) : Int)))), (0, .ref h), (1, .int (iI c))]) hx hb d_RG_firstFrom_5 rfl hl (by decide) rfl (fun ls hl => ?_)
  refine lv_iload_n hx hb d_RG_firstFrom_6 rfl (lv_at hl 0 rfl) ?_
  refine lv_iconst (v := iI 2) hx hb d_RG_firstFrom_7 rfl ?_
  refine ix_irem hx hb d_RG_firstFrom_8 (by omega) ?_
  refine lv_iconst (v := iI 1) hx hb d_RG_firstFrom_9 rfl ?_
  refine ix_icmp_ne (tgt := 15) hx hb d_RG_firstFrom_10 (by decide) (by omega) (fun c_10 => ?_) (fun c_10 => ?_)
  · refine lv_iload_n hx hb d_RG_firstFrom_15 rfl (lv_at hl 0 rfl) ?_
    refine lv_aload_n hx hb d_RG_firstFrom_16 rfl (lv_at hl 1 rfl) ?_
    refine va_get (D := g.1) (ci := 1) (v := .int (iI (((n : Nat) : Int)))) (C := R_RG) (T := F_RG) (N := 2) hx hb ht i_RG hown hK hP 0 rfl rfl 1 (by decide) (ht _ k_94) (fun _ h9 => h9) rfl d_RG_firstFrom_17 ?_
    refine ix_icmp_ge (tgt := 32) hx hb d_RG_firstFrom_20 (by decide) (by omega) (fun c_20 => ?_) (fun c_20 => ?_)
    · refine lv_iconst (v := iI (-1)) hx hb d_RG_firstFrom_32 rfl ?_
      subst hQ
      exact W.iret (v := iI ((-1))) hx hb hr (fun t h9 hW => ⟨_, rfl, ⟨-1, rfl, ⟨k2, hk2, Or.inr (Or.inr ⟨by omega, by omega, rfl⟩)⟩, by omega, by omega⟩, h9⟩) (fun _ h9 => by cases h9) d_RG_firstFrom_33
    · refine lv_aload_n hx hb d_RG_firstFrom_23 rfl (lv_at hl 1 rfl) ?_
      refine va_get (D := g.1) (ci := 1) (v := .ref q) (C := R_RG) (T := F_RG) (N := 2) hx hb ht i_RG hown hK hP 0 rfl rfl 0 (by decide) (ht _ k_93) (fun _ h9 => h9) rfl d_RG_firstFrom_24 ?_
      refine lv_iload_n hx hb d_RG_firstFrom_27 rfl (lv_at hl 0 rfl) ?_
      refine ix_iald hx hb hK hP 1 0 rfl rfl (i := (((k2 : Nat) : Int))) k2 (by omega) d_RG_firstFrom_28 ?_
      have f_4 := hbd k2 (by omega)
      refine lv_goto (tgt := 33) hx hb d_RG_firstFrom_29 (by decide) ?_
      subst hQ
      exact W.iret (v := iI (es k2)) hx hb hr (fun t h9 hW => ⟨_, rfl, ⟨es k2, rfl, ⟨k2, hk2, Or.inr (Or.inl ⟨by omega, by omega, rfl⟩)⟩, by omega, by omega⟩, h9⟩) (fun _ h9 => by cases h9) d_RG_firstFrom_33
  · refine lv_iload_n hx hb d_RG_firstFrom_13 rfl (lv_at hl 2 rfl) ?_
    subst hQ
    exact W.iret (v := iI c) hx hb hr (fun t h9 hW => ⟨_, rfl, ⟨c, rfl, ⟨k2, hk2, Or.inl ⟨by omega, rfl⟩⟩, by omega, by omega⟩, h9⟩) (fun _ h9 => by cases h9) d_RG_firstFrom_14
set_option maxHeartbeats 4000000 in
set_option maxRecDepth 100000 in
theorem c_RG_matches (l : Launch) (g : zG) (h q : Nat) (n : Nat) (es : Nat → Int) (h2 q2 n2 : Nat) (es2 : Nat → Int) (ha : asc es n) (hn : n ≤ 2048) (hbd : ∀ i, i < n → 0 ≤ es i ∧ es i ≤ 1114112) (ha2 : asc es2 n2) (hn2 : n2 ≤ 2048) (hbd2 : ∀ i, i < n2 → 0 ≤ es2 i ∧ es2 i ≤ 1114112) : Met l y_RG_matches w_RG_matches (zr 0 0) (zP g [.ref h, .ref h2] [(h, .inr (1, [.ref q, .int (iI (((n : Nat) : Int)))])), (q, .inl (zI g, 2048, .inl (ai es))), (h2, .inr (1, [.ref q2, .int (iI (((n2 : Nat) : Int)))])), (q2, .inl (zI g, 2048, .inl (ai es2)))]) (vp_Si (fun z => ((n = n2 ∧ ∀ i, i < n → es i = es2 i) ∧ z = iI 1) ∨ (¬ (n = n2 ∧ ∀ i, i < n → es i = es2 i) ∧ z = iI 0))) 0 0 (fun _ => False) := by
  refine Met.ofW (cc := b_RG_matches) (maxL := 3) (ret := (some .boolean)) (by decide) rfl ?_
  intro p e s m args below meth cd s₁ B hml hv
  obtain ⟨hargs, hP, hK, hZ⟩ := hv
  have hx := B.exec
  have hb := B.bytes
  have hr := B.returns
  have ht : ∀ w ∈ lw_ok, w.before args s = true := fun w h => atoms_spec (ws := w_RG_matches) B.pre w (List.mem_cons_of_mem _ h)
  have hown : s.vm.findClass R_RG = some m.cls := findClass_of_methodNamed B.named
  have hlocks := B.notSynchronized
  have hS : va_S (fun _ => False) s.heap s.heap [] := va_S.rf
  generalize hQ : MQ below _ args s 0 0 _ = Q
  have hl := lv_entry ([.ref h, .ref h2]) (n := 3) (Nat.le_of_ble_eq_true rfl)
  rw [show entryFrame m args 3 = entryFrame m ([.ref h, .ref h2] : List Value).toArray 3 by rw [hargs], lg_entry_eq]
  generalize (lg_sl ([.ref h, .ref h2]) ++ List.replicate (3 - (lg_sl ([.ref h, .ref h2])).length) Slot.unset).toArray = ls at hl ⊢
  have hl : lv_has ls 3 [(0, .ref h), (1, .ref h2)] := hl
  have J15 : ∀ fu : Nat, ∀ (i : Nat) (ls : Array Slot), n - i < fu → lv_has ls 3 [(0, .ref h), (1, .ref h2), (2, .int (iI (((i : Nat) : Int))))] → (i ≤ n) → (n = n2) → (∀ j, j < i → es j = es2 j) → W p l e (headSpec w_RG_matches (zr 0 0)).room s m args below meth cd s.heap [] 0 0 Q (F0 m 15 ls []) := by
    intro fu
    induction fu with
    | zero => exact fun _ _ hfu _ _ _ _ => absurd hfu (Nat.not_lt_zero _)
    | succ fu ih =>
      intro i ls hfu hl h1 h2x h3
      refine lv_iload_n hx hb d_RG_matches_15 rfl (lv_at hl 2 rfl) ?_
      refine lv_aload_n hx hb d_RG_matches_16 rfl (lv_at hl 0 rfl) ?_
      refine va_get (D := g.1) (ci := 1) (v := .int (iI (((n : Nat) : Int)))) (C := R_RG) (T := F_RG) (N := 2) hx hb ht i_RG hown hK hP 0 rfl rfl 1 (by decide) (ht _ k_94) (fun _ h9 => h9) rfl d_RG_matches_17 ?_
      refine ix_icmp_ge (tgt := 46) hx hb d_RG_matches_20 (by decide) (by omega) (fun c_20 => ?_) (fun c_20 => ?_)
      · refine lv_iconst (v := iI 1) hx hb d_RG_matches_46 rfl ?_
        subst hQ
        exact W.zret (v := iI 1) hx hb hr (by decide) (fun t h9 hW => ⟨_, rfl, Or.inl ⟨⟨h2x, fun j hj => h3 j (by omega)⟩, rfl⟩, h9⟩) (fun _ h9 => by cases h9) d_RG_matches_47
      · refine lv_aload_n hx hb d_RG_matches_23 rfl (lv_at hl 0 rfl) ?_
        refine va_get (D := g.1) (ci := 1) (v := .ref q) (C := R_RG) (T := F_RG) (N := 2) hx hb ht i_RG hown hK hP 0 rfl rfl 0 (by decide) (ht _ k_93) (fun _ h9 => h9) rfl d_RG_matches_24 ?_
        refine lv_iload_n hx hb d_RG_matches_27 rfl (lv_at hl 2 rfl) ?_
        refine ix_iald hx hb hK hP 1 0 rfl rfl (i := (((i : Nat) : Int))) i (by omega) d_RG_matches_28 ?_
        have f_5 := hbd i (by omega)
        refine lv_aload_n hx hb d_RG_matches_29 rfl (lv_at hl 1 rfl) ?_
        refine va_get (D := g.1) (ci := 1) (v := .ref q2) (C := R_RG) (T := F_RG) (N := 2) hx hb ht i_RG hown hK hP 2 rfl rfl 0 (by decide) (ht _ k_93) (fun _ h9 => h9) rfl d_RG_matches_30 ?_
        refine lv_iload_n hx hb d_RG_matches_33 rfl (lv_at hl 2 rfl) ?_
        refine ix_iald hx hb hK hP 3 0 rfl rfl (i := (((i : Nat) : Int))) i (by omega) d_RG_matches_34 ?_
        have f_6 := hbd2 i (by omega)
        refine ix_icmp_eq (tgt := 40) hx hb d_RG_matches_35 (by decide) (by omega) (fun c_35 => ?_) (fun c_35 => ?_)
        · refine lv_iinc (v := iI ((((i : Nat) : Int)) + 1)) (lv' := [(2, .int (iI ((((i : Nat) : Int)) + 1))), (0, .ref h), (1, .ref h2)]) hx hb d_RG_matches_40 hl (k := 2) rfl (iI_add _ _) (by decide) rfl (fun ls hl => ?_)
          refine lv_goto (tgt := 15) hx hb d_RG_matches_43 (by decide) ?_
          exact ih (i + 1) ls (by omega) (lv_sub hl [1, 2, 0] rfl) (by omega) (by omega) (by exact fun j hj => (Nat.lt_or_ge j i).elim (fun q9 => h3 j q9) (fun q9 => by rw [show j = i by omega]; exact c_35))
        · refine lv_iconst (v := iI 0) hx hb d_RG_matches_38 rfl ?_
          subst hQ
          exact W.zret (v := iI 0) hx hb hr (by decide) (fun t h9 hW => ⟨_, rfl, Or.inr ⟨fun h => c_35 (h.2 i (by omega)), rfl⟩, h9⟩) (fun _ h9 => by cases h9) d_RG_matches_39
  refine lv_aload_n hx hb d_RG_matches_0 rfl (lv_at hl 0 rfl) ?_
  refine va_get (D := g.1) (ci := 1) (v := .int (iI (((n : Nat) : Int)))) (C := R_RG) (T := F_RG) (N := 2) hx hb ht i_RG hown hK hP 0 rfl rfl 1 (by decide) (ht _ k_94) (fun _ h9 => h9) rfl d_RG_matches_1 ?_
  refine lv_aload_n hx hb d_RG_matches_4 rfl (lv_at hl 1 rfl) ?_
  refine va_get (D := g.1) (ci := 1) (v := .int (iI (((n2 : Nat) : Int)))) (C := R_RG) (T := F_RG) (N := 2) hx hb ht i_RG hown hK hP 2 rfl rfl 1 (by decide) (ht _ k_94) (fun _ h9 => h9) rfl d_RG_matches_5 ?_
  refine ix_icmp_eq (tgt := 13) hx hb d_RG_matches_8 (by decide) (by omega) (fun c_8 => ?_) (fun c_8 => ?_)
  · refine lv_iconst (v := iI 0) hx hb d_RG_matches_13 rfl ?_
    refine lv_istore_n (lv' := [(2, .int (iI 0)), (0, .ref h), (1, .ref h2)]) hx hb d_RG_matches_14 rfl hl (by decide) rfl (fun ls hl => ?_)
    exact J15 (_ + 1) 0 ls (Nat.lt_succ_self _) (lv_sub hl [1, 2, 0] rfl) (by omega) (by omega) (by exact fun j hj => absurd hj (by omega))
  · refine lv_iconst (v := iI 0) hx hb d_RG_matches_11 rfl ?_
    subst hQ
    exact W.zret (v := iI 0) hx hb hr (by decide) (fun t h9 hW => ⟨_, rfl, Or.inr ⟨fun h => by omega, rfl⟩, h9⟩) (fun _ h9 => by cases h9) d_RG_matches_12
set_option maxHeartbeats 4000000 in
set_option maxRecDepth 100000 in
theorem c_RG_overlaps (l : Launch) (g : zG) (h q : Nat) (n : Nat) (es : Nat → Int) (h2 q2 n2 : Nat) (es2 : Nat → Int) (ha : asc es n) (hn : n ≤ 2048) (hbd : ∀ i, i < n → 0 ≤ es i ∧ es i ≤ 1114112) (ha2 : asc es2 n2) (hn2 : n2 ≤ 2048) (hbd2 : ∀ i, i < n2 → 0 ≤ es2 i ∧ es2 i ≤ 1114112) : Met l y_RG_overlaps w_RG_overlaps (zr 2 46) (zP g [.ref h, .ref h2] [(h, .inr (1, [.ref q, .int (iI (((n : Nat) : Int)))])), (q, .inl (zI g, 2048, .inl (ai es))), (h2, .inr (1, [.ref q2, .int (iI (((n2 : Nat) : Int)))])), (q2, .inl (zI g, 2048, .inl (ai es2)))]) (vp_Si (fun z => ((∃ i, 2 * i + 1 < n ∧ hit es es2 n2 i) ∧ z = iI 1) ∨ (¬ (∃ i, 2 * i + 1 < n ∧ hit es es2 n2 i) ∧ z = iI 0))) 0 0 (fun _ => False) := by
  refine Met.ofW (cc := b_RG_overlaps) (maxL := 4) (ret := (some .boolean)) (by decide) rfl ?_
  intro p e s m args below meth cd s₁ B hml hv
  obtain ⟨hargs, hP, hK, hZ⟩ := hv
  have hx := B.exec
  have hb := B.bytes
  have hr := B.returns
  have ht : ∀ w ∈ lw_ok, w.before args s = true := fun w h => atoms_spec (ws := w_RG_overlaps) B.pre w (List.mem_cons_of_mem _ h)
  have hown : s.vm.findClass R_RG = some m.cls := findClass_of_methodNamed B.named
  have hlocks := B.notSynchronized
  have hS : va_S (fun _ => False) s.heap s.heap [] := va_S.rf
  generalize hQ : MQ below _ args s 0 0 _ = Q
  have hl := lv_entry ([.ref h, .ref h2]) (n := 4) (Nat.le_of_ble_eq_true rfl)
  rw [show entryFrame m args 4 = entryFrame m ([.ref h, .ref h2] : List Value).toArray 4 by rw [hargs], lg_entry_eq]
  generalize (lg_sl ([.ref h, .ref h2]) ++ List.replicate (4 - (lg_sl ([.ref h, .ref h2])).length) Slot.unset).toArray = ls at hl ⊢
  have hl : lv_has ls 4 [(0, .ref h), (1, .ref h2)] := hl
  have J2 : ∀ fu : Nat, ∀ (i : Nat) (ls : Array Slot), n - i < fu → lv_has ls 4 [(0, .ref h), (1, .ref h2), (2, .int (iI (((i : Nat) : Int))))] → (i ≤ n / 2) → (∀ j, j < i → ¬ hit es es2 n2 j) → W p l e (headSpec w_RG_overlaps (zr 2 46)).room s m args below meth cd s.heap [] 0 0 Q (F0 m 2 ls []) := by
    intro fu
    induction fu with
    | zero => exact fun _ _ hfu _ _ _ => absurd hfu (Nat.not_lt_zero _)
    | succ fu ih =>
      intro i ls hfu hl h1 h3
      refine lv_iload_n hx hb d_RG_overlaps_2 rfl (lv_at hl 2 rfl) ?_
      refine lv_aload_n hx hb d_RG_overlaps_3 rfl (lv_at hl 0 rfl) ?_
      refine zcV (ci := 1) (q0 := 0) (As := []) (rest := [.int (iI (((i : Nat) : Int)))]) ⟨hx, hb, hml, hown, ht⟩ v_RG_21 (c_RG_rangeCount l g h q n es  hn) ⟨Nat.le_of_ble_eq_true rfl, Nat.le_of_ble_eq_true rfl⟩ ⟨Nat.zero_le _, Nat.zero_le _⟩ hK hZ hS (hP.sub (ws' := [(h, .inr (1, [.ref q, .int (iI (((n : Nat) : Int)))])), (q, .inl (zI g, 2048, .inl (ai es)))]) [0, 1] rfl) rfl rfl rfl rfl hl.1 rfl (Nat.le_of_ble_eq_true rfl) d_RG_overlaps_4 (fun r_4 h_4 => ?_)
      subst h_4
      refine ix_icmp_ge (tgt := 41) hx hb d_RG_overlaps_7 (by decide) (by omega) (fun c_7 => ?_) (fun c_7 => ?_)
      · refine lv_iconst (v := iI 0) hx hb d_RG_overlaps_41 rfl ?_
        subst hQ
        exact W.zret (v := iI 0) hx hb hr (by decide) (fun t h9 hW => ⟨_, rfl, Or.inr ⟨fun ⟨j, a9, b9⟩ => h3 j (by omega) b9, rfl⟩, h9⟩) (fun _ h9 => by cases h9) d_RG_overlaps_42
      · refine lv_aload_n hx hb d_RG_overlaps_10 rfl (lv_at hl 1 rfl) ?_
        refine lv_aload_n hx hb d_RG_overlaps_11 rfl (lv_at hl 0 rfl) ?_
        refine lv_iload_n hx hb d_RG_overlaps_12 rfl (lv_at hl 2 rfl) ?_
        refine zcV (ci := 1) (q0 := 0) (As := [.int (iI (((i : Nat) : Int)))]) (rest := [.ref h2]) ⟨hx, hb, hml, hown, ht⟩ v_RG_25 (c_RG_lowOf l g h q n es i (by omega)) ⟨Nat.le_of_ble_eq_true rfl, Nat.le_of_ble_eq_true rfl⟩ ⟨Nat.zero_le _, Nat.zero_le _⟩ hK hZ hS (hP.sub (ws' := [(h, .inr (1, [.ref q, .int (iI (((n : Nat) : Int)))])), (q, .inl (zI g, 2048, .inl (ai es)))]) [0, 1] rfl) rfl rfl rfl rfl hl.1 rfl (Nat.le_of_ble_eq_true rfl) d_RG_overlaps_13 (fun r_13 h_13 => ?_)
        subst h_13
        have f1 := hbd (2 * i) (by omega)
        refine zcV (ci := 1) (q0 := 0) (As := [.int (iI (es (2 * i)))]) (rest := []) ⟨hx, hb, hml, hown, ht⟩ v_RG_28 (c_RG_firstFrom l g h2 q2 n2 es2 (es (2 * i)) ha2 hn2 hbd2 (by omega)) ⟨Nat.le_of_ble_eq_true rfl, Nat.le_of_ble_eq_true rfl⟩ ⟨Nat.zero_le _, Nat.zero_le _⟩ hK hZ hS (hP.sub (ws' := [(h2, .inr (1, [.ref q2, .int (iI (((n2 : Nat) : Int)))])), (q2, .inl (zI g, 2048, .inl (ai es2)))]) [2, 3] rfl) rfl rfl rfl rfl hl.1 rfl (Nat.le_of_ble_eq_true rfl) d_RG_overlaps_16 (fun r_16 h_16 => ?_)
        obtain ⟨m9, rfl, hm9, hm1, hm2⟩ := h_16
        refine lv_istore_n (lv' := [(3, .int (iI m9)), (0, .ref h), (1, .ref h2), (2, .int (iI (((i : Nat) : Int))))]) hx hb d_RG_overlaps_19 rfl hl (by decide) rfl (fun ls hl => ?_)
        refine lv_iload_n hx hb d_RG_overlaps_20 rfl (lv_at hl 0 rfl) ?_
        refine ix_if_lt (tgt := 35) hx hb d_RG_overlaps_21 (by decide) (by omega) (fun c_21 => ?_) (fun c_21 => ?_)
        · refine lv_iinc (v := iI ((((i : Nat) : Int)) + 1)) (lv' := [(2, .int (iI ((((i : Nat) : Int)) + 1))), (3, .int (iI m9)), (0, .ref h), (1, .ref h2)]) hx hb d_RG_overlaps_35 hl (k := 3) rfl (iI_add _ _) (by decide) rfl (fun ls hl => ?_)
          refine lv_goto (tgt := 2) hx hb d_RG_overlaps_38 (by decide) ?_
          exact ih (i + 1) ls (by omega) (lv_sub hl [2, 3, 0] rfl) (by omega) (by exact fun j hj => (Nat.lt_or_ge j i).elim (fun q9 => h3 j q9) (fun q9 => by rw [show j = i by omega]; intro ⟨m8, a8, b8, d8⟩; have := FF_eq a8 hm9; omega))
        · refine lv_iload_n hx hb d_RG_overlaps_24 rfl (lv_at hl 0 rfl) ?_
          refine lv_aload_n hx hb d_RG_overlaps_25 rfl (lv_at hl 1 rfl) ?_
          refine lv_iload_n hx hb d_RG_overlaps_26 rfl (lv_at hl 3 rfl) ?_
          refine zcV (ci := 1) (q0 := 0) (As := [.int (iI (((i : Nat) : Int)))]) (rest := [.int (iI m9)]) ⟨hx, hb, hml, hown, ht⟩ v_RG_31 (c_RG_highOf l g h q n es i (by omega)) ⟨Nat.le_of_ble_eq_true rfl, Nat.le_of_ble_eq_true rfl⟩ ⟨Nat.zero_le _, Nat.zero_le _⟩ hK hZ hS (hP.sub (ws' := [(h, .inr (1, [.ref q, .int (iI (((n : Nat) : Int)))])), (q, .inl (zI g, 2048, .inl (ai es)))]) [0, 1] rfl) rfl rfl rfl rfl hl.1 rfl (Nat.le_of_ble_eq_true rfl) d_RG_overlaps_27 (fun r_27 h_27 => ?_)
          subst h_27
          have f2 := hbd (2 * i + 1) (by omega)
          refine ix_icmp_gt (tgt := 35) hx hb d_RG_overlaps_30 (by decide) (by omega) (fun c_30 => ?_) (fun c_30 => ?_)
          · refine lv_iinc (v := iI ((((i : Nat) : Int)) + 1)) (lv' := [(2, .int (iI ((((i : Nat) : Int)) + 1))), (3, .int (iI m9)), (0, .ref h), (1, .ref h2)]) hx hb d_RG_overlaps_35 hl (k := 3) rfl (iI_add _ _) (by decide) rfl (fun ls hl => ?_)
            refine lv_goto (tgt := 2) hx hb d_RG_overlaps_38 (by decide) ?_
            exact ih (i + 1) ls (by omega) (lv_sub hl [2, 3, 0] rfl) (by omega) (by exact fun j hj => (Nat.lt_or_ge j i).elim (fun q9 => h3 j q9) (fun q9 => by rw [show j = i by omega]; intro ⟨m8, a8, b8, d8⟩; have := FF_eq a8 hm9; omega))
          · refine lv_iconst (v := iI 1) hx hb d_RG_overlaps_33 rfl ?_
            subst hQ
            exact W.zret (v := iI 1) hx hb hr (by decide) (fun t h9 hW => ⟨_, rfl, Or.inl ⟨⟨i, by omega, m9, hm9, by omega, by omega⟩, rfl⟩, h9⟩) (fun _ h9 => by cases h9) d_RG_overlaps_34
  refine lv_iconst (v := iI 0) hx hb d_RG_overlaps_0 rfl ?_
  refine lv_istore_n (lv' := [(2, .int (iI 0)), (0, .ref h), (1, .ref h2)]) hx hb d_RG_overlaps_1 rfl hl (by decide) rfl (fun ls hl => ?_)
  exact J2 (_ + 1) 0 ls (Nat.lt_succ_self _) (lv_sub hl [1, 2, 0] rfl) (by omega) (by exact fun j hj => absurd hj (by omega))
end
section
set_option maxHeartbeats 4000000 in
set_option maxRecDepth 100000 in
theorem c_RG_empty (l : Launch) (g : zG) (sz : Nat) (h q : Nat) (n : Nat) (es : Nat → Int)  : Met l y_RG_empty w_RG_empty { frames := 0, cells := 0, slots := 0, locals := 0 } (zPw g [.ref h] [(h, .inr (1, [.ref q, .int (iI (((n : Nat) : Int)))])), (q, .inl (zI g, 2048, .inl (ai es)))] [] sz) (va_Qv (fun w => w = [(h, .inr (1, [.ref q, .int (iI (((0 : Nat) : Int)))])), (q, .inl (zI g, 2048, .inl (ai es)))]) (zB g (va_A [(h, .inr (1, [.ref q, .int (iI (((n : Nat) : Int)))])), (q, .inl (zI g, 2048, .inl (ai es)))] sz)) (va_A [(h, .inr (1, [.ref q, .int (iI (((n : Nat) : Int)))])), (q, .inl (zI g, 2048, .inl (ai es)))] sz)) 0 0 (va_A [(h, .inr (1, [.ref q, .int (iI (((n : Nat) : Int)))])), (q, .inl (zI g, 2048, .inl (ai es)))] sz) := by
  refine Met.ofW (cc := b_RG_empty) (maxL := 1) (ret := none) (by decide) rfl ?_
  intro p e s m args below meth cd s₁ B hml hv
  obtain ⟨hargs, hsz, hP, hK, hD0, hZ, hO0, hAp⟩ := hv
  have hx := B.exec
  have hb := B.bytes
  have hr := B.returns
  have ht : ∀ w ∈ lw_ok, w.before args s = true := fun w h => atoms_spec (ws := w_RG_empty) B.pre w (List.mem_cons_of_mem _ h)
  have hown : s.vm.findClass R_RG = some m.cls := findClass_of_methodNamed B.named
  have hlocks := B.notSynchronized
  subst hsz
  have hD := hD0.self (sz := s.heap.size)
  generalize hAe : va_A [(h, .inr (1, [.ref q, .int (iI (((n : Nat) : Int)))])), (q, .inl (zI g, 2048, .inl (ai es)))] s.heap.size = A at hD hZ hAp ⊢
  have hA : ∀ q : Nat, s.heap.size ≤ q → A q := fun q h => by rw [← hAe]; exact Or.inr h
  have hS : va_S A s.heap s.heap [] := va_S.rf
  generalize hQ : MQ below _ args s 0 0 _ = Q
  have hl := lv_entry ([.ref h]) (n := 1) (Nat.le_of_ble_eq_true rfl)
  rw [show entryFrame m args 1 = entryFrame m ([.ref h] : List Value).toArray 1 by rw [hargs], lg_entry_eq]
  generalize (lg_sl ([.ref h]) ++ List.replicate (1 - (lg_sl ([.ref h])).length) Slot.unset).toArray = ls at hl ⊢
  have hl : lv_has ls 1 [(0, .ref h)] := hl
  obtain ⟨H, locs, hHe, hLe⟩ : ∃ (H : Heap) (locs : List Loc), H = s.heap ∧ locs = [] := ⟨_, _, rfl, rfl⟩
  rw [show W p l e _ s m args below meth cd s.heap [] 0 0 Q = W p l e _ s m args below meth cd H locs 0 0 Q by rw [hHe, hLe]]
  rw [← hHe] at hP
  have hS : va_S A s.heap H locs := by rw [hHe, hLe]; exact hS
  refine lv_aload_n hx hb d_RG_empty_0 rfl (lv_at hl 0 rfl) ?_
  refine lv_iconst (v := iI 0) hx hb d_RG_empty_1 rfl ?_
  refine va_put (D := g.1) (ci := 1) (v := .int (iI 0)) (ty := .int) (C := R_RG) (T := F_RG) (N := 2) hx hb ht i_RG t_RG t_RG_ok n_RG hown hK hP hD hS 0 rfl rfl 1 (by decide) (ht _ k_94) (fun _ h9 => h9) rfl (by decide +kernel) rfl rfl (Nat.le_of_ble_eq_true rfl) d_RG_empty_2 (fun H locs hP hD hS => ?_)
  have hP : va_P g.1 classes [(h, .inr (1, [.ref q, .int (iI 0)])), (q, .inl (zI g, 2048, .inl (ai es)))] H := hP
  have hD : va_D A [(h, .inr (1, [.ref q, .int (iI 0)])), (q, .inl (zI g, 2048, .inl (ai es)))] := hD
  subst hQ
  exact W.vret hx hb hr (fun t h9 hW => ⟨⟨_, rfl, rfl, by rw [h9]; exact hP, va_K.moved hW.alike hK, hD⟩, hS.F h9⟩) hS.2.2 d_RG_empty_5
set_option maxHeartbeats 4000000 in
set_option maxRecDepth 100000 in
theorem c_RG_insert (l : Launch) (g : zG) (sz : Nat) (h q : Nat) (n : Nat) (es : Nat → Int) (low high : Int) (ha : asc es n) (hn : n ≤ 2048) (hbd : ∀ i, i < n → 0 ≤ es i ∧ es i ≤ 1114112) (hlo : 0 ≤ low) (hhi : high ≤ 1114111) (hlh : low ≤ high) (Bs : List Int) (hB : ∀ i, i < n → es i ∈ Bs) (hB1 : low ∈ Bs) (hB2 : high + 1 ∈ Bs) (hBl : Bs.length ≤ 2048) : Met l y_RG_insert w_RG_insert { frames := 1, cells := 0, slots := 0, locals := 24 } (zPw g [.ref h, .int (iI low), .int (iI high)] [(h, .inr (1, [.ref q, .int (iI (((n : Nat) : Int)))])), (q, .inl (zI g, 2048, .inl (ai es)))] [] sz) (va_Qv (fun w => ∃ (e2 : Nat → Int) (n2 : Nat), w = [(h, .inr (1, [.ref q, .int (iI (((n2 : Nat) : Int)))])), (q, .inl (zI g, 2048, .inl (ai e2)))] ∧ Ins es n low high e2 n2) (zB g (va_A [(h, .inr (1, [.ref q, .int (iI (((n : Nat) : Int)))])), (q, .inl (zI g, 2048, .inl (ai es)))] sz)) (va_A [(h, .inr (1, [.ref q, .int (iI (((n : Nat) : Int)))])), (q, .inl (zI g, 2048, .inl (ai es)))] sz)) 0 0 (va_A [(h, .inr (1, [.ref q, .int (iI (((n : Nat) : Int)))])), (q, .inl (zI g, 2048, .inl (ai es)))] sz) := by
  refine Met.ofW (cc := b_RG_insert) (maxL := 9) (ret := none) (by decide) rfl ?_
  intro p e s m args below meth cd s₁ B hml hv
  obtain ⟨hargs, hsz, hP, hK, hD0, hZ, hO0, hAp⟩ := hv
  have hx := B.exec
  have hb := B.bytes
  have hr := B.returns
  have ht : ∀ w ∈ lw_ok, w.before args s = true := fun w h => atoms_spec (ws := w_RG_insert) B.pre w (List.mem_cons_of_mem _ h)
  have hown : s.vm.findClass R_RG = some m.cls := findClass_of_methodNamed B.named
  have hlocks := B.notSynchronized
  subst hsz
  have hD := hD0.self (sz := s.heap.size)
  generalize hAe : va_A [(h, .inr (1, [.ref q, .int (iI (((n : Nat) : Int)))])), (q, .inl (zI g, 2048, .inl (ai es)))] s.heap.size = A at hD hZ hAp ⊢
  have hA : ∀ q : Nat, s.heap.size ≤ q → A q := fun q h => by rw [← hAe]; exact Or.inr h
  have hS : va_S A s.heap s.heap [] := va_S.rf
  generalize hQ : MQ below _ args s 0 0 _ = Q
  have hl := lv_entry ([.ref h, .int (iI low), .int (iI high)]) (n := 9) (Nat.le_of_ble_eq_true rfl)
  rw [show entryFrame m args 9 = entryFrame m ([.ref h, .int (iI low), .int (iI high)] : List Value).toArray 9 by rw [hargs], lg_entry_eq]
  generalize (lg_sl ([.ref h, .int (iI low), .int (iI high)]) ++ List.replicate (9 - (lg_sl ([.ref h, .int (iI low), .int (iI high)])).length) Slot.unset).toArray = ls at hl ⊢
  have hl : lv_has ls 9 [(0, .ref h), (1, .int (iI low)), (2, .int (iI high))] := hl
  obtain ⟨H, locs, hHe, hLe⟩ : ∃ (H : Heap) (locs : List Loc), H = s.heap ∧ locs = [] := ⟨_, _, rfl, rfl⟩
  rw [show W p l e _ s m args below meth cd s.heap [] 0 0 Q = W p l e _ s m args below meth cd H locs 0 0 Q by rw [hHe, hLe]]
  rw [← hHe] at hP
  have hS : va_S A s.heap H locs := by rw [hHe, hLe]; exact hS
  have J42 : ∀ (f t nl nh : Nat) (H : Heap) (locs : List Loc) (ls : Array Slot), lv_has ls 9 [(0, .ref h), (1, .int (iI low)), (2, .int (iI high)), (3, .int (iI (((f : Nat) : Int)))), (4, .int (iI (((t : Nat) : Int)))), (5, .int (iI (((nl : Nat) : Int))))] → (Up es n (low - 1) f) → (Up es n (high + 1) t) → (nl + f % 2 = 1) → (nh + t % 2 = 1) → va_P g.1 classes [(h, .inr (1, [.ref q, .int (iI (((n : Nat) : Int)))])), (q, .inl (zI g, 2048, .inl (ai es)))] H → va_D A [(h, .inr (1, [.ref q, .int (iI (((n : Nat) : Int)))])), (q, .inl (zI g, 2048, .inl (ai es)))] → va_S A s.heap H locs → W p l e (headSpec w_RG_insert { frames := 1, cells := 0, slots := 0, locals := 24 }).room s m args below meth cd H locs 0 0 Q (F0 m 42 ls [.int (iI (((nh : Nat) : Int)))]) := by
    intro f t nl nh H locs ls hl hf htt hnl hnh hP hD hS
    have hf1 := hf.1
    have ht1 := htt.1
    have hft := Up_mono hf htt (by omega)
    refine lv_istore (lv' := [(6, .int (iI (((nh : Nat) : Int)))), (0, .ref h), (1, .int (iI low)), (2, .int (iI high)), (3, .int (iI (((f : Nat) : Int)))), (4, .int (iI (((t : Nat) : Int)))), (5, .int (iI (((nl : Nat) : Int))))]) hx hb d_RG_insert_42 hl (by decide) rfl (fun ls hl => ?_)
    refine lv_iload_n hx hb d_RG_insert_44 rfl (lv_at hl 4 rfl) ?_
    refine lv_iload hx hb d_RG_insert_45 (lv_at hl 6 rfl) ?_
    refine ix_if_eq (tgt := 54) hx hb d_RG_insert_47 (by decide) (by omega) (fun c_47 => ?_) (fun c_47 => ?_)
    · obtain rfl : nl = 0 := by omega
      refine lv_iconst (v := iI 0) hx hb d_RG_insert_54 rfl ?_
      refine ix_iadd hx hb d_RG_insert_55 ?_
      refine lv_iload hx hb d_RG_insert_56 (lv_at hl 0 rfl) ?_
      refine ix_if_eq (tgt := 65) hx hb d_RG_insert_58 (by decide) (by omega) (fun c_58 => ?_) (fun c_58 => ?_)
      · obtain rfl : nh = 0 := by omega
        refine lv_iconst (v := iI 0) hx hb d_RG_insert_65 rfl ?_
        refine ix_iadd hx hb d_RG_insert_66 ?_
        refine lv_istore (lv' := [(7, .int (iI (((((f : Nat) : Int)) + 0) + 0))), (6, .int (iI 0)), (0, .ref h), (1, .int (iI low)), (2, .int (iI high)), (3, .int (iI (((f : Nat) : Int)))), (4, .int (iI (((t : Nat) : Int)))), (5, .int (iI 0))]) hx hb d_RG_insert_67 hl (by decide) rfl (fun ls hl => ?_)
        refine lv_iload hx hb d_RG_insert_69 (lv_at hl 0 rfl) ?_
        refine lv_aload_n hx hb d_RG_insert_71 rfl (lv_at hl 2 rfl) ?_
        refine va_get (D := g.1) (ci := 1) (v := .int (iI (((n : Nat) : Int)))) (C := R_RG) (T := F_RG) (N := 2) hx hb ht i_RG hown hK hP 0 rfl rfl 1 (by decide) (ht _ k_94) (fun _ h9 => h9) rfl d_RG_insert_72 ?_
        refine ix_iadd hx hb d_RG_insert_75 ?_
        refine lv_iload hx hb d_RG_insert_76 (lv_at hl 6 rfl) ?_
        refine ix_isub hx hb d_RG_insert_78 ?_
        refine lv_istore (lv' := [(8, .int (iI (((((((f : Nat) : Int)) + 0) + 0) + (((n : Nat) : Int))) - (((t : Nat) : Int))))), (7, .int (iI (((((f : Nat) : Int)) + 0) + 0))), (6, .int (iI 0)), (0, .ref h), (1, .int (iI low)), (2, .int (iI high)), (3, .int (iI (((f : Nat) : Int)))), (4, .int (iI (((t : Nat) : Int)))), (5, .int (iI 0))]) hx hb d_RG_insert_79 hl (by decide) rfl (fun ls hl => ?_)
        refine lv_iload hx hb d_RG_insert_81 (lv_at hl 0 rfl) ?_
        refine lv_aload_n hx hb d_RG_insert_83 rfl (lv_at hl 3 rfl) ?_
        refine va_get (D := g.1) (ci := 1) (v := .ref q) (C := R_RG) (T := F_RG) (N := 2) hx hb ht i_RG hown hK hP 0 rfl rfl 0 (by decide) (ht _ k_93) (fun _ h9 => h9) rfl d_RG_insert_84 ?_
        refine ix_alen hx hb hK hP 1 0 rfl rfl 2048 rfl d_RG_insert_87 ?_
        refine ix_icmp_le (tgt := 92) hx hb d_RG_insert_88 (by decide) (by omega) (fun c_88 => ?_) (fun c_88 => ?_)
        · refine lv_aload_n hx hb d_RG_insert_92 rfl (lv_at hl 3 rfl) ?_
          refine va_get (D := g.1) (ci := 1) (v := .ref q) (C := R_RG) (T := F_RG) (N := 2) hx hb ht i_RG hown hK hP 0 rfl rfl 0 (by decide) (ht _ k_93) (fun _ h9 => h9) rfl d_RG_insert_93 ?_
          refine lv_iload hx hb d_RG_insert_96 (lv_at hl 7 rfl) ?_
          refine lv_aload_n hx hb d_RG_insert_98 rfl (lv_at hl 3 rfl) ?_
          refine va_get (D := g.1) (ci := 1) (v := .ref q) (C := R_RG) (T := F_RG) (N := 2) hx hb ht i_RG hown hK hP 0 rfl rfl 0 (by decide) (ht _ k_93) (fun _ h9 => h9) rfl d_RG_insert_99 ?_
          refine lv_iload hx hb d_RG_insert_102 (lv_at hl 1 rfl) ?_
          refine lv_aload_n hx hb d_RG_insert_104 rfl (lv_at hl 3 rfl) ?_
          refine va_get (D := g.1) (ci := 1) (v := .int (iI (((n : Nat) : Int)))) (C := R_RG) (T := F_RG) (N := 2) hx hb ht i_RG hown hK hP 0 rfl rfl 1 (by decide) (ht _ k_94) (fun _ h9 => h9) rfl d_RG_insert_105 ?_
          refine lv_iload hx hb d_RG_insert_108 (lv_at hl 7 rfl) ?_
          refine ix_isub hx hb d_RG_insert_110 ?_
          refine ix_copyi hx hb (by rw [hml]; exact hl.1.symm) hown (ht _ k_147) (ht _ k_149) (ht _ k_148) (ht _ k_6) hK hP hD hS 1 0 rfl rfl t ((f + 0) + 0) (n - t) (by omega) (Nat.le_of_ble_eq_true rfl) (Nat.le_of_ble_eq_true rfl) d_RG_insert_111 (fun H locs hP hD hS => ?_)
          have hP : va_P g.1 classes [(h, .inr (1, [.ref q, .int (iI (((n : Nat) : Int)))])), (q, .inl (zI g, 2048, .inl (ai (va_cpy es es t ((f + 0) + 0) (n - t)))))] H := hP
          have hD : va_D A [(h, .inr (1, [.ref q, .int (iI (((n : Nat) : Int)))])), (q, .inl (zI g, 2048, .inl (ai (va_cpy es es t ((f + 0) + 0) (n - t)))))] := hD
          refine lv_iload hx hb d_RG_insert_114 (lv_at hl 8 rfl) ?_
          refine ix_if_eq (tgt := 126) hx hb d_RG_insert_116 (by decide) (by omega) (fun c_116 => ?_) (fun c_116 => ?_)
          · refine lv_iload hx hb d_RG_insert_126 (lv_at hl 2 rfl) ?_
            refine ix_if_eq (tgt := 143) hx hb d_RG_insert_128 (by decide) (by omega) (fun c_128 => ?_) (fun c_128 => ?_)
            · refine lv_aload_n hx hb d_RG_insert_143 rfl (lv_at hl 3 rfl) ?_
              refine lv_iload hx hb d_RG_insert_144 (lv_at hl 0 rfl) ?_
              refine va_put (D := g.1) (ci := 1) (v := .int (iI (((((((f : Nat) : Int)) + 0) + 0) + (((n : Nat) : Int))) - (((t : Nat) : Int))))) (ty := .int) (C := R_RG) (T := F_RG) (N := 2) hx hb ht i_RG t_RG t_RG_ok n_RG hown hK hP hD hS 0 rfl rfl 1 (by decide) (ht _ k_94) (fun _ h9 => h9) rfl (by decide +kernel) rfl rfl (Nat.le_of_ble_eq_true rfl) d_RG_insert_146 (fun H locs hP hD hS => ?_)
              have hP : va_P g.1 classes [(h, .inr (1, [.ref q, .int (iI (((((((f : Nat) : Int)) + 0) + 0) + (((n : Nat) : Int))) - (((t : Nat) : Int))))])), (q, .inl (zI g, 2048, .inl (ai (va_cpy es es t ((f + 0) + 0) (n - t)))))] H := hP
              have hD : va_D A [(h, .inr (1, [.ref q, .int (iI (((((((f : Nat) : Int)) + 0) + 0) + (((n : Nat) : Int))) - (((t : Nat) : Int))))])), (q, .inl (zI g, 2048, .inl (ai (va_cpy es es t ((f + 0) + 0) (n - t)))))] := hD
              rw [show ((((((f : Nat) : Int)) + 0) + 0) + (((n : Nat) : Int))) - (((t : Nat) : Int)) = ((f + 0 + 0 + (n - t) : Nat) : Int) by omega] at hP hD
              subst hQ
              exact W.vret hx hb hr (fun t h9 hW => ⟨⟨_, rfl, ⟨_, _, rfl, Ins_of ha hf htt (by omega) hnl hnh⟩, by rw [h9]; exact hP, va_K.moved hW.alike hK, hD⟩, hS.F h9⟩) hS.2.2 d_RG_insert_149
            · exact absurd c_128 (by decide)
          · exact absurd c_116 (by decide)
        · exact absurd c_88 (by have q9 := Ins_len (Ins_of ha hf htt (by omega) hnl hnh) Bs hB hB1 hB2; omega)
      · obtain rfl : nh = 1 := by omega
        refine lv_iconst (v := iI 1) hx hb d_RG_insert_61 rfl ?_
        refine lv_goto (tgt := 66) hx hb d_RG_insert_62 (by decide) ?_
        refine ix_iadd hx hb d_RG_insert_66 ?_
        refine lv_istore (lv' := [(7, .int (iI (((((f : Nat) : Int)) + 0) + 1))), (6, .int (iI 1)), (0, .ref h), (1, .int (iI low)), (2, .int (iI high)), (3, .int (iI (((f : Nat) : Int)))), (4, .int (iI (((t : Nat) : Int)))), (5, .int (iI 0))]) hx hb d_RG_insert_67 hl (by decide) rfl (fun ls hl => ?_)
        refine lv_iload hx hb d_RG_insert_69 (lv_at hl 0 rfl) ?_
        refine lv_aload_n hx hb d_RG_insert_71 rfl (lv_at hl 2 rfl) ?_
        refine va_get (D := g.1) (ci := 1) (v := .int (iI (((n : Nat) : Int)))) (C := R_RG) (T := F_RG) (N := 2) hx hb ht i_RG hown hK hP 0 rfl rfl 1 (by decide) (ht _ k_94) (fun _ h9 => h9) rfl d_RG_insert_72 ?_
        refine ix_iadd hx hb d_RG_insert_75 ?_
        refine lv_iload hx hb d_RG_insert_76 (lv_at hl 6 rfl) ?_
        refine ix_isub hx hb d_RG_insert_78 ?_
        refine lv_istore (lv' := [(8, .int (iI (((((((f : Nat) : Int)) + 0) + 1) + (((n : Nat) : Int))) - (((t : Nat) : Int))))), (7, .int (iI (((((f : Nat) : Int)) + 0) + 1))), (6, .int (iI 1)), (0, .ref h), (1, .int (iI low)), (2, .int (iI high)), (3, .int (iI (((f : Nat) : Int)))), (4, .int (iI (((t : Nat) : Int)))), (5, .int (iI 0))]) hx hb d_RG_insert_79 hl (by decide) rfl (fun ls hl => ?_)
        refine lv_iload hx hb d_RG_insert_81 (lv_at hl 0 rfl) ?_
        refine lv_aload_n hx hb d_RG_insert_83 rfl (lv_at hl 3 rfl) ?_
        refine va_get (D := g.1) (ci := 1) (v := .ref q) (C := R_RG) (T := F_RG) (N := 2) hx hb ht i_RG hown hK hP 0 rfl rfl 0 (by decide) (ht _ k_93) (fun _ h9 => h9) rfl d_RG_insert_84 ?_
        refine ix_alen hx hb hK hP 1 0 rfl rfl 2048 rfl d_RG_insert_87 ?_
        refine ix_icmp_le (tgt := 92) hx hb d_RG_insert_88 (by decide) (by omega) (fun c_88 => ?_) (fun c_88 => ?_)
        · refine lv_aload_n hx hb d_RG_insert_92 rfl (lv_at hl 3 rfl) ?_
          refine va_get (D := g.1) (ci := 1) (v := .ref q) (C := R_RG) (T := F_RG) (N := 2) hx hb ht i_RG hown hK hP 0 rfl rfl 0 (by decide) (ht _ k_93) (fun _ h9 => h9) rfl d_RG_insert_93 ?_
          refine lv_iload hx hb d_RG_insert_96 (lv_at hl 7 rfl) ?_
          refine lv_aload_n hx hb d_RG_insert_98 rfl (lv_at hl 3 rfl) ?_
          refine va_get (D := g.1) (ci := 1) (v := .ref q) (C := R_RG) (T := F_RG) (N := 2) hx hb ht i_RG hown hK hP 0 rfl rfl 0 (by decide) (ht _ k_93) (fun _ h9 => h9) rfl d_RG_insert_99 ?_
          refine lv_iload hx hb d_RG_insert_102 (lv_at hl 1 rfl) ?_
          refine lv_aload_n hx hb d_RG_insert_104 rfl (lv_at hl 3 rfl) ?_
          refine va_get (D := g.1) (ci := 1) (v := .int (iI (((n : Nat) : Int)))) (C := R_RG) (T := F_RG) (N := 2) hx hb ht i_RG hown hK hP 0 rfl rfl 1 (by decide) (ht _ k_94) (fun _ h9 => h9) rfl d_RG_insert_105 ?_
          refine lv_iload hx hb d_RG_insert_108 (lv_at hl 7 rfl) ?_
          refine ix_isub hx hb d_RG_insert_110 ?_
          refine ix_copyi hx hb (by rw [hml]; exact hl.1.symm) hown (ht _ k_147) (ht _ k_149) (ht _ k_148) (ht _ k_6) hK hP hD hS 1 0 rfl rfl t ((f + 0) + 1) (n - t) (by omega) (Nat.le_of_ble_eq_true rfl) (Nat.le_of_ble_eq_true rfl) d_RG_insert_111 (fun H locs hP hD hS => ?_)
          have hP : va_P g.1 classes [(h, .inr (1, [.ref q, .int (iI (((n : Nat) : Int)))])), (q, .inl (zI g, 2048, .inl (ai (va_cpy es es t ((f + 0) + 1) (n - t)))))] H := hP
          have hD : va_D A [(h, .inr (1, [.ref q, .int (iI (((n : Nat) : Int)))])), (q, .inl (zI g, 2048, .inl (ai (va_cpy es es t ((f + 0) + 1) (n - t)))))] := hD
          refine lv_iload hx hb d_RG_insert_114 (lv_at hl 8 rfl) ?_
          refine ix_if_eq (tgt := 126) hx hb d_RG_insert_116 (by decide) (by omega) (fun c_116 => ?_) (fun c_116 => ?_)
          · refine lv_iload hx hb d_RG_insert_126 (lv_at hl 2 rfl) ?_
            refine ix_if_eq (tgt := 143) hx hb d_RG_insert_128 (by decide) (by omega) (fun c_128 => ?_) (fun c_128 => ?_)
            · exact absurd c_128 (by decide)
            · refine lv_aload_n hx hb d_RG_insert_131 rfl (lv_at hl 3 rfl) ?_
              refine va_get (D := g.1) (ci := 1) (v := .ref q) (C := R_RG) (T := F_RG) (N := 2) hx hb ht i_RG hown hK hP 0 rfl rfl 0 (by decide) (ht _ k_93) (fun _ h9 => h9) rfl d_RG_insert_132 ?_
              refine lv_iload hx hb d_RG_insert_135 (lv_at hl 1 rfl) ?_
              refine lv_iconst (v := iI 1) hx hb d_RG_insert_137 rfl ?_
              refine ix_isub hx hb d_RG_insert_138 ?_
              refine lv_iload_n hx hb d_RG_insert_139 rfl (lv_at hl 5 rfl) ?_
              refine lv_iconst (v := iI 1) hx hb d_RG_insert_140 rfl ?_
              refine ix_iadd hx hb d_RG_insert_141 ?_
              refine ix_iast hx hb hK hP hD hS 1 0 rfl rfl (i := ((((((f : Nat) : Int)) + 0) + 1) - 1)) (((f + 0) + 1) - 1) (by omega) d_RG_insert_142 (fun H locs hP hD hS => ?_)
              have hP : va_P g.1 classes [(h, .inr (1, [.ref q, .int (iI (((n : Nat) : Int)))])), (q, .inl (zI g, 2048, .inl (ai (va_up (va_cpy es es t ((f + 0) + 1) (n - t)) (((f + 0) + 1) - 1) (high + 1)))))] H := hP
              have hD : va_D A [(h, .inr (1, [.ref q, .int (iI (((n : Nat) : Int)))])), (q, .inl (zI g, 2048, .inl (ai (va_up (va_cpy es es t ((f + 0) + 1) (n - t)) (((f + 0) + 1) - 1) (high + 1)))))] := hD
              refine lv_aload_n hx hb d_RG_insert_143 rfl (lv_at hl 3 rfl) ?_
              refine lv_iload hx hb d_RG_insert_144 (lv_at hl 0 rfl) ?_
              refine va_put (D := g.1) (ci := 1) (v := .int (iI (((((((f : Nat) : Int)) + 0) + 1) + (((n : Nat) : Int))) - (((t : Nat) : Int))))) (ty := .int) (C := R_RG) (T := F_RG) (N := 2) hx hb ht i_RG t_RG t_RG_ok n_RG hown hK hP hD hS 0 rfl rfl 1 (by decide) (ht _ k_94) (fun _ h9 => h9) rfl (by decide +kernel) rfl rfl (Nat.le_of_ble_eq_true rfl) d_RG_insert_146 (fun H locs hP hD hS => ?_)
              have hP : va_P g.1 classes [(h, .inr (1, [.ref q, .int (iI (((((((f : Nat) : Int)) + 0) + 1) + (((n : Nat) : Int))) - (((t : Nat) : Int))))])), (q, .inl (zI g, 2048, .inl (ai (va_up (va_cpy es es t ((f + 0) + 1) (n - t)) (((f + 0) + 1) - 1) (high + 1)))))] H := hP
              have hD : va_D A [(h, .inr (1, [.ref q, .int (iI (((((((f : Nat) : Int)) + 0) + 1) + (((n : Nat) : Int))) - (((t : Nat) : Int))))])), (q, .inl (zI g, 2048, .inl (ai (va_up (va_cpy es es t ((f + 0) + 1) (n - t)) (((f + 0) + 1) - 1) (high + 1)))))] := hD
              rw [show ((((((f : Nat) : Int)) + 0) + 1) + (((n : Nat) : Int))) - (((t : Nat) : Int)) = ((f + 0 + 1 + (n - t) : Nat) : Int) by omega] at hP hD
              subst hQ
              exact W.vret hx hb hr (fun t h9 hW => ⟨⟨_, rfl, ⟨_, _, rfl, Ins_of ha hf htt (by omega) hnl hnh⟩, by rw [h9]; exact hP, va_K.moved hW.alike hK, hD⟩, hS.F h9⟩) hS.2.2 d_RG_insert_149
          · exact absurd c_116 (by decide)
        · exact absurd c_88 (by have q9 := Ins_len (Ins_of ha hf htt (by omega) hnl hnh) Bs hB hB1 hB2; omega)
    · obtain rfl : nl = 1 := by omega
      refine lv_iconst (v := iI 1) hx hb d_RG_insert_50 rfl ?_
      refine lv_goto (tgt := 55) hx hb d_RG_insert_51 (by decide) ?_
      refine ix_iadd hx hb d_RG_insert_55 ?_
      refine lv_iload hx hb d_RG_insert_56 (lv_at hl 0 rfl) ?_
      refine ix_if_eq (tgt := 65) hx hb d_RG_insert_58 (by decide) (by omega) (fun c_58 => ?_) (fun c_58 => ?_)
      · obtain rfl : nh = 0 := by omega
        refine lv_iconst (v := iI 0) hx hb d_RG_insert_65 rfl ?_
        refine ix_iadd hx hb d_RG_insert_66 ?_
        refine lv_istore (lv' := [(7, .int (iI (((((f : Nat) : Int)) + 1) + 0))), (6, .int (iI 0)), (0, .ref h), (1, .int (iI low)), (2, .int (iI high)), (3, .int (iI (((f : Nat) : Int)))), (4, .int (iI (((t : Nat) : Int)))), (5, .int (iI 1))]) hx hb d_RG_insert_67 hl (by decide) rfl (fun ls hl => ?_)
        refine lv_iload hx hb d_RG_insert_69 (lv_at hl 0 rfl) ?_
        refine lv_aload_n hx hb d_RG_insert_71 rfl (lv_at hl 2 rfl) ?_
        refine va_get (D := g.1) (ci := 1) (v := .int (iI (((n : Nat) : Int)))) (C := R_RG) (T := F_RG) (N := 2) hx hb ht i_RG hown hK hP 0 rfl rfl 1 (by decide) (ht _ k_94) (fun _ h9 => h9) rfl d_RG_insert_72 ?_
        refine ix_iadd hx hb d_RG_insert_75 ?_
        refine lv_iload hx hb d_RG_insert_76 (lv_at hl 6 rfl) ?_
        refine ix_isub hx hb d_RG_insert_78 ?_
        refine lv_istore (lv' := [(8, .int (iI (((((((f : Nat) : Int)) + 1) + 0) + (((n : Nat) : Int))) - (((t : Nat) : Int))))), (7, .int (iI (((((f : Nat) : Int)) + 1) + 0))), (6, .int (iI 0)), (0, .ref h), (1, .int (iI low)), (2, .int (iI high)), (3, .int (iI (((f : Nat) : Int)))), (4, .int (iI (((t : Nat) : Int)))), (5, .int (iI 1))]) hx hb d_RG_insert_79 hl (by decide) rfl (fun ls hl => ?_)
        refine lv_iload hx hb d_RG_insert_81 (lv_at hl 0 rfl) ?_
        refine lv_aload_n hx hb d_RG_insert_83 rfl (lv_at hl 3 rfl) ?_
        refine va_get (D := g.1) (ci := 1) (v := .ref q) (C := R_RG) (T := F_RG) (N := 2) hx hb ht i_RG hown hK hP 0 rfl rfl 0 (by decide) (ht _ k_93) (fun _ h9 => h9) rfl d_RG_insert_84 ?_
        refine ix_alen hx hb hK hP 1 0 rfl rfl 2048 rfl d_RG_insert_87 ?_
        refine ix_icmp_le (tgt := 92) hx hb d_RG_insert_88 (by decide) (by omega) (fun c_88 => ?_) (fun c_88 => ?_)
        · refine lv_aload_n hx hb d_RG_insert_92 rfl (lv_at hl 3 rfl) ?_
          refine va_get (D := g.1) (ci := 1) (v := .ref q) (C := R_RG) (T := F_RG) (N := 2) hx hb ht i_RG hown hK hP 0 rfl rfl 0 (by decide) (ht _ k_93) (fun _ h9 => h9) rfl d_RG_insert_93 ?_
          refine lv_iload hx hb d_RG_insert_96 (lv_at hl 7 rfl) ?_
          refine lv_aload_n hx hb d_RG_insert_98 rfl (lv_at hl 3 rfl) ?_
          refine va_get (D := g.1) (ci := 1) (v := .ref q) (C := R_RG) (T := F_RG) (N := 2) hx hb ht i_RG hown hK hP 0 rfl rfl 0 (by decide) (ht _ k_93) (fun _ h9 => h9) rfl d_RG_insert_99 ?_
          refine lv_iload hx hb d_RG_insert_102 (lv_at hl 1 rfl) ?_
          refine lv_aload_n hx hb d_RG_insert_104 rfl (lv_at hl 3 rfl) ?_
          refine va_get (D := g.1) (ci := 1) (v := .int (iI (((n : Nat) : Int)))) (C := R_RG) (T := F_RG) (N := 2) hx hb ht i_RG hown hK hP 0 rfl rfl 1 (by decide) (ht _ k_94) (fun _ h9 => h9) rfl d_RG_insert_105 ?_
          refine lv_iload hx hb d_RG_insert_108 (lv_at hl 7 rfl) ?_
          refine ix_isub hx hb d_RG_insert_110 ?_
          refine ix_copyi hx hb (by rw [hml]; exact hl.1.symm) hown (ht _ k_147) (ht _ k_149) (ht _ k_148) (ht _ k_6) hK hP hD hS 1 0 rfl rfl t ((f + 1) + 0) (n - t) (by omega) (Nat.le_of_ble_eq_true rfl) (Nat.le_of_ble_eq_true rfl) d_RG_insert_111 (fun H locs hP hD hS => ?_)
          have hP : va_P g.1 classes [(h, .inr (1, [.ref q, .int (iI (((n : Nat) : Int)))])), (q, .inl (zI g, 2048, .inl (ai (va_cpy es es t ((f + 1) + 0) (n - t)))))] H := hP
          have hD : va_D A [(h, .inr (1, [.ref q, .int (iI (((n : Nat) : Int)))])), (q, .inl (zI g, 2048, .inl (ai (va_cpy es es t ((f + 1) + 0) (n - t)))))] := hD
          refine lv_iload hx hb d_RG_insert_114 (lv_at hl 8 rfl) ?_
          refine ix_if_eq (tgt := 126) hx hb d_RG_insert_116 (by decide) (by omega) (fun c_116 => ?_) (fun c_116 => ?_)
          · exact absurd c_116 (by decide)
          · refine lv_aload_n hx hb d_RG_insert_119 rfl (lv_at hl 3 rfl) ?_
            refine va_get (D := g.1) (ci := 1) (v := .ref q) (C := R_RG) (T := F_RG) (N := 2) hx hb ht i_RG hown hK hP 0 rfl rfl 0 (by decide) (ht _ k_93) (fun _ h9 => h9) rfl d_RG_insert_120 ?_
            refine lv_iload_n hx hb d_RG_insert_123 rfl (lv_at hl 6 rfl) ?_
            refine lv_iload_n hx hb d_RG_insert_124 rfl (lv_at hl 4 rfl) ?_
            refine ix_iast hx hb hK hP hD hS 1 0 rfl rfl (i := (((f : Nat) : Int))) f (by omega) d_RG_insert_125 (fun H locs hP hD hS => ?_)
            have hP : va_P g.1 classes [(h, .inr (1, [.ref q, .int (iI (((n : Nat) : Int)))])), (q, .inl (zI g, 2048, .inl (ai (va_up (va_cpy es es t ((f + 1) + 0) (n - t)) f low))))] H := hP
            have hD : va_D A [(h, .inr (1, [.ref q, .int (iI (((n : Nat) : Int)))])), (q, .inl (zI g, 2048, .inl (ai (va_up (va_cpy es es t ((f + 1) + 0) (n - t)) f low))))] := hD
            refine lv_iload hx hb d_RG_insert_126 (lv_at hl 2 rfl) ?_
            refine ix_if_eq (tgt := 143) hx hb d_RG_insert_128 (by decide) (by omega) (fun c_128 => ?_) (fun c_128 => ?_)
            · refine lv_aload_n hx hb d_RG_insert_143 rfl (lv_at hl 3 rfl) ?_
              refine lv_iload hx hb d_RG_insert_144 (lv_at hl 0 rfl) ?_
              refine va_put (D := g.1) (ci := 1) (v := .int (iI (((((((f : Nat) : Int)) + 1) + 0) + (((n : Nat) : Int))) - (((t : Nat) : Int))))) (ty := .int) (C := R_RG) (T := F_RG) (N := 2) hx hb ht i_RG t_RG t_RG_ok n_RG hown hK hP hD hS 0 rfl rfl 1 (by decide) (ht _ k_94) (fun _ h9 => h9) rfl (by decide +kernel) rfl rfl (Nat.le_of_ble_eq_true rfl) d_RG_insert_146 (fun H locs hP hD hS => ?_)
              have hP : va_P g.1 classes [(h, .inr (1, [.ref q, .int (iI (((((((f : Nat) : Int)) + 1) + 0) + (((n : Nat) : Int))) - (((t : Nat) : Int))))])), (q, .inl (zI g, 2048, .inl (ai (va_up (va_cpy es es t ((f + 1) + 0) (n - t)) f low))))] H := hP
              have hD : va_D A [(h, .inr (1, [.ref q, .int (iI (((((((f : Nat) : Int)) + 1) + 0) + (((n : Nat) : Int))) - (((t : Nat) : Int))))])), (q, .inl (zI g, 2048, .inl (ai (va_up (va_cpy es es t ((f + 1) + 0) (n - t)) f low))))] := hD
              rw [show ((((((f : Nat) : Int)) + 1) + 0) + (((n : Nat) : Int))) - (((t : Nat) : Int)) = ((f + 1 + 0 + (n - t) : Nat) : Int) by omega] at hP hD
              subst hQ
              exact W.vret hx hb hr (fun t h9 hW => ⟨⟨_, rfl, ⟨_, _, rfl, Ins_of ha hf htt (by omega) hnl hnh⟩, by rw [h9]; exact hP, va_K.moved hW.alike hK, hD⟩, hS.F h9⟩) hS.2.2 d_RG_insert_149
            · exact absurd c_128 (by decide)
        · exact absurd c_88 (by have q9 := Ins_len (Ins_of ha hf htt (by omega) hnl hnh) Bs hB hB1 hB2; omega)
      · obtain rfl : nh = 1 := by omega
        refine lv_iconst (v := iI 1) hx hb d_RG_insert_61 rfl ?_
        refine lv_goto (tgt := 66) hx hb d_RG_insert_62 (by decide) ?_
        refine ix_iadd hx hb d_RG_insert_66 ?_
        refine lv_istore (lv' := [(7, .int (iI (((((f : Nat) : Int)) + 1) + 1))), (6, .int (iI 1)), (0, .ref h), (1, .int (iI low)), (2, .int (iI high)), (3, .int (iI (((f : Nat) : Int)))), (4, .int (iI (((t : Nat) : Int)))), (5, .int (iI 1))]) hx hb d_RG_insert_67 hl (by decide) rfl (fun ls hl => ?_)
        refine lv_iload hx hb d_RG_insert_69 (lv_at hl 0 rfl) ?_
        refine lv_aload_n hx hb d_RG_insert_71 rfl (lv_at hl 2 rfl) ?_
        refine va_get (D := g.1) (ci := 1) (v := .int (iI (((n : Nat) : Int)))) (C := R_RG) (T := F_RG) (N := 2) hx hb ht i_RG hown hK hP 0 rfl rfl 1 (by decide) (ht _ k_94) (fun _ h9 => h9) rfl d_RG_insert_72 ?_
        refine ix_iadd hx hb d_RG_insert_75 ?_
        refine lv_iload hx hb d_RG_insert_76 (lv_at hl 6 rfl) ?_
        refine ix_isub hx hb d_RG_insert_78 ?_
        refine lv_istore (lv' := [(8, .int (iI (((((((f : Nat) : Int)) + 1) + 1) + (((n : Nat) : Int))) - (((t : Nat) : Int))))), (7, .int (iI (((((f : Nat) : Int)) + 1) + 1))), (6, .int (iI 1)), (0, .ref h), (1, .int (iI low)), (2, .int (iI high)), (3, .int (iI (((f : Nat) : Int)))), (4, .int (iI (((t : Nat) : Int)))), (5, .int (iI 1))]) hx hb d_RG_insert_79 hl (by decide) rfl (fun ls hl => ?_)
        refine lv_iload hx hb d_RG_insert_81 (lv_at hl 0 rfl) ?_
        refine lv_aload_n hx hb d_RG_insert_83 rfl (lv_at hl 3 rfl) ?_
        refine va_get (D := g.1) (ci := 1) (v := .ref q) (C := R_RG) (T := F_RG) (N := 2) hx hb ht i_RG hown hK hP 0 rfl rfl 0 (by decide) (ht _ k_93) (fun _ h9 => h9) rfl d_RG_insert_84 ?_
        refine ix_alen hx hb hK hP 1 0 rfl rfl 2048 rfl d_RG_insert_87 ?_
        refine ix_icmp_le (tgt := 92) hx hb d_RG_insert_88 (by decide) (by omega) (fun c_88 => ?_) (fun c_88 => ?_)
        · refine lv_aload_n hx hb d_RG_insert_92 rfl (lv_at hl 3 rfl) ?_
          refine va_get (D := g.1) (ci := 1) (v := .ref q) (C := R_RG) (T := F_RG) (N := 2) hx hb ht i_RG hown hK hP 0 rfl rfl 0 (by decide) (ht _ k_93) (fun _ h9 => h9) rfl d_RG_insert_93 ?_
          refine lv_iload hx hb d_RG_insert_96 (lv_at hl 7 rfl) ?_
          refine lv_aload_n hx hb d_RG_insert_98 rfl (lv_at hl 3 rfl) ?_
          refine va_get (D := g.1) (ci := 1) (v := .ref q) (C := R_RG) (T := F_RG) (N := 2) hx hb ht i_RG hown hK hP 0 rfl rfl 0 (by decide) (ht _ k_93) (fun _ h9 => h9) rfl d_RG_insert_99 ?_
          refine lv_iload hx hb d_RG_insert_102 (lv_at hl 1 rfl) ?_
          refine lv_aload_n hx hb d_RG_insert_104 rfl (lv_at hl 3 rfl) ?_
          refine va_get (D := g.1) (ci := 1) (v := .int (iI (((n : Nat) : Int)))) (C := R_RG) (T := F_RG) (N := 2) hx hb ht i_RG hown hK hP 0 rfl rfl 1 (by decide) (ht _ k_94) (fun _ h9 => h9) rfl d_RG_insert_105 ?_
          refine lv_iload hx hb d_RG_insert_108 (lv_at hl 7 rfl) ?_
          refine ix_isub hx hb d_RG_insert_110 ?_
          refine ix_copyi hx hb (by rw [hml]; exact hl.1.symm) hown (ht _ k_147) (ht _ k_149) (ht _ k_148) (ht _ k_6) hK hP hD hS 1 0 rfl rfl t ((f + 1) + 1) (n - t) (by omega) (Nat.le_of_ble_eq_true rfl) (Nat.le_of_ble_eq_true rfl) d_RG_insert_111 (fun H locs hP hD hS => ?_)
          have hP : va_P g.1 classes [(h, .inr (1, [.ref q, .int (iI (((n : Nat) : Int)))])), (q, .inl (zI g, 2048, .inl (ai (va_cpy es es t ((f + 1) + 1) (n - t)))))] H := hP
          have hD : va_D A [(h, .inr (1, [.ref q, .int (iI (((n : Nat) : Int)))])), (q, .inl (zI g, 2048, .inl (ai (va_cpy es es t ((f + 1) + 1) (n - t)))))] := hD
          refine lv_iload hx hb d_RG_insert_114 (lv_at hl 8 rfl) ?_
          refine ix_if_eq (tgt := 126) hx hb d_RG_insert_116 (by decide) (by omega) (fun c_116 => ?_) (fun c_116 => ?_)
          · exact absurd c_116 (by decide)
          · refine lv_aload_n hx hb d_RG_insert_119 rfl (lv_at hl 3 rfl) ?_
            refine va_get (D := g.1) (ci := 1) (v := .ref q) (C := R_RG) (T := F_RG) (N := 2) hx hb ht i_RG hown hK hP 0 rfl rfl 0 (by decide) (ht _ k_93) (fun _ h9 => h9) rfl d_RG_insert_120 ?_
            refine lv_iload_n hx hb d_RG_insert_123 rfl (lv_at hl 6 rfl) ?_
            refine lv_iload_n hx hb d_RG_insert_124 rfl (lv_at hl 4 rfl) ?_
            refine ix_iast hx hb hK hP hD hS 1 0 rfl rfl (i := (((f : Nat) : Int))) f (by omega) d_RG_insert_125 (fun H locs hP hD hS => ?_)
            have hP : va_P g.1 classes [(h, .inr (1, [.ref q, .int (iI (((n : Nat) : Int)))])), (q, .inl (zI g, 2048, .inl (ai (va_up (va_cpy es es t ((f + 1) + 1) (n - t)) f low))))] H := hP
            have hD : va_D A [(h, .inr (1, [.ref q, .int (iI (((n : Nat) : Int)))])), (q, .inl (zI g, 2048, .inl (ai (va_up (va_cpy es es t ((f + 1) + 1) (n - t)) f low))))] := hD
            refine lv_iload hx hb d_RG_insert_126 (lv_at hl 2 rfl) ?_
            refine ix_if_eq (tgt := 143) hx hb d_RG_insert_128 (by decide) (by omega) (fun c_128 => ?_) (fun c_128 => ?_)
            · exact absurd c_128 (by decide)
            · refine lv_aload_n hx hb d_RG_insert_131 rfl (lv_at hl 3 rfl) ?_
              refine va_get (D := g.1) (ci := 1) (v := .ref q) (C := R_RG) (T := F_RG) (N := 2) hx hb ht i_RG hown hK hP 0 rfl rfl 0 (by decide) (ht _ k_93) (fun _ h9 => h9) rfl d_RG_insert_132 ?_
              refine lv_iload hx hb d_RG_insert_135 (lv_at hl 1 rfl) ?_
              refine lv_iconst (v := iI 1) hx hb d_RG_insert_137 rfl ?_
              refine ix_isub hx hb d_RG_insert_138 ?_
              refine lv_iload_n hx hb d_RG_insert_139 rfl (lv_at hl 5 rfl) ?_
              refine lv_iconst (v := iI 1) hx hb d_RG_insert_140 rfl ?_
              refine ix_iadd hx hb d_RG_insert_141 ?_
              refine ix_iast hx hb hK hP hD hS 1 0 rfl rfl (i := ((((((f : Nat) : Int)) + 1) + 1) - 1)) (((f + 1) + 1) - 1) (by omega) d_RG_insert_142 (fun H locs hP hD hS => ?_)
              have hP : va_P g.1 classes [(h, .inr (1, [.ref q, .int (iI (((n : Nat) : Int)))])), (q, .inl (zI g, 2048, .inl (ai (va_up (va_up (va_cpy es es t ((f + 1) + 1) (n - t)) f low) (((f + 1) + 1) - 1) (high + 1)))))] H := hP
              have hD : va_D A [(h, .inr (1, [.ref q, .int (iI (((n : Nat) : Int)))])), (q, .inl (zI g, 2048, .inl (ai (va_up (va_up (va_cpy es es t ((f + 1) + 1) (n - t)) f low) (((f + 1) + 1) - 1) (high + 1)))))] := hD
              refine lv_aload_n hx hb d_RG_insert_143 rfl (lv_at hl 3 rfl) ?_
              refine lv_iload hx hb d_RG_insert_144 (lv_at hl 0 rfl) ?_
              refine va_put (D := g.1) (ci := 1) (v := .int (iI (((((((f : Nat) : Int)) + 1) + 1) + (((n : Nat) : Int))) - (((t : Nat) : Int))))) (ty := .int) (C := R_RG) (T := F_RG) (N := 2) hx hb ht i_RG t_RG t_RG_ok n_RG hown hK hP hD hS 0 rfl rfl 1 (by decide) (ht _ k_94) (fun _ h9 => h9) rfl (by decide +kernel) rfl rfl (Nat.le_of_ble_eq_true rfl) d_RG_insert_146 (fun H locs hP hD hS => ?_)
              have hP : va_P g.1 classes [(h, .inr (1, [.ref q, .int (iI (((((((f : Nat) : Int)) + 1) + 1) + (((n : Nat) : Int))) - (((t : Nat) : Int))))])), (q, .inl (zI g, 2048, .inl (ai (va_up (va_up (va_cpy es es t ((f + 1) + 1) (n - t)) f low) (((f + 1) + 1) - 1) (high + 1)))))] H := hP
              have hD : va_D A [(h, .inr (1, [.ref q, .int (iI (((((((f : Nat) : Int)) + 1) + 1) + (((n : Nat) : Int))) - (((t : Nat) : Int))))])), (q, .inl (zI g, 2048, .inl (ai (va_up (va_up (va_cpy es es t ((f + 1) + 1) (n - t)) f low) (((f + 1) + 1) - 1) (high + 1)))))] := hD
              rw [show ((((((f : Nat) : Int)) + 1) + 1) + (((n : Nat) : Int))) - (((t : Nat) : Int)) = ((f + 1 + 1 + (n - t) : Nat) : Int) by omega] at hP hD
              subst hQ
              exact W.vret hx hb hr (fun t h9 hW => ⟨⟨_, rfl, ⟨_, _, rfl, Ins_of ha hf htt (by omega) hnl hnh⟩, by rw [h9]; exact hP, va_K.moved hW.alike hK, hD⟩, hS.F h9⟩) hS.2.2 d_RG_insert_149
        · exact absurd c_88 (by have q9 := Ins_len (Ins_of ha hf htt (by omega) hnl hnh) Bs hB hB1 hB2; omega)
  have J28 : ∀ (f t nl : Nat) (H : Heap) (locs : List Loc) (ls : Array Slot), lv_has ls 9 [(0, .ref h), (1, .int (iI low)), (2, .int (iI high)), (3, .int (iI (((f : Nat) : Int)))), (4, .int (iI (((t : Nat) : Int))))] → (Up es n (low - 1) f) → (Up es n (high + 1) t) → (nl + f % 2 = 1) → va_P g.1 classes [(h, .inr (1, [.ref q, .int (iI (((n : Nat) : Int)))])), (q, .inl (zI g, 2048, .inl (ai es)))] H → va_D A [(h, .inr (1, [.ref q, .int (iI (((n : Nat) : Int)))])), (q, .inl (zI g, 2048, .inl (ai es)))] → va_S A s.heap H locs → W p l e (headSpec w_RG_insert { frames := 1, cells := 0, slots := 0, locals := 24 }).room s m args below meth cd H locs 0 0 Q (F0 m 28 ls [.int (iI (((nl : Nat) : Int)))]) := by
    intro f t nl H locs ls hl hf htt hnl hP hD hS
    have hf1 := hf.1
    have ht1 := htt.1
    have hft := Up_mono hf htt (by omega)
    refine lv_istore (lv' := [(5, .int (iI (((nl : Nat) : Int)))), (0, .ref h), (1, .int (iI low)), (2, .int (iI high)), (3, .int (iI (((f : Nat) : Int)))), (4, .int (iI (((t : Nat) : Int))))]) hx hb d_RG_insert_28 hl (by decide) rfl (fun ls hl => ?_)
    refine lv_iload hx hb d_RG_insert_30 (lv_at hl 5 rfl) ?_
    refine lv_iconst (v := iI 2) hx hb d_RG_insert_32 rfl ?_
    refine ix_irem hx hb d_RG_insert_33 (by omega) ?_
    refine ix_if_ne (tgt := 41) hx hb d_RG_insert_34 (by decide) (by omega) (fun c_34 => ?_) (fun c_34 => ?_)
    · refine lv_iconst (v := iI 0) hx hb d_RG_insert_41 rfl ?_
      exact J42 f t nl 0 _ _ ls (lv_sub hl [1, 2, 3, 4, 5, 0] rfl) (by exact hf) (by exact htt) (by exact hnl) (by omega) hP hD hS
    · refine lv_iconst (v := iI 1) hx hb d_RG_insert_37 rfl ?_
      refine lv_goto (tgt := 42) hx hb d_RG_insert_38 (by decide) ?_
      exact J42 f t nl 1 _ _ ls (lv_sub hl [1, 2, 3, 4, 5, 0] rfl) (by exact hf) (by exact htt) (by exact hnl) (by omega) hP hD hS
  refine lv_aload_n hx hb d_RG_insert_0 rfl (lv_at hl 0 rfl) ?_
  refine lv_iload_n hx hb d_RG_insert_1 rfl (lv_at hl 1 rfl) ?_
  refine lv_iconst (v := iI 1) hx hb d_RG_insert_2 rfl ?_
  refine ix_isub hx hb d_RG_insert_3 ?_
  refine zcV (ci := 1) (q0 := 0) (As := [.int (iI (low - 1))]) (rest := []) ⟨hx, hb, hml, hown, ht⟩ v_RG_17 (c_RG_edgesUpTo l g h q n es (low - 1) ha hn hbd (by omega)) ⟨Nat.le_of_ble_eq_true rfl, Nat.le_of_ble_eq_true rfl⟩ ⟨Nat.zero_le _, Nat.zero_le _⟩ hK hZ hS hP rfl rfl rfl rfl hl.1 rfl (Nat.le_of_ble_eq_true rfl) d_RG_insert_4 (fun r_4 h_4 => ?_)
  obtain ⟨k4, rfl, hk4⟩ := h_4
  have hkn4 := hk4.1
  refine lv_istore_n (lv' := [(3, .int (iI (((k4 : Nat) : Int)))), (0, .ref h), (1, .int (iI low)), (2, .int (iI high))]) hx hb d_RG_insert_7 rfl hl (by decide) rfl (fun ls hl => ?_)
  refine lv_aload_n hx hb d_RG_insert_8 rfl (lv_at hl 1 rfl) ?_
  refine lv_iload_n hx hb d_RG_insert_9 rfl (lv_at hl 3 rfl) ?_
  refine lv_iconst (v := iI 1) hx hb d_RG_insert_10 rfl ?_
  refine ix_iadd hx hb d_RG_insert_11 ?_
  refine zcV (ci := 1) (q0 := 0) (As := [.int (iI (high + 1))]) (rest := []) ⟨hx, hb, hml, hown, ht⟩ v_RG_17 (c_RG_edgesUpTo l g h q n es (high + 1) ha hn hbd (by omega)) ⟨Nat.le_of_ble_eq_true rfl, Nat.le_of_ble_eq_true rfl⟩ ⟨Nat.zero_le _, Nat.zero_le _⟩ hK hZ hS hP rfl rfl rfl rfl hl.1 rfl (Nat.le_of_ble_eq_true rfl) d_RG_insert_12 (fun r_12 h_12 => ?_)
  obtain ⟨k12, rfl, hk12⟩ := h_12
  have hkn12 := hk12.1
  refine lv_istore (lv' := [(4, .int (iI (((k12 : Nat) : Int)))), (3, .int (iI (((k4 : Nat) : Int)))), (0, .ref h), (1, .int (iI low)), (2, .int (iI high))]) hx hb d_RG_insert_15 hl (by decide) rfl (fun ls hl => ?_)
  refine lv_iload_n hx hb d_RG_insert_17 rfl (lv_at hl 1 rfl) ?_
  refine lv_iconst (v := iI 2) hx hb d_RG_insert_18 rfl ?_
  refine ix_irem hx hb d_RG_insert_19 (by omega) ?_
  refine ix_if_ne (tgt := 27) hx hb d_RG_insert_20 (by decide) (by omega) (fun c_20 => ?_) (fun c_20 => ?_)
  · refine lv_iconst (v := iI 0) hx hb d_RG_insert_27 rfl ?_
    exact J28 k4 k12 0 _ _ ls (lv_sub hl [2, 3, 4, 1, 0] rfl) (by exact hk4) (by exact hk12) (by omega) hP hD hS
  · refine lv_iconst (v := iI 1) hx hb d_RG_insert_23 rfl ?_
    refine lv_goto (tgt := 28) hx hb d_RG_insert_24 (by decide) ?_
    exact J28 k4 k12 1 _ _ ls (lv_sub hl [2, 3, 4, 1, 0] rfl) (by exact hk4) (by exact hk12) (by omega) hP hD hS
set_option maxHeartbeats 4000000 in
set_option maxRecDepth 100000 in
theorem c_RG_insertAll (l : Launch) (g : zG) (sz : Nat) (h q : Nat) (n : Nat) (es : Nat → Int) (h2 q2 n2 : Nat) (es2 : Nat → Int) (ha : asc es n) (hn : n ≤ 2048) (hbd : ∀ i, i < n → 0 ≤ es i ∧ es i ≤ 1114112) (ha2 : asc es2 n2) (hn2 : n2 ≤ 2048) (hbd2 : ∀ i, i < n2 → 0 ≤ es2 i ∧ es2 i ≤ 1114112) (Bs : List Int) (hB : ∀ i, i < n → es i ∈ Bs) (hB2 : ∀ i, i < n2 → es2 i ∈ Bs) (hBl : Bs.length ≤ 2048) : Met l y_RG_insertAll w_RG_insertAll { frames := 2, cells := 0, slots := 0, locals := 52 } (zPw g [.ref h, .ref h2] [(h, .inr (1, [.ref q, .int (iI (((n : Nat) : Int)))])), (q, .inl (zI g, 2048, .inl (ai es)))] [(h2, .inr (1, [.ref q2, .int (iI (((n2 : Nat) : Int)))])), (q2, .inl (zI g, 2048, .inl (ai es2)))] sz) (va_Qv (fun w => ∃ (e2 : Nat → Int) (n3 : Nat), w = [(h, .inr (1, [.ref q, .int (iI (((n3 : Nat) : Int)))])), (q, .inl (zI g, 2048, .inl (ai e2)))] ∧ IA es n es2 (n2 / 2) e2 n3) (zB g (va_A [(h, .inr (1, [.ref q, .int (iI (((n : Nat) : Int)))])), (q, .inl (zI g, 2048, .inl (ai es)))] sz)) (va_A [(h, .inr (1, [.ref q, .int (iI (((n : Nat) : Int)))])), (q, .inl (zI g, 2048, .inl (ai es)))] sz)) 0 0 (va_A [(h, .inr (1, [.ref q, .int (iI (((n : Nat) : Int)))])), (q, .inl (zI g, 2048, .inl (ai es)))] sz) := by
  refine Met.ofW (cc := b_RG_insertAll) (maxL := 3) (ret := none) (by decide) rfl ?_
  intro p e s m args below meth cd s₁ B hml hv
  obtain ⟨hargs, hsz, hP, hK, hD0, hZ, hO0, hAp⟩ := hv
  have hx := B.exec
  have hb := B.bytes
  have hr := B.returns
  have ht : ∀ w ∈ lw_ok, w.before args s = true := fun w h => atoms_spec (ws := w_RG_insertAll) B.pre w (List.mem_cons_of_mem _ h)
  have hown : s.vm.findClass R_RG = some m.cls := findClass_of_methodNamed B.named
  have hlocks := B.notSynchronized
  subst hsz
  have hD := hD0.self (sz := s.heap.size)
  generalize hAe : va_A [(h, .inr (1, [.ref q, .int (iI (((n : Nat) : Int)))])), (q, .inl (zI g, 2048, .inl (ai es)))] s.heap.size = A at hD hZ hAp ⊢
  have hA : ∀ q : Nat, s.heap.size ≤ q → A q := fun q h => by rw [← hAe]; exact Or.inr h
  have hS : va_S A s.heap s.heap [] := va_S.rf
  generalize hQ : MQ below _ args s 0 0 _ = Q
  have hl := lv_entry ([.ref h, .ref h2]) (n := 3) (Nat.le_of_ble_eq_true rfl)
  rw [show entryFrame m args 3 = entryFrame m ([.ref h, .ref h2] : List Value).toArray 3 by rw [hargs], lg_entry_eq]
  generalize (lg_sl ([.ref h, .ref h2]) ++ List.replicate (3 - (lg_sl ([.ref h, .ref h2])).length) Slot.unset).toArray = ls at hl ⊢
  have hl : lv_has ls 3 [(0, .ref h), (1, .ref h2)] := hl
  obtain ⟨H, locs, hHe, hLe⟩ : ∃ (H : Heap) (locs : List Loc), H = s.heap ∧ locs = [] := ⟨_, _, rfl, rfl⟩
  rw [show W p l e _ s m args below meth cd s.heap [] 0 0 Q = W p l e _ s m args below meth cd H locs 0 0 Q by rw [hHe, hLe]]
  rw [← hHe] at hP
  have hS : va_S A s.heap H locs := by rw [hHe, hLe]; exact hS
  have hO := zO_kept hO0 hAp hS
  have hAh : A h := hD.2 0 _ rfl
  have hAh2 : ¬ A h2 := hAp 0 _ rfl
  have J8 : ∀ fu : Nat, ∀ (i n3 : Nat) (e3 : Nat → Int) (H : Heap) (locs : List Loc) (ls : Array Slot), n2 - i < fu → lv_has ls 3 [(0, .ref h), (1, .ref h2), (2, .int (iI (((i : Nat) : Int))))] → (i ≤ n2 / 2) → (IA es n es2 i e3 n3) → (asc e3 n3) → (n3 ≤ 2048) → (∀ j, j < n3 → 0 ≤ e3 j ∧ e3 j ≤ 1114112) → (∀ j, j < n3 → e3 j ∈ Bs) → va_P g.1 classes [(h, .inr (1, [.ref q, .int (iI (((n3 : Nat) : Int)))])), (q, .inl (zI g, 2048, .inl (ai e3)))] H → va_D A [(h, .inr (1, [.ref q, .int (iI (((n3 : Nat) : Int)))])), (q, .inl (zI g, 2048, .inl (ai e3)))] → va_S A s.heap H locs → W p l e (headSpec w_RG_insertAll { frames := 2, cells := 0, slots := 0, locals := 52 }).room s m args below meth cd H locs 0 0 Q (F0 m 8 ls []) := by
    intro fu
    induction fu with
    | zero => exact fun _ _ _ _ _ _ hfu _ _ _ _ _ _ _ _ _ _ => absurd hfu (Nat.not_lt_zero _)
    | succ fu ih =>
      intro i n3 e3 H locs ls hfu hl h1 hI ha3 hn3 hbd3 hB3 hP hD hS
      have hO := zO_kept hO0 hAp hS
      refine lv_iload_n hx hb d_RG_insertAll_8 rfl (lv_at hl 2 rfl) ?_
      refine lv_aload_n hx hb d_RG_insertAll_9 rfl (lv_at hl 1 rfl) ?_
      refine zcV (ci := 1) (q0 := 0) (As := []) (rest := [.int (iI (((i : Nat) : Int)))]) ⟨hx, hb, hml, hown, ht⟩ v_RG_21 (c_RG_rangeCount l g h2 q2 n2 es2  hn2) ⟨Nat.le_of_ble_eq_true rfl, Nat.le_of_ble_eq_true rfl⟩ ⟨Nat.zero_le _, Nat.zero_le _⟩ hK hZ hS hO rfl rfl rfl rfl hl.1 rfl (Nat.le_of_ble_eq_true rfl) d_RG_insertAll_10 (fun r_10 h_10 => ?_)
      subst h_10
      refine ix_icmp_ge (tgt := 36) hx hb d_RG_insertAll_13 (by decide) (by omega) (fun c_13 => ?_) (fun c_13 => ?_)
      · have e9 : i = n2 / 2 := by omega
        subst e9
        subst hQ
        exact W.vret hx hb hr (fun t h9 hW => ⟨⟨_, rfl, ⟨_, _, rfl, hI⟩, by rw [h9]; exact hP, va_K.moved hW.alike hK, hD⟩, hS.F h9⟩) hS.2.2 d_RG_insertAll_36
      · refine lv_aload_n hx hb d_RG_insertAll_16 rfl (lv_at hl 0 rfl) ?_
        refine lv_aload_n hx hb d_RG_insertAll_17 rfl (lv_at hl 1 rfl) ?_
        refine lv_iload_n hx hb d_RG_insertAll_18 rfl (lv_at hl 2 rfl) ?_
        refine zcV (ci := 1) (q0 := 0) (As := [.int (iI (((i : Nat) : Int)))]) (rest := [.ref h]) ⟨hx, hb, hml, hown, ht⟩ v_RG_25 (c_RG_lowOf l g h2 q2 n2 es2 i (by omega)) ⟨Nat.le_of_ble_eq_true rfl, Nat.le_of_ble_eq_true rfl⟩ ⟨Nat.zero_le _, Nat.zero_le _⟩ hK hZ hS hO rfl rfl rfl rfl hl.1 rfl (Nat.le_of_ble_eq_true rfl) d_RG_insertAll_19 (fun r_19 h_19 => ?_)
        subst h_19
        have f1 := hbd2 (2 * i) (by omega)
        have f2 := hbd2 (2 * i + 1) (by omega)
        have f3 := ha2 (2 * i) (2 * i + 1) (by omega) (by omega)
        refine lv_aload_n hx hb d_RG_insertAll_22 rfl (lv_at hl 1 rfl) ?_
        refine lv_iload_n hx hb d_RG_insertAll_23 rfl (lv_at hl 2 rfl) ?_
        refine zcV (ci := 1) (q0 := 0) (As := [.int (iI (((i : Nat) : Int)))]) (rest := [.int (iI (es2 (2 * i))), .ref h]) ⟨hx, hb, hml, hown, ht⟩ v_RG_31 (c_RG_highOf l g h2 q2 n2 es2 i (by omega)) ⟨Nat.le_of_ble_eq_true rfl, Nat.le_of_ble_eq_true rfl⟩ ⟨Nat.zero_le _, Nat.zero_le _⟩ hK hZ hS hO rfl rfl rfl rfl hl.1 rfl (Nat.le_of_ble_eq_true rfl) d_RG_insertAll_24 (fun r_24 h_24 => ?_)
        subst h_24
        have hBh : es2 (2 * i + 1) - 1 + 1 ∈ Bs := by rw [show es2 (2 * i + 1) - 1 + 1 = es2 (2 * i + 1) by omega]; exact hB2 _ (by omega)
        have hF_27 := va_free (wc := [(h, .inr (1, [.ref q, .int (iI (((n3 : Nat) : Int)))])), (q, .inl (zI g, 2048, .inl (ai e3)))]) hD hS hA [0, 1] rfl
        refine zcVv (ci := 1) (q0 := 0) (As := [.int (iI (es2 (2 * i))), .int (iI (es2 (2 * i + 1) - 1))]) (rest := []) ⟨hx, hb, hml, hown, ht⟩ v_RG_40 (c_RG_insert l g H.size h q n3 e3 (es2 (2 * i)) (es2 (2 * i + 1) - 1) ha3 hn3 hbd3 (by omega) (by omega) (by omega) Bs hB3 (hB2 _ (by omega)) hBh hBl) ⟨Nat.le_of_ble_eq_true rfl, Nat.le_of_ble_eq_true rfl⟩ ⟨Nat.zero_le _, Nat.zero_le _⟩ hK hZ hS hP (hD.weaken (fun _ _ _ _ => trivial)) hF_27 zP_nil zAp_nil rfl rfl rfl rfl hl.1 rfl (Nat.le_of_ble_eq_true rfl) d_RG_insertAll_27 (fun w_27 H locs h_27 pp_27 dd_27 zz_27 kk_27 hS => ?_)
        obtain ⟨e4, n4, rfl, hI4⟩ := h_27
        have hP : va_P g.1 classes [(h, .inr (1, [.ref q, .int (iI (((n4 : Nat) : Int)))])), (q, .inl (zI g, 2048, .inl (ai e4)))] H := pp_27
        have hD : va_D A [(h, .inr (1, [.ref q, .int (iI (((n4 : Nat) : Int)))])), (q, .inl (zI g, 2048, .inl (ai e4)))] := dd_27.weaken (fun _ _ _ h9 => hF_27 _ h9)
        have hO := zO_kept hO0 hAp hS
        have hB4 := Ins_B hI4 Bs hB3 (hB2 _ (by omega)) hBh
        have hL4 := asc_len hI4.1 Bs hB4
        have hbd4 : ∀ j, j < n4 → 0 ≤ e4 j ∧ e4 j ≤ 1114112 := fun j hj => by rcases hI4.2.2.2 j hj with q9 | q9 | ⟨j9, a9, q9⟩ <;> first | (rw [q9]; exact hbd3 j9 a9) | (rw [q9]; omega)
        refine lv_iinc (v := iI ((((i : Nat) : Int)) + 1)) (lv' := [(2, .int (iI ((((i : Nat) : Int)) + 1))), (0, .ref h), (1, .ref h2)]) hx hb d_RG_insertAll_30 hl (k := 2) rfl (iI_add _ _) (by decide) rfl (fun ls hl => ?_)
        refine lv_goto (tgt := 8) hx hb d_RG_insertAll_33 (by decide) ?_
        exact ih (i + 1) n4 e4 _ _ ls (by omega) (lv_sub hl [1, 2, 0] rfl) (by omega) (by exact ⟨e3, n3, hI, hI4⟩) (by exact hI4.1) (by omega) (by exact hbd4) (by exact hB4) hP hD hS
  refine lv_aload_n hx hb d_RG_insertAll_0 rfl (lv_at hl 1 rfl) ?_
  refine lv_aload_n hx hb d_RG_insertAll_1 rfl (lv_at hl 0 rfl) ?_
  refine lv_acmp_ne (rx := some h2) (ry := some h) (tgt := 6) hx hb d_RG_insertAll_2 (by decide) (fun c_2 => ?_) (fun c_2 => ?_)
  · refine lv_iconst (v := iI 0) hx hb d_RG_insertAll_6 rfl ?_
    refine lv_istore_n (lv' := [(2, .int (iI 0)), (0, .ref h), (1, .ref h2)]) hx hb d_RG_insertAll_7 rfl hl (by decide) rfl (fun ls hl => ?_)
    exact J8 (_ + 1) 0 n es _ _ ls (Nat.lt_succ_self _) (lv_sub hl [1, 2, 0] rfl) (by omega) (by exact ⟨rfl, rfl⟩) (by exact ha) (by exact hn) (by exact hbd) (by exact hB) hP hD hS
  · exact absurd c_2 (zNe hAh hAh2)
set_option maxHeartbeats 4000000 in
set_option maxRecDepth 100000 in
theorem c_RG_complement (l : Launch) (g : zG) (sz : Nat) (h q : Nat) (n : Nat) (es : Nat → Int) (ha : asc es n) (hn : n ≤ 2048) (hbd : ∀ i, i < n → 0 ≤ es i ∧ es i ≤ 1114112) (last : Nat) (hla : last ≤ 1114111) (hn2 : n + 2 ≤ 2048) : Met l y_RG_complement w_RG_complement { frames := 1, cells := 0, slots := 0, locals := 18 } (zPw g [.ref h, .int (iI (((last : Nat) : Int)))] [(h, .inr (1, [.ref q, .int (iI (((n : Nat) : Int)))])), (q, .inl (zI g, 2048, .inl (ai es)))] [] sz) (va_Qv (fun w => ∃ (e2 : Nat → Int) (n2 : Nat), w = [(h, .inr (1, [.ref q, .int (iI (((n2 : Nat) : Int)))])), (q, .inl (zI g, 2048, .inl (ai e2)))] ∧ Cmp ((last : Nat) : Int) es n e2 n2) (zB g (va_A [(h, .inr (1, [.ref q, .int (iI (((n : Nat) : Int)))])), (q, .inl (zI g, 2048, .inl (ai es)))] sz)) (va_A [(h, .inr (1, [.ref q, .int (iI (((n : Nat) : Int)))])), (q, .inl (zI g, 2048, .inl (ai es)))] sz)) 0 0 (va_A [(h, .inr (1, [.ref q, .int (iI (((n : Nat) : Int)))])), (q, .inl (zI g, 2048, .inl (ai es)))] sz) := by
  refine Met.ofW (cc := b_RG_complement) (maxL := 2) (ret := none) (by decide) rfl ?_
  intro p e s m args below meth cd s₁ B hml hv
  obtain ⟨hargs, hsz, hP, hK, hD0, hZ, hO0, hAp⟩ := hv
  have hx := B.exec
  have hb := B.bytes
  have hr := B.returns
  have ht : ∀ w ∈ lw_ok, w.before args s = true := fun w h => atoms_spec (ws := w_RG_complement) B.pre w (List.mem_cons_of_mem _ h)
  have hown : s.vm.findClass R_RG = some m.cls := findClass_of_methodNamed B.named
  have hlocks := B.notSynchronized
  subst hsz
  have hD := hD0.self (sz := s.heap.size)
  generalize hAe : va_A [(h, .inr (1, [.ref q, .int (iI (((n : Nat) : Int)))])), (q, .inl (zI g, 2048, .inl (ai es)))] s.heap.size = A at hD hZ hAp ⊢
  have hA : ∀ q : Nat, s.heap.size ≤ q → A q := fun q h => by rw [← hAe]; exact Or.inr h
  have hS : va_S A s.heap s.heap [] := va_S.rf
  generalize hQ : MQ below _ args s 0 0 _ = Q
  have hl := lv_entry ([.ref h, .int (iI (((last : Nat) : Int)))]) (n := 2) (Nat.le_of_ble_eq_true rfl)
  rw [show entryFrame m args 2 = entryFrame m ([.ref h, .int (iI (((last : Nat) : Int)))] : List Value).toArray 2 by rw [hargs], lg_entry_eq]
  generalize (lg_sl ([.ref h, .int (iI (((last : Nat) : Int)))]) ++ List.replicate (2 - (lg_sl ([.ref h, .int (iI (((last : Nat) : Int)))])).length) Slot.unset).toArray = ls at hl ⊢
  have hl : lv_has ls 2 [(0, .ref h), (1, .int (iI (((last : Nat) : Int))))] := hl
  obtain ⟨H, locs, hHe, hLe⟩ : ∃ (H : Heap) (locs : List Loc), H = s.heap ∧ locs = [] := ⟨_, _, rfl, rfl⟩
  rw [show W p l e _ s m args below meth cd s.heap [] 0 0 Q = W p l e _ s m args below meth cd H locs 0 0 Q by rw [hHe, hLe]]
  rw [← hHe] at hP
  have hS : va_S A s.heap H locs := by rw [hHe, hLe]; exact hS
  have J97 : ∀ (n1 : Nat) (e1 : Nat → Int) (H : Heap) (locs : List Loc) (ls : Array Slot), lv_has ls 2 [(0, .ref h), (1, .int (iI (((last : Nat) : Int))))] → ((0 < n ∧ es 0 = 0 ∧ n1 + 1 = n ∧ ∀ j, j < n1 → e1 j = es (j + 1)) ∨ (¬ (0 < n ∧ es 0 = 0) ∧ n1 = n + 1 ∧ e1 0 = 0 ∧ ∀ j, j < n → e1 (j + 1) = es j)) → (n1 ≤ 2047) → (∀ j, j < n1 → 0 ≤ e1 j ∧ e1 j ≤ 1114112) → va_P g.1 classes [(h, .inr (1, [.ref q, .int (iI (((n1 : Nat) : Int)))])), (q, .inl (zI g, 2048, .inl (ai e1)))] H → va_D A [(h, .inr (1, [.ref q, .int (iI (((n1 : Nat) : Int)))])), (q, .inl (zI g, 2048, .inl (ai e1)))] → va_S A s.heap H locs → W p l e (headSpec w_RG_complement { frames := 1, cells := 0, slots := 0, locals := 18 }).room s m args below meth cd H locs 0 0 Q (F0 m 97 ls []) := by
    intro n1 e1 H locs ls hl h1 hn1 hb1 hP hD hS
    refine lv_aload_n hx hb d_RG_complement_97 rfl (lv_at hl 0 rfl) ?_
    refine va_get (D := g.1) (ci := 1) (v := .int (iI (((n1 : Nat) : Int)))) (C := R_RG) (T := F_RG) (N := 2) hx hb ht i_RG hown hK hP 0 rfl rfl 1 (by decide) (ht _ k_94) (fun _ h9 => h9) rfl d_RG_complement_98 ?_
    refine ix_if_le (tgt := 134) hx hb d_RG_complement_101 (by decide) (by omega) (fun c_101 => ?_) (fun c_101 => ?_)
    · refine lv_aload_n hx hb d_RG_complement_134 rfl (lv_at hl 0 rfl) ?_
      refine va_get (D := g.1) (ci := 1) (v := .ref q) (C := R_RG) (T := F_RG) (N := 2) hx hb ht i_RG hown hK hP 0 rfl rfl 0 (by decide) (ht _ k_93) (fun _ h9 => h9) rfl d_RG_complement_135 ?_
      refine lv_aload_n hx hb d_RG_complement_138 rfl (lv_at hl 0 rfl) ?_
      refine va_get (D := g.1) (ci := 1) (v := .int (iI (((n1 : Nat) : Int)))) (C := R_RG) (T := F_RG) (N := 2) hx hb ht i_RG hown hK hP 0 rfl rfl 1 (by decide) (ht _ k_94) (fun _ h9 => h9) rfl d_RG_complement_139 ?_
      refine lv_iload_n hx hb d_RG_complement_142 rfl (lv_at hl 1 rfl) ?_
      refine lv_iconst (v := iI 1) hx hb d_RG_complement_143 rfl ?_
      refine ix_iadd hx hb d_RG_complement_144 ?_
      refine ix_iast hx hb hK hP hD hS 1 0 rfl rfl (i := (((n1 : Nat) : Int))) n1 (by omega) d_RG_complement_145 (fun H locs hP hD hS => ?_)
      have hP : va_P g.1 classes [(h, .inr (1, [.ref q, .int (iI (((n1 : Nat) : Int)))])), (q, .inl (zI g, 2048, .inl (ai (va_up e1 n1 ((((last : Nat) : Int)) + 1)))))] H := hP
      have hD : va_D A [(h, .inr (1, [.ref q, .int (iI (((n1 : Nat) : Int)))])), (q, .inl (zI g, 2048, .inl (ai (va_up e1 n1 ((((last : Nat) : Int)) + 1)))))] := hD
      refine lv_aload_n hx hb d_RG_complement_146 rfl (lv_at hl 0 rfl) ?_
      refine lv_dup hx hb d_RG_complement_147 rfl ?_
      refine va_get (D := g.1) (ci := 1) (v := .int (iI (((n1 : Nat) : Int)))) (C := R_RG) (T := F_RG) (N := 2) hx hb ht i_RG hown hK hP 0 rfl rfl 1 (by decide) (ht _ k_94) (fun _ h9 => h9) rfl d_RG_complement_148 ?_
      refine lv_iconst (v := iI 1) hx hb d_RG_complement_151 rfl ?_
      refine ix_iadd hx hb d_RG_complement_152 ?_
      refine va_put (D := g.1) (ci := 1) (v := .int (iI ((((n1 : Nat) : Int)) + 1))) (ty := .int) (C := R_RG) (T := F_RG) (N := 2) hx hb ht i_RG t_RG t_RG_ok n_RG hown hK hP hD hS 0 rfl rfl 1 (by decide) (ht _ k_94) (fun _ h9 => h9) rfl (by decide +kernel) rfl rfl (Nat.le_of_ble_eq_true rfl) d_RG_complement_153 (fun H locs hP hD hS => ?_)
      have hP : va_P g.1 classes [(h, .inr (1, [.ref q, .int (iI ((((n1 : Nat) : Int)) + 1))])), (q, .inl (zI g, 2048, .inl (ai (va_up e1 n1 ((((last : Nat) : Int)) + 1)))))] H := hP
      have hD : va_D A [(h, .inr (1, [.ref q, .int (iI ((((n1 : Nat) : Int)) + 1))])), (q, .inl (zI g, 2048, .inl (ai (va_up e1 n1 ((((last : Nat) : Int)) + 1)))))] := hD
      subst hQ
      exact W.vret hx hb hr (fun t h9 hW => ⟨⟨_, rfl, ⟨_, n1 + 1, rfl, e1, n1, h1, Or.inr ⟨by omega, rfl, (cmp_u _ _ _).1, (cmp_u _ _ _).2⟩⟩, by rw [h9]; exact hP, va_K.moved hW.alike hK, hD⟩, hS.F h9⟩) hS.2.2 d_RG_complement_156
    · refine lv_aload_n hx hb d_RG_complement_104 rfl (lv_at hl 0 rfl) ?_
      refine va_get (D := g.1) (ci := 1) (v := .ref q) (C := R_RG) (T := F_RG) (N := 2) hx hb ht i_RG hown hK hP 0 rfl rfl 0 (by decide) (ht _ k_93) (fun _ h9 => h9) rfl d_RG_complement_105 ?_
      refine lv_aload_n hx hb d_RG_complement_108 rfl (lv_at hl 0 rfl) ?_
      refine va_get (D := g.1) (ci := 1) (v := .int (iI (((n1 : Nat) : Int)))) (C := R_RG) (T := F_RG) (N := 2) hx hb ht i_RG hown hK hP 0 rfl rfl 1 (by decide) (ht _ k_94) (fun _ h9 => h9) rfl d_RG_complement_109 ?_
      refine lv_iconst (v := iI 1) hx hb d_RG_complement_112 rfl ?_
      refine ix_isub hx hb d_RG_complement_113 ?_
      refine ix_iald hx hb hK hP 1 0 rfl rfl (i := ((((n1 : Nat) : Int)) - 1)) (n1 - 1) (by omega) d_RG_complement_114 ?_
      have f_7 := hb1 (n1 - 1) (by omega)
      refine lv_iload_n hx hb d_RG_complement_115 rfl (lv_at hl 1 rfl) ?_
      refine lv_iconst (v := iI 1) hx hb d_RG_complement_116 rfl ?_
      refine ix_iadd hx hb d_RG_complement_117 ?_
      refine ix_icmp_ne (tgt := 134) hx hb d_RG_complement_118 (by decide) (by omega) (fun c_118 => ?_) (fun c_118 => ?_)
      · refine lv_aload_n hx hb d_RG_complement_134 rfl (lv_at hl 0 rfl) ?_
        refine va_get (D := g.1) (ci := 1) (v := .ref q) (C := R_RG) (T := F_RG) (N := 2) hx hb ht i_RG hown hK hP 0 rfl rfl 0 (by decide) (ht _ k_93) (fun _ h9 => h9) rfl d_RG_complement_135 ?_
        refine lv_aload_n hx hb d_RG_complement_138 rfl (lv_at hl 0 rfl) ?_
        refine va_get (D := g.1) (ci := 1) (v := .int (iI (((n1 : Nat) : Int)))) (C := R_RG) (T := F_RG) (N := 2) hx hb ht i_RG hown hK hP 0 rfl rfl 1 (by decide) (ht _ k_94) (fun _ h9 => h9) rfl d_RG_complement_139 ?_
        refine lv_iload_n hx hb d_RG_complement_142 rfl (lv_at hl 1 rfl) ?_
        refine lv_iconst (v := iI 1) hx hb d_RG_complement_143 rfl ?_
        refine ix_iadd hx hb d_RG_complement_144 ?_
        refine ix_iast hx hb hK hP hD hS 1 0 rfl rfl (i := (((n1 : Nat) : Int))) n1 (by omega) d_RG_complement_145 (fun H locs hP hD hS => ?_)
        have hP : va_P g.1 classes [(h, .inr (1, [.ref q, .int (iI (((n1 : Nat) : Int)))])), (q, .inl (zI g, 2048, .inl (ai (va_up e1 n1 ((((last : Nat) : Int)) + 1)))))] H := hP
        have hD : va_D A [(h, .inr (1, [.ref q, .int (iI (((n1 : Nat) : Int)))])), (q, .inl (zI g, 2048, .inl (ai (va_up e1 n1 ((((last : Nat) : Int)) + 1)))))] := hD
        refine lv_aload_n hx hb d_RG_complement_146 rfl (lv_at hl 0 rfl) ?_
        refine lv_dup hx hb d_RG_complement_147 rfl ?_
        refine va_get (D := g.1) (ci := 1) (v := .int (iI (((n1 : Nat) : Int)))) (C := R_RG) (T := F_RG) (N := 2) hx hb ht i_RG hown hK hP 0 rfl rfl 1 (by decide) (ht _ k_94) (fun _ h9 => h9) rfl d_RG_complement_148 ?_
        refine lv_iconst (v := iI 1) hx hb d_RG_complement_151 rfl ?_
        refine ix_iadd hx hb d_RG_complement_152 ?_
        refine va_put (D := g.1) (ci := 1) (v := .int (iI ((((n1 : Nat) : Int)) + 1))) (ty := .int) (C := R_RG) (T := F_RG) (N := 2) hx hb ht i_RG t_RG t_RG_ok n_RG hown hK hP hD hS 0 rfl rfl 1 (by decide) (ht _ k_94) (fun _ h9 => h9) rfl (by decide +kernel) rfl rfl (Nat.le_of_ble_eq_true rfl) d_RG_complement_153 (fun H locs hP hD hS => ?_)
        have hP : va_P g.1 classes [(h, .inr (1, [.ref q, .int (iI ((((n1 : Nat) : Int)) + 1))])), (q, .inl (zI g, 2048, .inl (ai (va_up e1 n1 ((((last : Nat) : Int)) + 1)))))] H := hP
        have hD : va_D A [(h, .inr (1, [.ref q, .int (iI ((((n1 : Nat) : Int)) + 1))])), (q, .inl (zI g, 2048, .inl (ai (va_up e1 n1 ((((last : Nat) : Int)) + 1)))))] := hD
        subst hQ
        exact W.vret hx hb hr (fun t h9 hW => ⟨⟨_, rfl, ⟨_, n1 + 1, rfl, e1, n1, h1, Or.inr ⟨by omega, rfl, (cmp_u _ _ _).1, (cmp_u _ _ _).2⟩⟩, by rw [h9]; exact hP, va_K.moved hW.alike hK, hD⟩, hS.F h9⟩) hS.2.2 d_RG_complement_156
      · refine lv_aload_n hx hb d_RG_complement_121 rfl (lv_at hl 0 rfl) ?_
        refine lv_dup hx hb d_RG_complement_122 rfl ?_
        refine va_get (D := g.1) (ci := 1) (v := .int (iI (((n1 : Nat) : Int)))) (C := R_RG) (T := F_RG) (N := 2) hx hb ht i_RG hown hK hP 0 rfl rfl 1 (by decide) (ht _ k_94) (fun _ h9 => h9) rfl d_RG_complement_123 ?_
        refine lv_iconst (v := iI 1) hx hb d_RG_complement_126 rfl ?_
        refine ix_isub hx hb d_RG_complement_127 ?_
        refine va_put (D := g.1) (ci := 1) (v := .int (iI ((((n1 : Nat) : Int)) - 1))) (ty := .int) (C := R_RG) (T := F_RG) (N := 2) hx hb ht i_RG t_RG t_RG_ok n_RG hown hK hP hD hS 0 rfl rfl 1 (by decide) (ht _ k_94) (fun _ h9 => h9) rfl (by decide +kernel) rfl rfl (Nat.le_of_ble_eq_true rfl) d_RG_complement_128 (fun H locs hP hD hS => ?_)
        have hP : va_P g.1 classes [(h, .inr (1, [.ref q, .int (iI ((((n1 : Nat) : Int)) - 1))])), (q, .inl (zI g, 2048, .inl (ai e1)))] H := hP
        have hD : va_D A [(h, .inr (1, [.ref q, .int (iI ((((n1 : Nat) : Int)) - 1))])), (q, .inl (zI g, 2048, .inl (ai e1)))] := hD
        refine lv_goto (tgt := 156) hx hb d_RG_complement_131 (by decide) ?_
        rw [show ((n1 : Nat) : Int) - 1 = ((n1 - 1 : Nat) : Int) by omega] at hP hD
        subst hQ
        exact W.vret hx hb hr (fun t h9 hW => ⟨⟨_, rfl, ⟨_, _, rfl, e1, n1, h1, Or.inl ⟨by omega, by omega, by omega, fun _ _ => rfl⟩⟩, by rw [h9]; exact hP, va_K.moved hW.alike hK, hD⟩, hS.F h9⟩) hS.2.2 d_RG_complement_156
  refine lv_aload_n hx hb d_RG_complement_0 rfl (lv_at hl 0 rfl) ?_
  refine va_get (D := g.1) (ci := 1) (v := .int (iI (((n : Nat) : Int)))) (C := R_RG) (T := F_RG) (N := 2) hx hb ht i_RG hown hK hP 0 rfl rfl 1 (by decide) (ht _ k_94) (fun _ h9 => h9) rfl d_RG_complement_1 ?_
  refine lv_iconst (v := iI 2) hx hb d_RG_complement_4 rfl ?_
  refine ix_iadd hx hb d_RG_complement_5 ?_
  refine lv_aload_n hx hb d_RG_complement_6 rfl (lv_at hl 0 rfl) ?_
  refine va_get (D := g.1) (ci := 1) (v := .ref q) (C := R_RG) (T := F_RG) (N := 2) hx hb ht i_RG hown hK hP 0 rfl rfl 0 (by decide) (ht _ k_93) (fun _ h9 => h9) rfl d_RG_complement_7 ?_
  refine ix_alen hx hb hK hP 1 0 rfl rfl 2048 rfl d_RG_complement_10 ?_
  refine ix_icmp_le (tgt := 15) hx hb d_RG_complement_11 (by decide) (by omega) (fun c_11 => ?_) (fun c_11 => ?_)
  · refine lv_aload_n hx hb d_RG_complement_15 rfl (lv_at hl 0 rfl) ?_
    refine va_get (D := g.1) (ci := 1) (v := .int (iI (((n : Nat) : Int)))) (C := R_RG) (T := F_RG) (N := 2) hx hb ht i_RG hown hK hP 0 rfl rfl 1 (by decide) (ht _ k_94) (fun _ h9 => h9) rfl d_RG_complement_16 ?_
    refine ix_if_le (tgt := 63) hx hb d_RG_complement_19 (by decide) (by omega) (fun c_19 => ?_) (fun c_19 => ?_)
    · refine lv_aload_n hx hb d_RG_complement_63 rfl (lv_at hl 0 rfl) ?_
      refine va_get (D := g.1) (ci := 1) (v := .ref q) (C := R_RG) (T := F_RG) (N := 2) hx hb ht i_RG hown hK hP 0 rfl rfl 0 (by decide) (ht _ k_93) (fun _ h9 => h9) rfl d_RG_complement_64 ?_
      refine lv_iconst (v := iI 0) hx hb d_RG_complement_67 rfl ?_
      refine lv_aload_n hx hb d_RG_complement_68 rfl (lv_at hl 0 rfl) ?_
      refine va_get (D := g.1) (ci := 1) (v := .ref q) (C := R_RG) (T := F_RG) (N := 2) hx hb ht i_RG hown hK hP 0 rfl rfl 0 (by decide) (ht _ k_93) (fun _ h9 => h9) rfl d_RG_complement_69 ?_
      refine lv_iconst (v := iI 1) hx hb d_RG_complement_72 rfl ?_
      refine lv_aload_n hx hb d_RG_complement_73 rfl (lv_at hl 0 rfl) ?_
      refine va_get (D := g.1) (ci := 1) (v := .int (iI (((n : Nat) : Int)))) (C := R_RG) (T := F_RG) (N := 2) hx hb ht i_RG hown hK hP 0 rfl rfl 1 (by decide) (ht _ k_94) (fun _ h9 => h9) rfl d_RG_complement_74 ?_
      refine ix_copyi hx hb (by rw [hml]; exact hl.1.symm) hown (ht _ k_147) (ht _ k_149) (ht _ k_148) (ht _ k_6) hK hP hD hS 1 0 rfl rfl 0 1 n (by omega) (Nat.le_of_ble_eq_true rfl) (Nat.le_of_ble_eq_true rfl) d_RG_complement_77 (fun H locs hP hD hS => ?_)
      have hP : va_P g.1 classes [(h, .inr (1, [.ref q, .int (iI (((n : Nat) : Int)))])), (q, .inl (zI g, 2048, .inl (ai (va_cpy es es 0 1 n))))] H := hP
      have hD : va_D A [(h, .inr (1, [.ref q, .int (iI (((n : Nat) : Int)))])), (q, .inl (zI g, 2048, .inl (ai (va_cpy es es 0 1 n))))] := hD
      refine lv_aload_n hx hb d_RG_complement_80 rfl (lv_at hl 0 rfl) ?_
      refine va_get (D := g.1) (ci := 1) (v := .ref q) (C := R_RG) (T := F_RG) (N := 2) hx hb ht i_RG hown hK hP 0 rfl rfl 0 (by decide) (ht _ k_93) (fun _ h9 => h9) rfl d_RG_complement_81 ?_
      refine lv_iconst (v := iI 0) hx hb d_RG_complement_84 rfl ?_
      refine lv_iconst (v := iI 0) hx hb d_RG_complement_85 rfl ?_
      refine ix_iast hx hb hK hP hD hS 1 0 rfl rfl (i := 0) 0 (by omega) d_RG_complement_86 (fun H locs hP hD hS => ?_)
      have hP : va_P g.1 classes [(h, .inr (1, [.ref q, .int (iI (((n : Nat) : Int)))])), (q, .inl (zI g, 2048, .inl (ai (va_up (va_cpy es es 0 1 n) 0 0))))] H := hP
      have hD : va_D A [(h, .inr (1, [.ref q, .int (iI (((n : Nat) : Int)))])), (q, .inl (zI g, 2048, .inl (ai (va_up (va_cpy es es 0 1 n) 0 0))))] := hD
      refine lv_aload_n hx hb d_RG_complement_87 rfl (lv_at hl 0 rfl) ?_
      refine lv_dup hx hb d_RG_complement_88 rfl ?_
      refine va_get (D := g.1) (ci := 1) (v := .int (iI (((n : Nat) : Int)))) (C := R_RG) (T := F_RG) (N := 2) hx hb ht i_RG hown hK hP 0 rfl rfl 1 (by decide) (ht _ k_94) (fun _ h9 => h9) rfl d_RG_complement_89 ?_
      refine lv_iconst (v := iI 1) hx hb d_RG_complement_92 rfl ?_
      refine ix_iadd hx hb d_RG_complement_93 ?_
      refine va_put (D := g.1) (ci := 1) (v := .int (iI ((((n : Nat) : Int)) + 1))) (ty := .int) (C := R_RG) (T := F_RG) (N := 2) hx hb ht i_RG t_RG t_RG_ok n_RG hown hK hP hD hS 0 rfl rfl 1 (by decide) (ht _ k_94) (fun _ h9 => h9) rfl (by decide +kernel) rfl rfl (Nat.le_of_ble_eq_true rfl) d_RG_complement_94 (fun H locs hP hD hS => ?_)
      have hP : va_P g.1 classes [(h, .inr (1, [.ref q, .int (iI ((((n : Nat) : Int)) + 1))])), (q, .inl (zI g, 2048, .inl (ai (va_up (va_cpy es es 0 1 n) 0 0))))] H := hP
      have hD : va_D A [(h, .inr (1, [.ref q, .int (iI ((((n : Nat) : Int)) + 1))])), (q, .inl (zI g, 2048, .inl (ai (va_up (va_cpy es es 0 1 n) 0 0))))] := hD
      exact J97 (n + 1) (va_up (va_cpy es es 0 1 n) 0 0) _ _ ls (lv_sub hl [0, 1] rfl) (by exact Or.inr ⟨by omega, rfl, (cmp_u _ 0 0).1, cmp_r es n⟩) (by omega) (by exact fun j hj => by (cases j with | zero => (rw [(cmp_u _ 0 0).1]; omega) | succ j => (rw [cmp_r es n j (by omega)]; exact hbd _ (by omega)))) hP hD hS
    · refine lv_aload_n hx hb d_RG_complement_22 rfl (lv_at hl 0 rfl) ?_
      refine va_get (D := g.1) (ci := 1) (v := .ref q) (C := R_RG) (T := F_RG) (N := 2) hx hb ht i_RG hown hK hP 0 rfl rfl 0 (by decide) (ht _ k_93) (fun _ h9 => h9) rfl d_RG_complement_23 ?_
      refine lv_iconst (v := iI 0) hx hb d_RG_complement_26 rfl ?_
      refine ix_iald hx hb hK hP 1 0 rfl rfl (i := 0) 0 (by omega) d_RG_complement_27 ?_
      have f_8 := hbd 0 (by omega)
      refine ix_if_ne (tgt := 63) hx hb d_RG_complement_28 (by decide) (by omega) (fun c_28 => ?_) (fun c_28 => ?_)
      · refine lv_aload_n hx hb d_RG_complement_63 rfl (lv_at hl 0 rfl) ?_
        refine va_get (D := g.1) (ci := 1) (v := .ref q) (C := R_RG) (T := F_RG) (N := 2) hx hb ht i_RG hown hK hP 0 rfl rfl 0 (by decide) (ht _ k_93) (fun _ h9 => h9) rfl d_RG_complement_64 ?_
        refine lv_iconst (v := iI 0) hx hb d_RG_complement_67 rfl ?_
        refine lv_aload_n hx hb d_RG_complement_68 rfl (lv_at hl 0 rfl) ?_
        refine va_get (D := g.1) (ci := 1) (v := .ref q) (C := R_RG) (T := F_RG) (N := 2) hx hb ht i_RG hown hK hP 0 rfl rfl 0 (by decide) (ht _ k_93) (fun _ h9 => h9) rfl d_RG_complement_69 ?_
        refine lv_iconst (v := iI 1) hx hb d_RG_complement_72 rfl ?_
        refine lv_aload_n hx hb d_RG_complement_73 rfl (lv_at hl 0 rfl) ?_
        refine va_get (D := g.1) (ci := 1) (v := .int (iI (((n : Nat) : Int)))) (C := R_RG) (T := F_RG) (N := 2) hx hb ht i_RG hown hK hP 0 rfl rfl 1 (by decide) (ht _ k_94) (fun _ h9 => h9) rfl d_RG_complement_74 ?_
        refine ix_copyi hx hb (by rw [hml]; exact hl.1.symm) hown (ht _ k_147) (ht _ k_149) (ht _ k_148) (ht _ k_6) hK hP hD hS 1 0 rfl rfl 0 1 n (by omega) (Nat.le_of_ble_eq_true rfl) (Nat.le_of_ble_eq_true rfl) d_RG_complement_77 (fun H locs hP hD hS => ?_)
        have hP : va_P g.1 classes [(h, .inr (1, [.ref q, .int (iI (((n : Nat) : Int)))])), (q, .inl (zI g, 2048, .inl (ai (va_cpy es es 0 1 n))))] H := hP
        have hD : va_D A [(h, .inr (1, [.ref q, .int (iI (((n : Nat) : Int)))])), (q, .inl (zI g, 2048, .inl (ai (va_cpy es es 0 1 n))))] := hD
        refine lv_aload_n hx hb d_RG_complement_80 rfl (lv_at hl 0 rfl) ?_
        refine va_get (D := g.1) (ci := 1) (v := .ref q) (C := R_RG) (T := F_RG) (N := 2) hx hb ht i_RG hown hK hP 0 rfl rfl 0 (by decide) (ht _ k_93) (fun _ h9 => h9) rfl d_RG_complement_81 ?_
        refine lv_iconst (v := iI 0) hx hb d_RG_complement_84 rfl ?_
        refine lv_iconst (v := iI 0) hx hb d_RG_complement_85 rfl ?_
        refine ix_iast hx hb hK hP hD hS 1 0 rfl rfl (i := 0) 0 (by omega) d_RG_complement_86 (fun H locs hP hD hS => ?_)
        have hP : va_P g.1 classes [(h, .inr (1, [.ref q, .int (iI (((n : Nat) : Int)))])), (q, .inl (zI g, 2048, .inl (ai (va_up (va_cpy es es 0 1 n) 0 0))))] H := hP
        have hD : va_D A [(h, .inr (1, [.ref q, .int (iI (((n : Nat) : Int)))])), (q, .inl (zI g, 2048, .inl (ai (va_up (va_cpy es es 0 1 n) 0 0))))] := hD
        refine lv_aload_n hx hb d_RG_complement_87 rfl (lv_at hl 0 rfl) ?_
        refine lv_dup hx hb d_RG_complement_88 rfl ?_
        refine va_get (D := g.1) (ci := 1) (v := .int (iI (((n : Nat) : Int)))) (C := R_RG) (T := F_RG) (N := 2) hx hb ht i_RG hown hK hP 0 rfl rfl 1 (by decide) (ht _ k_94) (fun _ h9 => h9) rfl d_RG_complement_89 ?_
        refine lv_iconst (v := iI 1) hx hb d_RG_complement_92 rfl ?_
        refine ix_iadd hx hb d_RG_complement_93 ?_
        refine va_put (D := g.1) (ci := 1) (v := .int (iI ((((n : Nat) : Int)) + 1))) (ty := .int) (C := R_RG) (T := F_RG) (N := 2) hx hb ht i_RG t_RG t_RG_ok n_RG hown hK hP hD hS 0 rfl rfl 1 (by decide) (ht _ k_94) (fun _ h9 => h9) rfl (by decide +kernel) rfl rfl (Nat.le_of_ble_eq_true rfl) d_RG_complement_94 (fun H locs hP hD hS => ?_)
        have hP : va_P g.1 classes [(h, .inr (1, [.ref q, .int (iI ((((n : Nat) : Int)) + 1))])), (q, .inl (zI g, 2048, .inl (ai (va_up (va_cpy es es 0 1 n) 0 0))))] H := hP
        have hD : va_D A [(h, .inr (1, [.ref q, .int (iI ((((n : Nat) : Int)) + 1))])), (q, .inl (zI g, 2048, .inl (ai (va_up (va_cpy es es 0 1 n) 0 0))))] := hD
        exact J97 (n + 1) (va_up (va_cpy es es 0 1 n) 0 0) _ _ ls (lv_sub hl [0, 1] rfl) (by exact Or.inr ⟨by omega, rfl, (cmp_u _ 0 0).1, cmp_r es n⟩) (by omega) (by exact fun j hj => by (cases j with | zero => (rw [(cmp_u _ 0 0).1]; omega) | succ j => (rw [cmp_r es n j (by omega)]; exact hbd _ (by omega)))) hP hD hS
      · refine lv_aload_n hx hb d_RG_complement_31 rfl (lv_at hl 0 rfl) ?_
        refine va_get (D := g.1) (ci := 1) (v := .ref q) (C := R_RG) (T := F_RG) (N := 2) hx hb ht i_RG hown hK hP 0 rfl rfl 0 (by decide) (ht _ k_93) (fun _ h9 => h9) rfl d_RG_complement_32 ?_
        refine lv_iconst (v := iI 1) hx hb d_RG_complement_35 rfl ?_
        refine lv_aload_n hx hb d_RG_complement_36 rfl (lv_at hl 0 rfl) ?_
        refine va_get (D := g.1) (ci := 1) (v := .ref q) (C := R_RG) (T := F_RG) (N := 2) hx hb ht i_RG hown hK hP 0 rfl rfl 0 (by decide) (ht _ k_93) (fun _ h9 => h9) rfl d_RG_complement_37 ?_
        refine lv_iconst (v := iI 0) hx hb d_RG_complement_40 rfl ?_
        refine lv_aload_n hx hb d_RG_complement_41 rfl (lv_at hl 0 rfl) ?_
        refine va_get (D := g.1) (ci := 1) (v := .int (iI (((n : Nat) : Int)))) (C := R_RG) (T := F_RG) (N := 2) hx hb ht i_RG hown hK hP 0 rfl rfl 1 (by decide) (ht _ k_94) (fun _ h9 => h9) rfl d_RG_complement_42 ?_
        refine lv_iconst (v := iI 1) hx hb d_RG_complement_45 rfl ?_
        refine ix_isub hx hb d_RG_complement_46 ?_
        refine ix_copyi hx hb (by rw [hml]; exact hl.1.symm) hown (ht _ k_147) (ht _ k_149) (ht _ k_148) (ht _ k_6) hK hP hD hS 1 0 rfl rfl 1 0 (n - 1) (by omega) (Nat.le_of_ble_eq_true rfl) (Nat.le_of_ble_eq_true rfl) d_RG_complement_47 (fun H locs hP hD hS => ?_)
        have hP : va_P g.1 classes [(h, .inr (1, [.ref q, .int (iI (((n : Nat) : Int)))])), (q, .inl (zI g, 2048, .inl (ai (va_cpy es es 1 0 (n - 1)))))] H := hP
        have hD : va_D A [(h, .inr (1, [.ref q, .int (iI (((n : Nat) : Int)))])), (q, .inl (zI g, 2048, .inl (ai (va_cpy es es 1 0 (n - 1)))))] := hD
        refine lv_aload_n hx hb d_RG_complement_50 rfl (lv_at hl 0 rfl) ?_
        refine lv_dup hx hb d_RG_complement_51 rfl ?_
        refine va_get (D := g.1) (ci := 1) (v := .int (iI (((n : Nat) : Int)))) (C := R_RG) (T := F_RG) (N := 2) hx hb ht i_RG hown hK hP 0 rfl rfl 1 (by decide) (ht _ k_94) (fun _ h9 => h9) rfl d_RG_complement_52 ?_
        refine lv_iconst (v := iI 1) hx hb d_RG_complement_55 rfl ?_
        refine ix_isub hx hb d_RG_complement_56 ?_
        refine va_put (D := g.1) (ci := 1) (v := .int (iI ((((n : Nat) : Int)) - 1))) (ty := .int) (C := R_RG) (T := F_RG) (N := 2) hx hb ht i_RG t_RG t_RG_ok n_RG hown hK hP hD hS 0 rfl rfl 1 (by decide) (ht _ k_94) (fun _ h9 => h9) rfl (by decide +kernel) rfl rfl (Nat.le_of_ble_eq_true rfl) d_RG_complement_57 (fun H locs hP hD hS => ?_)
        have hP : va_P g.1 classes [(h, .inr (1, [.ref q, .int (iI ((((n : Nat) : Int)) - 1))])), (q, .inl (zI g, 2048, .inl (ai (va_cpy es es 1 0 (n - 1)))))] H := hP
        have hD : va_D A [(h, .inr (1, [.ref q, .int (iI ((((n : Nat) : Int)) - 1))])), (q, .inl (zI g, 2048, .inl (ai (va_cpy es es 1 0 (n - 1)))))] := hD
        refine lv_goto (tgt := 97) hx hb d_RG_complement_60 (by decide) ?_
        rw [show ((n : Nat) : Int) - 1 = ((n - 1 : Nat) : Int) by omega] at hP hD
        exact J97 (n - 1) (va_cpy es es 1 0 (n - 1)) _ _ ls (lv_sub hl [0, 1] rfl) (by exact Or.inl ⟨by omega, c_28, by omega, cmp_l es n⟩) (by omega) (by exact fun j hj => by rw [cmp_l es n j hj]; exact hbd _ (by omega)) hP hD hS
  · exact absurd c_11 (by omega)
end
