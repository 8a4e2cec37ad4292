/-! the 22 static rows, out of what the Statement gives of the start -/
def FL : List Cond := flatC (Jvm.Cond.and given_1 narrow_1)
theorem st_row {b : Nat} {s : State} {A : Nat → Prop} {C n : String} {i o N : Nat} (hs : ∀ w ∈ FL, w.before #[Value.ref b] s = true) (harr : Cond.arrayOf (.static C n "[I") .int ∈ FL) (hlen : Cond.eq (.length (.static C n "[I")) (.int (Int32.ofNat N)) ∈ FL) (hel : (FL.drop o).take N = (List.range N).map (fun j => Cond.eq (.elem (.static C n "[I") (.int (Int32.ofNat j))) (.int (iI ((stE i).getD j 0))))) (hN : N < 2147483648) (hl : (Cond.laysStatic C n "[I").before #[Value.ref b] s = true) (hini : (Cond.initialized C).before #[Value.ref b] s = true) (hA : ∀ a : Nat, a < s.heap.size → ¬ A a) : ∃ t : Nat, va_Z C n "[I" (.ref t) A s s.heap ∧ va_T .int t N (fun j => .int (iI ((stE i).getD j 0))) A s s.heap := by
  obtain ⟨t, ht, hT⟩ := va_Tof (f := fun j => .int (iI ((stE i).getD j 0))) (A := A) (by omega) (hs _ harr) (va_eqt (hs _ hlen)) (fun j hj => va_eqt (hs _ (List.mem_of_mem_drop (List.mem_of_mem_take (by rw [hel]; exact List.mem_map.mpr ⟨j, List.mem_range.mpr hj, rfl⟩))))) hA
  exact ⟨t, va_Zref hl hini ht hA, hT⟩
theorem fla_0 : Cond.arrayOf (.static "CharacterSets" "LETTER_GROUPS" "[I") .int ∈ FL := List.mem_of_getElem? (i := 444) (by decide +kernel)
theorem fll_0 : Cond.eq (.length (.static "CharacterSets" "LETTER_GROUPS" "[I")) (.int (Int32.ofNat 7)) ∈ FL := List.mem_of_getElem? (i := 445) (by decide +kernel)
theorem fle_0 : (FL.drop 446).take 7 = (List.range 7).map (fun j => Cond.eq (.elem (.static "CharacterSets" "LETTER_GROUPS" "[I") (.int (Int32.ofNat j))) (.int (iI ((stE 0).getD j 0)))) := by decide +kernel
theorem fla_1 : Cond.arrayOf (.static "CharacterSets" "NOTHING" "[I") .int ∈ FL := List.mem_of_getElem? (i := 582) (by decide +kernel)
theorem fll_1 : Cond.eq (.length (.static "CharacterSets" "NOTHING" "[I")) (.int (Int32.ofNat 0)) ∈ FL := List.mem_of_getElem? (i := 583) (by decide +kernel)
theorem fle_1 : (FL.drop 0).take 0 = (List.range 0).map (fun j => Cond.eq (.elem (.static "CharacterSets" "NOTHING" "[I") (.int (Int32.ofNat j))) (.int (iI ((stE 1).getD j 0)))) := by decide +kernel
theorem fla_2 : Cond.arrayOf (.static "CharacterSets" "DIGITS" "[I") .int ∈ FL := List.mem_of_getElem? (i := 454) (by decide +kernel)
theorem fll_2 : Cond.eq (.length (.static "CharacterSets" "DIGITS" "[I")) (.int (Int32.ofNat 2)) ∈ FL := List.mem_of_getElem? (i := 455) (by decide +kernel)
theorem fle_2 : (FL.drop 456).take 2 = (List.range 2).map (fun j => Cond.eq (.elem (.static "CharacterSets" "DIGITS" "[I") (.int (Int32.ofNat j))) (.int (iI ((stE 2).getD j 0)))) := by decide +kernel
theorem fla_3 : Cond.arrayOf (.static "CharacterSets" "LOWERS" "[I") .int ∈ FL := List.mem_of_getElem? (i := 514) (by decide +kernel)
theorem fll_3 : Cond.eq (.length (.static "CharacterSets" "LOWERS" "[I")) (.int (Int32.ofNat 2)) ∈ FL := List.mem_of_getElem? (i := 515) (by decide +kernel)
theorem fle_3 : (FL.drop 516).take 2 = (List.range 2).map (fun j => Cond.eq (.elem (.static "CharacterSets" "LOWERS" "[I") (.int (Int32.ofNat j))) (.int (iI ((stE 3).getD j 0)))) := by decide +kernel
theorem fla_4 : Cond.arrayOf (.static "CharacterSets" "UPPERS" "[I") .int ∈ FL := List.mem_of_getElem? (i := 519) (by decide +kernel)
theorem fll_4 : Cond.eq (.length (.static "CharacterSets" "UPPERS" "[I")) (.int (Int32.ofNat 2)) ∈ FL := List.mem_of_getElem? (i := 520) (by decide +kernel)
theorem fle_4 : (FL.drop 521).take 2 = (List.range 2).map (fun j => Cond.eq (.elem (.static "CharacterSets" "UPPERS" "[I") (.int (Int32.ofNat j))) (.int (iI ((stE 4).getD j 0)))) := by decide +kernel
theorem fla_5 : Cond.arrayOf (.static "CharacterSets" "ALPHAS" "[I") .int ∈ FL := List.mem_of_getElem? (i := 507) (by decide +kernel)
theorem fll_5 : Cond.eq (.length (.static "CharacterSets" "ALPHAS" "[I")) (.int (Int32.ofNat 4)) ∈ FL := List.mem_of_getElem? (i := 508) (by decide +kernel)
theorem fle_5 : (FL.drop 509).take 4 = (List.range 4).map (fun j => Cond.eq (.elem (.static "CharacterSets" "ALPHAS" "[I") (.int (Int32.ofNat j))) (.int (iI ((stE 5).getD j 0)))) := by decide +kernel
theorem fla_6 : Cond.arrayOf (.static "CharacterSets" "ALNUMS" "[I") .int ∈ FL := List.mem_of_getElem? (i := 524) (by decide +kernel)
theorem fll_6 : Cond.eq (.length (.static "CharacterSets" "ALNUMS" "[I")) (.int (Int32.ofNat 6)) ∈ FL := List.mem_of_getElem? (i := 525) (by decide +kernel)
theorem fle_6 : (FL.drop 526).take 6 = (List.range 6).map (fun j => Cond.eq (.elem (.static "CharacterSets" "ALNUMS" "[I") (.int (Int32.ofNat j))) (.int (iI ((stE 6).getD j 0)))) := by decide +kernel
theorem fla_7 : Cond.arrayOf (.static "CharacterSets" "WORDS" "[I") .int ∈ FL := List.mem_of_getElem? (i := 459) (by decide +kernel)
theorem fll_7 : Cond.eq (.length (.static "CharacterSets" "WORDS" "[I")) (.int (Int32.ofNat 8)) ∈ FL := List.mem_of_getElem? (i := 460) (by decide +kernel)
theorem fle_7 : (FL.drop 461).take 8 = (List.range 8).map (fun j => Cond.eq (.elem (.static "CharacterSets" "WORDS" "[I") (.int (Int32.ofNat j))) (.int (iI ((stE 7).getD j 0)))) := by decide +kernel
theorem fla_8 : Cond.arrayOf (.static "CharacterSets" "SPACES" "[I") .int ∈ FL := List.mem_of_getElem? (i := 470) (by decide +kernel)
theorem fll_8 : Cond.eq (.length (.static "CharacterSets" "SPACES" "[I")) (.int (Int32.ofNat 4)) ∈ FL := List.mem_of_getElem? (i := 471) (by decide +kernel)
theorem fle_8 : (FL.drop 472).take 4 = (List.range 4).map (fun j => Cond.eq (.elem (.static "CharacterSets" "SPACES" "[I") (.int (Int32.ofNat j))) (.int (iI ((stE 8).getD j 0)))) := by decide +kernel
theorem fla_9 : Cond.arrayOf (.static "CharacterSets" "BLANKS" "[I") .int ∈ FL := List.mem_of_getElem? (i := 533) (by decide +kernel)
theorem fll_9 : Cond.eq (.length (.static "CharacterSets" "BLANKS" "[I")) (.int (Int32.ofNat 4)) ∈ FL := List.mem_of_getElem? (i := 534) (by decide +kernel)
theorem fle_9 : (FL.drop 535).take 4 = (List.range 4).map (fun j => Cond.eq (.elem (.static "CharacterSets" "BLANKS" "[I") (.int (Int32.ofNat j))) (.int (iI ((stE 9).getD j 0)))) := by decide +kernel
theorem fla_10 : Cond.arrayOf (.static "CharacterSets" "CONTROLS" "[I") .int ∈ FL := List.mem_of_getElem? (i := 540) (by decide +kernel)
theorem fll_10 : Cond.eq (.length (.static "CharacterSets" "CONTROLS" "[I")) (.int (Int32.ofNat 4)) ∈ FL := List.mem_of_getElem? (i := 541) (by decide +kernel)
theorem fle_10 : (FL.drop 542).take 4 = (List.range 4).map (fun j => Cond.eq (.elem (.static "CharacterSets" "CONTROLS" "[I") (.int (Int32.ofNat j))) (.int (iI ((stE 10).getD j 0)))) := by decide +kernel
theorem fla_11 : Cond.arrayOf (.static "CharacterSets" "GRAPHS" "[I") .int ∈ FL := List.mem_of_getElem? (i := 547) (by decide +kernel)
theorem fll_11 : Cond.eq (.length (.static "CharacterSets" "GRAPHS" "[I")) (.int (Int32.ofNat 2)) ∈ FL := List.mem_of_getElem? (i := 548) (by decide +kernel)
theorem fle_11 : (FL.drop 549).take 2 = (List.range 2).map (fun j => Cond.eq (.elem (.static "CharacterSets" "GRAPHS" "[I") (.int (Int32.ofNat j))) (.int (iI ((stE 11).getD j 0)))) := by decide +kernel
theorem fla_12 : Cond.arrayOf (.static "CharacterSets" "PRINTS" "[I") .int ∈ FL := List.mem_of_getElem? (i := 552) (by decide +kernel)
theorem fll_12 : Cond.eq (.length (.static "CharacterSets" "PRINTS" "[I")) (.int (Int32.ofNat 2)) ∈ FL := List.mem_of_getElem? (i := 553) (by decide +kernel)
theorem fle_12 : (FL.drop 554).take 2 = (List.range 2).map (fun j => Cond.eq (.elem (.static "CharacterSets" "PRINTS" "[I") (.int (Int32.ofNat j))) (.int (iI ((stE 12).getD j 0)))) := by decide +kernel
theorem fla_13 : Cond.arrayOf (.static "CharacterSets" "PUNCTS" "[I") .int ∈ FL := List.mem_of_getElem? (i := 557) (by decide +kernel)
theorem fll_13 : Cond.eq (.length (.static "CharacterSets" "PUNCTS" "[I")) (.int (Int32.ofNat 8)) ∈ FL := List.mem_of_getElem? (i := 558) (by decide +kernel)
theorem fle_13 : (FL.drop 559).take 8 = (List.range 8).map (fun j => Cond.eq (.elem (.static "CharacterSets" "PUNCTS" "[I") (.int (Int32.ofNat j))) (.int (iI ((stE 13).getD j 0)))) := by decide +kernel
theorem fla_14 : Cond.arrayOf (.static "CharacterSets" "HEX_DIGITS" "[I") .int ∈ FL := List.mem_of_getElem? (i := 568) (by decide +kernel)
theorem fll_14 : Cond.eq (.length (.static "CharacterSets" "HEX_DIGITS" "[I")) (.int (Int32.ofNat 6)) ∈ FL := List.mem_of_getElem? (i := 569) (by decide +kernel)
theorem fle_14 : (FL.drop 570).take 6 = (List.range 6).map (fun j => Cond.eq (.elem (.static "CharacterSets" "HEX_DIGITS" "[I") (.int (Int32.ofNat j))) (.int (iI ((stE 14).getD j 0)))) := by decide +kernel
theorem fla_15 : Cond.arrayOf (.static "CharacterSets" "ASCII" "[I") .int ∈ FL := List.mem_of_getElem? (i := 577) (by decide +kernel)
theorem fll_15 : Cond.eq (.length (.static "CharacterSets" "ASCII" "[I")) (.int (Int32.ofNat 2)) ∈ FL := List.mem_of_getElem? (i := 578) (by decide +kernel)
theorem fle_15 : (FL.drop 579).take 2 = (List.range 2).map (fun j => Cond.eq (.elem (.static "CharacterSets" "ASCII" "[I") (.int (Int32.ofNat j))) (.int (iI ((stE 15).getD j 0)))) := by decide +kernel
theorem fla_16 : Cond.arrayOf (.static "CharacterSets" "VERTICALS" "[I") .int ∈ FL := List.mem_of_getElem? (i := 498) (by decide +kernel)
theorem fll_16 : Cond.eq (.length (.static "CharacterSets" "VERTICALS" "[I")) (.int (Int32.ofNat 6)) ∈ FL := List.mem_of_getElem? (i := 499) (by decide +kernel)
theorem fle_16 : (FL.drop 500).take 6 = (List.range 6).map (fun j => Cond.eq (.elem (.static "CharacterSets" "VERTICALS" "[I") (.int (Int32.ofNat j))) (.int (iI ((stE 16).getD j 0)))) := by decide +kernel
theorem fla_17 : Cond.arrayOf (.static "CharacterSets" "HORIZONTALS" "[I") .int ∈ FL := List.mem_of_getElem? (i := 477) (by decide +kernel)
theorem fll_17 : Cond.eq (.length (.static "CharacterSets" "HORIZONTALS" "[I")) (.int (Int32.ofNat 18)) ∈ FL := List.mem_of_getElem? (i := 478) (by decide +kernel)
theorem fle_17 : (FL.drop 479).take 18 = (List.range 18).map (fun j => Cond.eq (.elem (.static "CharacterSets" "HORIZONTALS" "[I") (.int (Int32.ofNat j))) (.int (iI ((stE 17).getD j 0)))) := by decide +kernel
theorem fla_18 : Cond.arrayOf (.static "CharacterSets$Table" "CATEGORY_ROWS" "[I") .int ∈ FL := List.mem_of_getElem? (i := 5) (by decide +kernel)
theorem fll_18 : Cond.eq (.length (.static "CharacterSets$Table" "CATEGORY_ROWS" "[I")) (.int (Int32.ofNat 321)) ∈ FL := List.mem_of_getElem? (i := 6) (by decide +kernel)
theorem fle_18 : (FL.drop 7).take 321 = (List.range 321).map (fun j => Cond.eq (.elem (.static "CharacterSets$Table" "CATEGORY_ROWS" "[I") (.int (Int32.ofNat j))) (.int (iI ((stE 18).getD j 0)))) := by decide +kernel
theorem fla_19 : Cond.arrayOf (.static "CharacterSets$Table" "SCRIPT_ROWS" "[I") .int ∈ FL := List.mem_of_getElem? (i := 329) (by decide +kernel)
theorem fll_19 : Cond.eq (.length (.static "CharacterSets$Table" "SCRIPT_ROWS" "[I")) (.int (Int32.ofNat 39)) ∈ FL := List.mem_of_getElem? (i := 330) (by decide +kernel)
theorem fle_19 : (FL.drop 331).take 39 = (List.range 39).map (fun j => Cond.eq (.elem (.static "CharacterSets$Table" "SCRIPT_ROWS" "[I") (.int (Int32.ofNat j))) (.int (iI ((stE 19).getD j 0)))) := by decide +kernel
theorem fla_20 : Cond.arrayOf (.static "CharacterSets$CaseRings" "PAIR_ROWS" "[I") .int ∈ FL := List.mem_of_getElem? (i := 371) (by decide +kernel)
theorem fll_20 : Cond.eq (.length (.static "CharacterSets$CaseRings" "PAIR_ROWS" "[I")) (.int (Int32.ofNat 52)) ∈ FL := List.mem_of_getElem? (i := 372) (by decide +kernel)
theorem fle_20 : (FL.drop 373).take 52 = (List.range 52).map (fun j => Cond.eq (.elem (.static "CharacterSets$CaseRings" "PAIR_ROWS" "[I") (.int (Int32.ofNat j))) (.int (iI ((stE 20).getD j 0)))) := by decide +kernel
theorem fla_21 : Cond.arrayOf (.static "CharacterSets$CaseRings" "TRIPLES" "[I") .int ∈ FL := List.mem_of_getElem? (i := 426) (by decide +kernel)
theorem fll_21 : Cond.eq (.length (.static "CharacterSets$CaseRings" "TRIPLES" "[I")) (.int (Int32.ofNat 15)) ∈ FL := List.mem_of_getElem? (i := 427) (by decide +kernel)
theorem fle_21 : (FL.drop 428).take 15 = (List.range 15).map (fun j => Cond.eq (.elem (.static "CharacterSets$CaseRings" "TRIPLES" "[I") (.int (Int32.ofNat j))) (.int (iI ((stE 21).getD j 0)))) := by decide +kernel
set_option maxHeartbeats 4000000 in
set_option maxRecDepth 100000 in
theorem stz_of {b : Nat} {s : State} {A : Nat → Prop} (hs : ∀ w ∈ FL, w.before #[Value.ref b] s = true) (hts : ∀ w ∈ lw_tbl, w.before #[Value.ref b] s = true) (hA : ∀ a : Nat, a < s.heap.size → ¬ A a) : ∃ f : Nat → Nat, ∀ i, i < 22 → va_Z (stC i) (stN i) "[I" (.ref (f i)) A s s.heap ∧ va_T .int (f i) (stE i).length (fun j => .int (iI ((stE i).getD j 0))) A s s.heap := by
  have ok : ∀ w ∈ lw_ok, w.before #[Value.ref b] s = true := fun w h => hts w (List.mem_filter.mp h).1
  have key : ∀ i, ∃ t : Nat, i < 22 → va_Z (stC i) (stN i) "[I" (.ref t) A s s.heap ∧ va_T .int t (stE i).length (fun j => .int (iI ((stE i).getD j 0))) A s s.heap := by
    intro i
    by_cases h : i < 22
    · rcases (show i = 0 ∨ i = 1 ∨ i = 2 ∨ i = 3 ∨ i = 4 ∨ i = 5 ∨ i = 6 ∨ i = 7 ∨ i = 8 ∨ i = 9 ∨ i = 10 ∨ i = 11 ∨ i = 12 ∨ i = 13 ∨ i = 14 ∨ i = 15 ∨ i = 16 ∨ i = 17 ∨ i = 18 ∨ i = 19 ∨ i = 20 ∨ i = 21 by omega) with rfl | rfl | rfl | rfl | rfl | rfl | rfl | rfl | rfl | rfl | rfl | rfl | rfl | rfl | rfl | rfl | rfl | rfl | rfl | rfl | rfl | rfl
      · obtain ⟨t, h9⟩ := st_row (i := 0) (N := 7) hs fla_0 fll_0 fle_0 (by omega) (hts _ k_194) (ok _ k_1) hA
        exact ⟨t, fun _ => h9⟩
      · obtain ⟨t, h9⟩ := st_row (i := 1) (N := 0) hs fla_1 fll_1 fle_1 (by omega) (hts _ k_271) (ok _ k_1) hA
        exact ⟨t, fun _ => h9⟩
      · obtain ⟨t, h9⟩ := st_row (i := 2) (N := 2) hs fla_2 fll_2 fle_2 (by omega) (hts _ k_239) (ok _ k_1) hA
        exact ⟨t, fun _ => h9⟩
      · obtain ⟨t, h9⟩ := st_row (i := 3) (N := 2) hs fla_3 fll_3 fle_3 (by omega) (hts _ k_251) (ok _ k_1) hA
        exact ⟨t, fun _ => h9⟩
      · obtain ⟨t, h9⟩ := st_row (i := 4) (N := 2) hs fla_4 fll_4 fle_4 (by omega) (hts _ k_253) (ok _ k_1) hA
        exact ⟨t, fun _ => h9⟩
      · obtain ⟨t, h9⟩ := st_row (i := 5) (N := 4) hs fla_5 fll_5 fle_5 (by omega) (hts _ k_249) (ok _ k_1) hA
        exact ⟨t, fun _ => h9⟩
      · obtain ⟨t, h9⟩ := st_row (i := 6) (N := 6) hs fla_6 fll_6 fle_6 (by omega) (hts _ k_255) (ok _ k_1) hA
        exact ⟨t, fun _ => h9⟩
      · obtain ⟨t, h9⟩ := st_row (i := 7) (N := 8) hs fla_7 fll_7 fle_7 (by omega) (hts _ k_241) (ok _ k_1) hA
        exact ⟨t, fun _ => h9⟩
      · obtain ⟨t, h9⟩ := st_row (i := 8) (N := 4) hs fla_8 fll_8 fle_8 (by omega) (hts _ k_243) (ok _ k_1) hA
        exact ⟨t, fun _ => h9⟩
      · obtain ⟨t, h9⟩ := st_row (i := 9) (N := 4) hs fla_9 fll_9 fle_9 (by omega) (hts _ k_257) (ok _ k_1) hA
        exact ⟨t, fun _ => h9⟩
      · obtain ⟨t, h9⟩ := st_row (i := 10) (N := 4) hs fla_10 fll_10 fle_10 (by omega) (hts _ k_259) (ok _ k_1) hA
        exact ⟨t, fun _ => h9⟩
      · obtain ⟨t, h9⟩ := st_row (i := 11) (N := 2) hs fla_11 fll_11 fle_11 (by omega) (hts _ k_261) (ok _ k_1) hA
        exact ⟨t, fun _ => h9⟩
      · obtain ⟨t, h9⟩ := st_row (i := 12) (N := 2) hs fla_12 fll_12 fle_12 (by omega) (hts _ k_263) (ok _ k_1) hA
        exact ⟨t, fun _ => h9⟩
      · obtain ⟨t, h9⟩ := st_row (i := 13) (N := 8) hs fla_13 fll_13 fle_13 (by omega) (hts _ k_265) (ok _ k_1) hA
        exact ⟨t, fun _ => h9⟩
      · obtain ⟨t, h9⟩ := st_row (i := 14) (N := 6) hs fla_14 fll_14 fle_14 (by omega) (hts _ k_267) (ok _ k_1) hA
        exact ⟨t, fun _ => h9⟩
      · obtain ⟨t, h9⟩ := st_row (i := 15) (N := 2) hs fla_15 fll_15 fle_15 (by omega) (hts _ k_269) (ok _ k_1) hA
        exact ⟨t, fun _ => h9⟩
      · obtain ⟨t, h9⟩ := st_row (i := 16) (N := 6) hs fla_16 fll_16 fle_16 (by omega) (hts _ k_247) (ok _ k_1) hA
        exact ⟨t, fun _ => h9⟩
      · obtain ⟨t, h9⟩ := st_row (i := 17) (N := 18) hs fla_17 fll_17 fle_17 (by omega) (hts _ k_245) (ok _ k_1) hA
        exact ⟨t, fun _ => h9⟩
      · obtain ⟨t, h9⟩ := st_row (i := 18) (N := 321) hs fla_18 fll_18 fle_18 (by omega) (hts _ k_24) (ok _ k_2) hA
        exact ⟨t, fun _ => h9⟩
      · obtain ⟨t, h9⟩ := st_row (i := 19) (N := 39) hs fla_19 fll_19 fle_19 (by omega) (hts _ k_33) (ok _ k_2) hA
        exact ⟨t, fun _ => h9⟩
      · obtain ⟨t, h9⟩ := st_row (i := 20) (N := 52) hs fla_20 fll_20 fle_20 (by omega) (hts _ k_62) (ok _ k_3) hA
        exact ⟨t, fun _ => h9⟩
      · obtain ⟨t, h9⟩ := st_row (i := 21) (N := 15) hs fla_21 fll_21 fle_21 (by omega) (hts _ k_75) (ok _ k_3) hA
        exact ⟨t, fun _ => h9⟩
    · exact ⟨0, fun h9 => absurd h9 h⟩
  exact ⟨fun i => Classical.choose (key i), fun i hi => Classical.choose_spec (key i) hi⟩
