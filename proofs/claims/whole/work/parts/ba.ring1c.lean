theorem krc_0 : krC 1 0 1114111 (nxI Tc) 0 80 = true := by decide +kernel
theorem krc_1 : krC 1 0 1114111 (nxI Tc) 80 80 = true := by decide +kernel
theorem krc_2 : krC 1 0 1114111 (nxI Tc) 160 80 = true := by decide +kernel
theorem krc_3 : krC 1 0 1114111 (nxI Tc) 240 80 = true := by decide +kernel
theorem krc_4 : krC 1 0 1114111 (nxI Tc) 320 80 = true := by decide +kernel
theorem krc_5 : krC 1 0 1114111 (nxI Tc) 400 80 = true := by decide +kernel
theorem krc_6 : krC 1 0 1114111 (nxI Tc) 480 80 = true := by decide +kernel
theorem krc_7 : krC 1 0 1114111 (nxI Tc) 560 80 = true := by decide +kernel
theorem krc_8 : krC 1 0 1114111 (nxI Tc) 640 80 = true := by decide +kernel
theorem krc_9 : krC 1 0 1114111 (nxI Tc) 720 80 = true := by decide +kernel
theorem krc_10 : krC 1 0 1114111 (nxI Tc) 800 80 = true := by decide +kernel
theorem krc_11 : krC 1 0 1114111 (nxI Tc) 880 80 = true := by decide +kernel
theorem krc_12 : krC 1 0 1114111 (nxI Tc) 960 80 = true := by decide +kernel
theorem krc_13 : krC 1 0 1114111 (nxI Tc) 1040 80 = true := by decide +kernel
theorem krc_s : krC 1 0 1114111 (nxI Tc) 8490 2 = true := by decide +kernel
theorem ring_c {c : Int} (h : 0 ≤ c ∧ c ≤ 1114111) : KR 1 0 1114111 (nxI Tc) c := by
  obtain ⟨n, rfl⟩ : ∃ n : Nat, c = ((n : Nat) : Int) := ⟨c.toNat, by omega⟩
  rcases (show (0 ≤ n ∧ n < 80) ∨ (80 ≤ n ∧ n < 160) ∨ (160 ≤ n ∧ n < 240) ∨ (240 ≤ n ∧ n < 320) ∨ (320 ≤ n ∧ n < 400) ∨ (400 ≤ n ∧ n < 480) ∨ (480 ≤ n ∧ n < 560) ∨ (560 ≤ n ∧ n < 640) ∨ (640 ≤ n ∧ n < 720) ∨ (720 ≤ n ∧ n < 800) ∨ (800 ≤ n ∧ n < 880) ∨ (880 ≤ n ∧ n < 960) ∨ (960 ≤ n ∧ n < 1040) ∨ (1040 ≤ n ∧ n < 1120) ∨ (n = 8490 ∨ n = 8491) ∨ (1120 ≤ n ∧ n ≠ 8490 ∧ n ≠ 8491) by omega) with w | w | w | w | w | w | w | w | w | w | w | w | w | w | w | w
  · exact krC_ok krc_0 w.1 (by omega)
  · exact krC_ok krc_1 w.1 (by omega)
  · exact krC_ok krc_2 w.1 (by omega)
  · exact krC_ok krc_3 w.1 (by omega)
  · exact krC_ok krc_4 w.1 (by omega)
  · exact krC_ok krc_5 w.1 (by omega)
  · exact krC_ok krc_6 w.1 (by omega)
  · exact krC_ok krc_7 w.1 (by omega)
  · exact krC_ok krc_8 w.1 (by omega)
  · exact krC_ok krc_9 w.1 (by omega)
  · exact krC_ok krc_10 w.1 (by omega)
  · exact krC_ok krc_11 w.1 (by omega)
  · exact krC_ok krc_12 w.1 (by omega)
  · exact krC_ok krc_13 w.1 (by omega)
  · exact krC_ok krc_s (by omega) (by omega)
  · refine kr_triv ?_ (kin_hi (by omega) (by omega) (by omega) (by omega))
    unfold nxI
    rw [if_neg (by omega), nxT_hi (by decide +kernel) (by omega) (by omega) (by omega)]; omega
