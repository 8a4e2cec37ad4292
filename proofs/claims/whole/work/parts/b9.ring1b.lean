theorem nxb_0 : nchk2 (NXb 255) Tb 0 187 = true := by decide +kernel
theorem nxb_1 : nchk2 (NXb 255) Tb 187 187 = true := by decide +kernel
theorem nxb_2 : nchk2 (NXb 255) Tb 374 187 = true := by decide +kernel
theorem nxb_3 : nchk2 (NXb 255) Tb 561 187 = true := by decide +kernel
theorem nxb_4 : nchk2 (NXb 255) Tb 748 187 = true := by decide +kernel
theorem nxb_5 : nchk2 (NXb 255) Tb 935 187 = true := by decide +kernel
theorem nxb_at {j : Nat} (hj : j < 1122) : NXb 255 j = ((nxT Tb (chN j) : Nat) : Int) := by
  rcases (show (0 ≤ j ∧ j < 187) ∨ (187 ≤ j ∧ j < 374) ∨ (374 ≤ j ∧ j < 561) ∨ (561 ≤ j ∧ j < 748) ∨ (748 ≤ j ∧ j < 935) ∨ (935 ≤ j ∧ j < 1122) by omega) with h | h | h | h | h | h
  · exact nchk2_ok nxb_0 h.1 (by omega)
  · exact nchk2_ok nxb_1 h.1 (by omega)
  · exact nchk2_ok nxb_2 h.1 (by omega)
  · exact nchk2_ok nxb_3 h.1 (by omega)
  · exact nchk2_ok nxb_4 h.1 (by omega)
  · exact nchk2_ok nxb_5 h.1 (by omega)
