theorem nxc_0 : nchk2 (NXb 1114111) Tc 0 187 = true := by decide +kernel
theorem nxc_1 : nchk2 (NXb 1114111) Tc 187 187 = true := by decide +kernel
theorem nxc_2 : nchk2 (NXb 1114111) Tc 374 187 = true := by decide +kernel
theorem nxc_3 : nchk2 (NXb 1114111) Tc 561 187 = true := by decide +kernel
theorem nxc_4 : nchk2 (NXb 1114111) Tc 748 187 = true := by decide +kernel
theorem nxc_5 : nchk2 (NXb 1114111) Tc 935 187 = true := by decide +kernel
theorem nxc_at {j : Nat} (hj : j < 1122) : NXb 1114111 j = ((nxT Tc (chN j) : Nat) : Int) := by
  rcases (show (0 ≤ j ∧ j < 187) ∨ (187 ≤ j ∧ j < 374) ∨ (374 ≤ j ∧ j < 561) ∨ (561 ≤ j ∧ j < 748) ∨ (748 ≤ j ∧ j < 935) ∨ (935 ≤ j ∧ j < 1122) by omega) with h | h | h | h | h | h
  · exact nchk2_ok nxc_0 h.1 (by omega)
  · exact nchk2_ok nxc_1 h.1 (by omega)
  · exact nchk2_ok nxc_2 h.1 (by omega)
  · exact nchk2_ok nxc_3 h.1 (by omega)
  · exact nchk2_ok nxc_4 h.1 (by omega)
  · exact nchk2_ok nxc_5 h.1 (by omega)
