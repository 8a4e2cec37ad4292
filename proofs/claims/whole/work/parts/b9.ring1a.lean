theorem nxa_0 : nchk2 (NXa 255) Ta 0 187 = true := by decide +kernel
theorem nxa_1 : nchk2 (NXa 255) Ta 187 187 = true := by decide +kernel
theorem nxa_2 : nchk2 (NXa 255) Ta 374 187 = true := by decide +kernel
theorem nxa_3 : nchk2 (NXa 255) Ta 561 187 = true := by decide +kernel
theorem nxa_4 : nchk2 (NXa 255) Ta 748 187 = true := by decide +kernel
theorem nxa_5 : nchk2 (NXa 255) Ta 935 187 = true := by decide +kernel
theorem nxa_at {j : Nat} (hj : j < 1122) : NXa 255 j = ((nxT Ta (chN j) : Nat) : Int) := by
  rcases (show (0 ≤ j ∧ j < 187) ∨ (187 ≤ j ∧ j < 374) ∨ (374 ≤ j ∧ j < 561) ∨ (561 ≤ j ∧ j < 748) ∨ (748 ≤ j ∧ j < 935) ∨ (935 ≤ j ∧ j < 1122) by omega) with h | h | h | h | h | h
  · exact nchk2_ok nxa_0 h.1 (by omega)
  · exact nchk2_ok nxa_1 h.1 (by omega)
  · exact nchk2_ok nxa_2 h.1 (by omega)
  · exact nchk2_ok nxa_3 h.1 (by omega)
  · exact nchk2_ok nxa_4 h.1 (by omega)
  · exact nchk2_ok nxa_5 h.1 (by omega)
