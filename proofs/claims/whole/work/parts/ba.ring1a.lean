theorem kra_0 : krC 0 0 255 (nxI Ta) 0 64 = true := by decide +kernel
theorem kra_1 : krC 0 0 255 (nxI Ta) 64 64 = true := by decide +kernel
theorem kra_2 : krC 0 0 255 (nxI Ta) 128 64 = true := by decide +kernel
theorem kra_3 : krC 0 0 255 (nxI Ta) 192 64 = true := by decide +kernel
theorem ring_a {c : Int} (h : 0 ≤ c ∧ c ≤ 255) : KR 0 0 255 (nxI Ta) c := by
  obtain ⟨n, rfl⟩ : ∃ n : Nat, c = ((n : Nat) : Int) := ⟨c.toNat, by omega⟩
  rcases (show (0 ≤ n ∧ n < 64) ∨ (64 ≤ n ∧ n < 128) ∨ (128 ≤ n ∧ n < 192) ∨ (192 ≤ n ∧ n < 256) by omega) with w | w | w | w
  · exact krC_ok kra_0 w.1 (by omega)
  · exact krC_ok kra_1 w.1 (by omega)
  · exact krC_ok kra_2 w.1 (by omega)
  · exact krC_ok kra_3 w.1 (by omega)
