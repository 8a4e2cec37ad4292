theorem krb_0 : krC 0 1 255 (nxI Tb) 0 64 = true := by decide +kernel
theorem krb_1 : krC 0 1 255 (nxI Tb) 64 64 = true := by decide +kernel
theorem krb_2 : krC 0 1 255 (nxI Tb) 128 64 = true := by decide +kernel
theorem krb_3 : krC 0 1 255 (nxI Tb) 192 64 = true := by decide +kernel
theorem ring_b {c : Int} (h : 0 ≤ c ∧ c ≤ 255) : KR 0 1 255 (nxI Tb) c := by
  obtain ⟨n, rfl⟩ : ∃ n : Nat, c = ((n : Nat) : Int) := ⟨c.toNat, by omega⟩
  rcases (show (0 ≤ n ∧ n < 64) ∨ (64 ≤ n ∧ n < 128) ∨ (128 ≤ n ∧ n < 192) ∨ (192 ≤ n ∧ n < 256) by omega) with w | w | w | w
  · exact krC_ok krb_0 w.1 (by omega)
  · exact krC_ok krb_1 w.1 (by omega)
  · exact krC_ok krb_2 w.1 (by omega)
  · exact krC_ok krb_3 w.1 (by omega)
