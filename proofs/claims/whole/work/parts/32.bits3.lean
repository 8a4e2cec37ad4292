theorem top_gen (A L S U : Nat) (hA : 0 < A) (hL : L < A) (hS : S < 256) : (L + A * S + 256 * A * U) % (256 * A) / A = S := by
  have h1 : L + A * S < 256 * A := by
    have : A * S + A ≤ A * 256 := by rw [← Nat.mul_succ]; exact Nat.mul_le_mul_left A hS
    rw [Nat.mul_comm 256 A]
    omega
  rw [Nat.add_mul_mod_self_left, Nat.mod_eq_of_lt h1, Nat.add_mul_div_left _ _ hA, Nat.div_eq_of_lt hL, Nat.zero_add]
theorem top_aux (L S U : Nat) (hL : L < 72057594037927936) (hS : S ≤ 64) : (L + 72057594037927936 * S + 18446744073709551616 * U) % 18446744073709551616 / 72057594037927936 = S := top_gen 72057594037927936 L S U (by decide) hL (Nat.lt_of_le_of_lt hS (by decide))
theorem top_key (x L S U : Nat) (h : x = L + 72057594037927936 * S + 18446744073709551616 * U) (hL : L < 72057594037927936) (hS : S ≤ 64) : x % 18446744073709551616 / 72057594037927936 = S := by
  subst h
  exact top_aux L S U hL hS
