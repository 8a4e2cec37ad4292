theorem kin_uc (la c : Int) : kinL 1 1 la c = kinL 1 0 la c := by
  unfold kinL
  rw [if_neg (show ¬ (((1 : Int) = 0 ∧ (1 : Int) = 0) ∧ ¬ (65 ≤ aF c ∧ aF c ≤ 90)) by omega), if_neg (show ¬ (((1 : Int) = 0 ∧ (0 : Int) = 0) ∧ ¬ (65 ≤ aF c ∧ aF c ≤ 90)) by omega), if_neg (show ¬ ((1 : Int) = 0 ∧ (1 : Int) = 0) by omega), if_neg (show ¬ ((1 : Int) = 0 ∧ (0 : Int) = 0) by omega)]
theorem ring_d {c : Int} (h : 0 ≤ c ∧ c ≤ 1114111) : KR 1 1 1114111 (nxI Tc) c := by
  have := ring_c h
  unfold KR upF lwF at this ⊢
  simp only [kin_uc]
  exact this
