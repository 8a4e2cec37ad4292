/-! THE REFERENCE'S SETS: bit c % 64 of word s * 17408 + c / 64 -/
def bt (bw : Nat → Nat) (s c : Nat) : Bool := (bw (s * 17408 + c / 64)).testBit (c % 64)
theorem bt_word {s s' c c' : Nat} (hc : c < 1114112) (hc' : c' < 1114112) : s' * 17408 + c' / 64 = s * 17408 + c / 64 ↔ s' = s ∧ c' / 64 = c / 64 := by omega
theorem bt_put {bw : Nat → Nat} {s s' c c' : Nat} (hc : c < 1114112) (hc' : c' < 1114112) : bt (va_up bw (s * 17408 + c / 64) (bw (s * 17408 + c / 64) ||| 2 ^ (c % 64))) s' c' = (bt bw s' c' || (decide (s' = s) && decide (c' = c))) := by
  unfold bt va_up
  by_cases h : s' * 17408 + c' / 64 = s * 17408 + c / 64
  · rw [if_pos h, Nat.testBit_or, Nat.testBit_two_pow, h]
    have := (bt_word hc hc').mp h
    by_cases q : c' = c
    · subst q; simp [this.1]
    · have q2 : ¬ c % 64 = c' % 64 := by omega
      simp [q, q2]
  · rw [if_neg h]
    by_cases q : s' = s ∧ c' = c
    · exact absurd (by rw [q.1, q.2]) h
    · have : (decide (s' = s) && decide (c' = c)) = false := by
        by_cases z : s' = s
        · have : ¬ c' = c := fun w => q ⟨z, w⟩
          simp [this]
        · simp [z]
      rw [this, Bool.or_false]
theorem bt_fill {bw : Nat → Nat} {s s' c c' : Nat} (hc : c < 1114112) (hc' : c' < 1114112) (h0 : c % 64 = 0) : bt (va_up bw (s * 17408 + c / 64) 18446744073709551615) s' c' = (bt bw s' c' || (decide (s' = s) && (decide (c ≤ c') && decide (c' < c + 64)))) := by
  unfold bt va_up
  have ones : ∀ j, j < 64 → (18446744073709551615 : Nat).testBit j = true := by decide +kernel
  by_cases h : s' * 17408 + c' / 64 = s * 17408 + c / 64
  · rw [if_pos h, ones _ (by omega)]
    have e := (bt_word hc hc').mp h
    have a : c ≤ c' := by omega
    have b : c' < c + 64 := by omega
    simp [e.1, a, b]
  · rw [if_neg h]
    have : (decide (s' = s) && (decide (c ≤ c') && decide (c' < c + 64))) = false := by
      by_cases z : s' = s
      · by_cases a : c ≤ c'
        · have : ¬ c' < c + 64 := by intro b; exact h (by omega)
          simp [this]
        · simp [a]
      · simp [z]
    rw [this, Bool.or_false]
theorem cnt_word (p : Nat → Bool) (w : Nat) : cnt p (64 * (w + 1)) = cnt p (64 * w) + cnt (fun j => p (64 * w + j)) 64 := by
  rw [show 64 * (w + 1) = 64 * w + 64 by omega, cnt_add]
theorem bt_at (bw : Nat → Nat) (s w j : Nat) (hj : j < 64) : bt bw s (64 * w + j) = (bw (s * 17408 + w)).testBit j := by
  unfold bt
  rw [show (64 * w + j) / 64 = w by omega, show (64 * w + j) % 64 = j by omega]
/-- the reference's word of starts of ranges -/
theorem rst_word {b : Nat} (bw : Nat → Nat) (s w : Nat) (hb : b = bw (s * 17408 + w)) (before : Nat) (hbf : before = if w = 0 then 0 else bw (s * 17408 + (w - 1)) / 9223372036854775808) (hlt : ∀ j, bw j < 18446744073709551616) :
    cnt (fun j => (b &&& ((b * 2 % 18446744073709551616 ||| before) ^^^ 18446744073709551615)).testBit j) 64 = cnt (fun j => rst (bt bw s) (64 * w + j)) 64 := by
  have ones : ∀ j, j < 64 → (18446744073709551615 : Nat).testBit j = true := by decide +kernel
  refine cnt_congr (fun j hj => ?_)
  show (b &&& ((b * 2 % 2 ^ 64 ||| before) ^^^ 18446744073709551615)).testBit j = _
  rw [Nat.testBit_and, Nat.testBit_xor, ones j hj, Nat.testBit_or, Nat.testBit_mod_two_pow]
  unfold rst
  rw [bt_at bw s w j hj, ← hb]
  congr 1
  rcases Nat.eq_zero_or_pos j with q | q
  · subst q
    have e1 : (b * 2).testBit 0 = false := by rw [Nat.testBit_zero]; simp
    rw [e1]
    rcases Nat.eq_zero_or_pos w with z | z
    · subst z
      rw [hbf]; simp
    · have hlt1 := hlt (s * 17408 + (w - 1))
      have e2 : before.testBit 0 = bt bw s (64 * w + 0 - 1) := by
        rw [show 64 * w + 0 - 1 = 64 * (w - 1) + 63 by omega, bt_at bw s (w - 1) 63 (by omega), hbf, if_neg (by omega), Nat.testBit_zero, Nat.testBit_eq_decide_div_mod_eq]
      rw [e2]
      have : (64 * w + 0 == 0) = false := by simp; omega
      rw [this]; simp
  · have e1 : (b * 2).testBit j = b.testBit (j - 1) := by
      obtain ⟨i, rfl⟩ : ∃ i, j = i + 1 := ⟨j - 1, by omega⟩
      rw [Nat.testBit_add_one, Nat.mul_div_cancel _ (by decide)]; rfl
    have e2 : before.testBit j = false := by
      apply Nat.testBit_lt_two_pow
      have : before < 2 := by
        rw [hbf]; split
        · omega
        · have := hlt (s * 17408 + (w - 1)); omega
      have : 2 ^ 1 ≤ 2 ^ j := Nat.pow_le_pow_right (by decide) q
      omega
    rw [e1, e2]
    have e3 : bt bw s (64 * w + j - 1) = b.testBit (j - 1) := by
      rw [show 64 * w + j - 1 = 64 * w + (j - 1) by omega, bt_at bw s w (j - 1) (by omega), ← hb]
    rw [e3]
    have : (64 * w + j == 0) = false := by simp; omega
    rw [this]
    simp [hj]
