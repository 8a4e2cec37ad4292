/-! more of the reference's sets -/
theorem pow64 (k : Nat) (hk : k < 64) : 2 ^ k < 18446744073709551616 := Nat.pow_lt_pow_right (by decide) hk
theorem wb_xorN {a b : Nat} : lN a ^^^ lN b = lN (a ^^^ b) := by
  apply wb_inj
  rw [Int64.toBitVec_xor, wb_tb, wb_tb, wb_tb]
  apply BitVec.eq_of_toNat_eq
  rw [BitVec.toNat_xor, BitVec.toNat_ofNat, BitVec.toNat_ofNat, BitVec.toNat_ofNat, Nat.xor_mod_two_pow]
theorem or_lt {a b : Nat} (ha : a < 18446744073709551616) (hb : b < 18446744073709551616) : a ||| b < 18446744073709551616 := Nat.or_lt_two_pow (n := 64) ha hb
theorem and_lt {a b : Nat} (ha : a < 18446744073709551616) : a &&& b < 18446744073709551616 := Nat.lt_of_le_of_lt Nat.and_le_left ha
theorem xor_lt {a b : Nat} (ha : a < 18446744073709551616) (hb : b < 18446744073709551616) : a ^^^ b < 18446744073709551616 := Nat.xor_lt_two_pow (n := 64) ha hb
def fl (bw b2 : Nat → Nat) (s low c : Nat) : Prop := (∀ j, b2 j < 18446744073709551616) ∧ ∀ s' c', c' < 1114112 → bt b2 s' c' = (bt bw s' c' || (decide (s' = s) && (decide (low ≤ c') && decide (c' < c))))
theorem fl_0 {bw : Nat → Nat} {s low : Nat} (h : ∀ j, bw j < 18446744073709551616) : fl bw bw s low low := by
  refine ⟨h, fun s' c' _ => ?_⟩
  have : (decide (low ≤ c') && decide (c' < low)) = false := by
    by_cases q : low ≤ c'
    · have : ¬ c' < low := by omega
      simp [this]
    · simp [q]
  rw [this, Bool.and_false, Bool.or_false]
theorem up_lt {b2 : Nat → Nat} {k v : Nat} (h : ∀ j, b2 j < 18446744073709551616) (hv : v < 18446744073709551616) : ∀ j, va_up b2 k v j < 18446744073709551616 := fun j => by
  unfold va_up
  split
  · exact hv
  · exact h j
theorem fl_put {bw b2 : Nat → Nat} {s low c : Nat} (h : fl bw b2 s low c) (hl : low ≤ c) (hc : c < 1114112) : fl bw (va_up b2 (s * 17408 + c / 64) (b2 (s * 17408 + c / 64) ||| 2 ^ (c % 64))) s low (c + 1) := by
  refine ⟨up_lt h.1 (or_lt (h.1 _) (pow64 _ (by omega))), fun s' c' hc' => ?_⟩
  rw [bt_put hc hc', h.2 s' c' hc', Bool.or_assoc]
  congr 1
  by_cases a : s' = s
  · by_cases b : c' = c
    · subst b; simp [a, hl]
    · have e : (c' < c + 1) ↔ (c' < c) := by omega
      simp [a, b, e]
  · simp [a]
theorem fl_fill {bw b2 : Nat → Nat} {s low c : Nat} (h : fl bw b2 s low c) (hl : low ≤ c) (hc : c + 63 < 1114112) (h0 : c % 64 = 0) : fl bw (va_up b2 (s * 17408 + c / 64) 18446744073709551615) s low (c + 64) := by
  refine ⟨up_lt h.1 (by decide), fun s' c' hc' => ?_⟩
  rw [bt_fill (by omega) hc' h0, h.2 s' c' hc', Bool.or_assoc]
  congr 1
  by_cases a : s' = s
  · by_cases b : c' < c
    · have e1 : ¬ c ≤ c' := by omega
      have e2 : c' < c + 64 := by omega
      simp [a, b, e1, e2]
    · by_cases d : c' < c + 64
      · have e1 : c ≤ c' := by omega
        have e2 : low ≤ c' := by omega
        simp [a, b, d, e1, e2]
      · simp [a, b, d]
  · simp [a]
theorem cnt_w (bw : Nat → Nat) (s w : Nat) : cnt (bt bw s) (64 * (w + 1)) = cnt (bt bw s) (64 * w) + cnt (fun i => (bw (s * 17408 + w)).testBit i) 64 := by
  rw [cnt_word]
  congr 1
  exact cnt_congr (fun j hj => bt_at bw s w j hj)
def bfw (bw : Nat → Nat) (s w : Nat) : Nat := if w = 0 then 0 else bw (s * 17408 + (w - 1)) / 9223372036854775808
theorem bfw_lt {bw : Nat → Nat} {s w : Nat} (h : ∀ j, bw j < 18446744073709551616) : bfw bw s w < 18446744073709551616 := by
  unfold bfw
  split
  · decide
  · exact Nat.lt_of_le_of_lt (Nat.div_le_self _ _) (h _)
theorem bfw_s (bw : Nat → Nat) (s w : Nat) : bw (s * 17408 + w) / 2 ^ 63 = bfw bw s (w + 1) := by
  unfold bfw
  rw [if_neg (by omega)]
  rfl
def rw64 (b f : Nat) : Nat := b &&& ((b * 2 % 18446744073709551616 ||| f) ^^^ 18446744073709551615)
theorem cnt_r {bw : Nat → Nat} (h : ∀ j, bw j < 18446744073709551616) (s w : Nat) : cnt (rst (bt bw s)) (64 * (w + 1)) = cnt (rst (bt bw s)) (64 * w) + cnt (fun i => (rw64 (bw (s * 17408 + w)) (bfw bw s w)).testBit i) 64 := by
  rw [cnt_word]
  congr 1
  exact (rst_word bw s w rfl (bfw bw s w) rfl h).symm
theorem wb_shl1 {b : Nat} : lN b <<< ((iI 1).toInt64 &&& 63) = lN (b * 2 % 18446744073709551616) := by
  have e : lN b <<< ((nI 1).toInt64 &&& 63) = lN (b * 2 ^ 1) := wb_shl b (by decide)
  have e2 : lN (b * 2 ^ 1) = lN (b * 2 ^ 1 % 2 ^ 64) := wb_mod _
  exact e.trans e2
def nameF (uc k c : Int) : Prop := if uc = 0 then plainF k c else wideF k c
theorem cnt_le (p : Nat → Bool) : ∀ n, cnt p n ≤ n
  | 0 => Nat.le_refl _
  | n + 1 => by
    show cnt p n + (if p n = true then 1 else 0) ≤ n + 1
    have := cnt_le p n
    split <;> omega
