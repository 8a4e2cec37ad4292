/-! the reference's writers: words s * 17408 .. s * 17408 + w - 1 made anew -/
def mw (bw : Nat → Nat) (s w : Nat) (F : Nat → Nat) : Nat → Nat := fun j => if s * 17408 ≤ j ∧ j < s * 17408 + w then F j else bw j
theorem mw_0 (bw : Nat → Nat) (s : Nat) (F : Nat → Nat) : mw bw s 0 F = bw := by
  funext j
  unfold mw
  rw [if_neg (by omega)]
theorem mw_s (bw : Nat → Nat) (s w : Nat) (F : Nat → Nat) : va_up (mw bw s w F) (s * 17408 + w) (F (s * 17408 + w)) = mw bw s (w + 1) F := by
  funext j
  unfold va_up mw
  by_cases h : j = s * 17408 + w
  · rw [if_pos h, if_pos (by omega), h]
  · rw [if_neg h]
    by_cases q : s * 17408 ≤ j ∧ j < s * 17408 + w
    · rw [if_pos q, if_pos (by omega)]
    · rw [if_neg q, if_neg (by omega)]
theorem mw_at (bw : Nat → Nat) (s t w : Nat) (F : Nat → Nat) (hw : w < 17408) : mw bw s w F (t * 17408 + w) = bw (t * 17408 + w) := by
  unfold mw
  rw [if_neg (by omega)]
theorem mw_inv (bw : Nat → Nat) (s w : Nat) (hw : w < 17408) : va_up (mw bw s w (fun j => bw j ^^^ 18446744073709551615)) (s * 17408 + w) (mw bw s w (fun j => bw j ^^^ 18446744073709551615) (s * 17408 + w) ^^^ 18446744073709551615) = mw bw s (w + 1) (fun j => bw j ^^^ 18446744073709551615) := by
  rw [mw_at bw s s w _ hw]
  exact mw_s bw s w (fun j => bw j ^^^ 18446744073709551615)
def jF (bw : Nat → Nat) (s t : Nat) : Nat → Nat := fun j => bw j ||| bw (t * 17408 + (j - s * 17408))
theorem mw_join (bw : Nat → Nat) (s t w : Nat) (hw : w < 17408) : va_up (mw bw s w (jF bw s t)) (s * 17408 + w) (mw bw s w (jF bw s t) (s * 17408 + w) ||| mw bw s w (jF bw s t) (t * 17408 + w)) = mw bw s (w + 1) (jF bw s t) := by
  rw [mw_at bw s s w _ hw, mw_at bw s t w _ hw, ← mw_s bw s w (jF bw s t)]
  congr 1
  show _ = bw (s * 17408 + w) ||| bw (t * 17408 + (s * 17408 + w - s * 17408))
  rw [show s * 17408 + w - s * 17408 = w by omega]
theorem mw_lt {bw : Nat → Nat} {s w : Nat} {F : Nat → Nat} (h : ∀ j, bw j < 18446744073709551616) (hF : ∀ j, F j < 18446744073709551616) : ∀ j, mw bw s w F j < 18446744073709551616 := fun j => by
  unfold mw
  split
  · exact hF j
  · exact h j
/-- set s is now p below lim, the others are as they were -/
def chg (bw b2 : Nat → Nat) (s lim : Nat) (p : Nat → Bool) : Prop := (∀ j, b2 j < 18446744073709551616) ∧ (∀ s' c', c' < 1114112 → s' ≠ s → bt b2 s' c' = bt bw s' c') ∧ ∀ c', c' < lim → bt b2 s c' = p c'
theorem mw_chg {bw : Nat → Nat} {s nw : Nat} {F : Nat → Nat} (h : ∀ j, bw j < 18446744073709551616) (hF : ∀ j, F j < 18446744073709551616) (hn : nw ≤ 17408) : chg bw (mw bw s nw F) s (64 * nw) (fun c => (F (s * 17408 + c / 64)).testBit (c % 64)) := by
  refine ⟨mw_lt h hF, fun s' c' hc hs => ?_, fun c' hc => ?_⟩
  · unfold bt mw
    rw [if_neg (by omega)]
  · unfold bt mw
    rw [if_pos (by omega)]
theorem chg_congr {bw b2 : Nat → Nat} {s lim : Nat} {p q : Nat → Bool} (h : chg bw b2 s lim p) (e : ∀ c, c < lim → p c = q c) : chg bw b2 s lim q := ⟨h.1, h.2.1, fun c hc => (h.2.2 c hc).trans (e c hc)⟩
theorem chg_clear {bw : Nat → Nat} {s nw : Nat} (h : ∀ j, bw j < 18446744073709551616) (hn : nw ≤ 17408) : chg bw (mw bw s nw (fun _ => 0)) s (64 * nw) (fun _ => false) :=
  chg_congr (mw_chg h (fun _ => by decide) hn) (fun c _ => Nat.zero_testBit _)
theorem chg_inv {bw : Nat → Nat} {s nw : Nat} (h : ∀ j, bw j < 18446744073709551616) (hn : nw ≤ 17408) : chg bw (mw bw s nw (fun j => bw j ^^^ 18446744073709551615)) s (64 * nw) (fun c => !bt bw s c) := by
  have ones : ∀ j, j < 64 → (18446744073709551615 : Nat).testBit j = true := by decide +kernel
  refine chg_congr (mw_chg h (fun j => xor_lt (h j) (by decide)) hn) (fun c _ => ?_)
  rw [Nat.testBit_xor, ones _ (by omega)]
  unfold bt
  simp
theorem chg_join {bw : Nat → Nat} {s t nw : Nat} (h : ∀ j, bw j < 18446744073709551616) (hn : nw ≤ 17408) : chg bw (mw bw s nw (jF bw s t)) s (64 * nw) (fun c => bt bw s c || bt bw t c) := by
  refine chg_congr (mw_chg h (fun j => or_lt (h j) (h _)) hn) (fun c _ => ?_)
  show (bw (s * 17408 + c / 64) ||| bw (t * 17408 + (s * 17408 + c / 64 - s * 17408))).testBit (c % 64) = _
  rw [Nat.testBit_or, show s * 17408 + c / 64 - s * 17408 = c / 64 by omega]
  rfl
theorem chg_fl {bw b2 : Nat → Nat} {s low high lim : Nat} (h : fl bw b2 s low (high + 1)) (hl : lim ≤ 1114112) : chg bw b2 s lim (fun c => bt bw s c || (decide (low ≤ c) && decide (c ≤ high))) := by
  refine ⟨h.1, fun s' c' hc hs => ?_, fun c' hc => ?_⟩
  · rw [h.2 s' c' hc]; simp [hs]
  · rw [h.2 s c' (by omega)]
    have e : (c' < high + 1) ↔ (c' ≤ high) := by omega
    simp [e]
theorem rst_congr {p q : Nat → Bool} {lim : Nat} (h : ∀ c, c < lim → p c = q c) : cnt (rst p) lim = cnt (rst q) lim := by
  refine cnt_congr (fun c hc => ?_)
  unfold rst
  rw [h c hc]
  rcases Nat.eq_zero_or_pos c with z | z
  · subst z; rfl
  · rw [h (c - 1) (by omega)]
theorem chg_r {bw b2 : Nat → Nat} {s lim : Nat} {p : Nat → Bool} (h : chg bw b2 s lim p) : cnt (rst (bt b2 s)) lim = cnt (rst p) lim := rst_congr (fun c hc => h.2.2 c hc)
theorem chg_c {bw b2 : Nat → Nat} {s lim : Nat} {p : Nat → Bool} (h : chg bw b2 s lim p) : cnt (bt b2 s) lim = cnt p lim := cnt_congr (fun c hc => h.2.2 c hc)
theorem or0 {a b : Nat} : a ||| b = 0 ↔ a = 0 ∧ b = 0 := by
  constructor
  · intro h
    constructor
    · exact Nat.eq_zero_of_le_zero (h ▸ Nat.left_le_or)
    · exact Nat.eq_zero_of_le_zero (h ▸ Nat.right_le_or)
  · intro ⟨h1, h2⟩; rw [h1, h2]; rfl
theorem bits0 {a : Nat} (ha : a < 18446744073709551616) : a = 0 ↔ ∀ j, j < 64 → a.testBit j = false := by
  constructor
  · intro h j _; rw [h]; exact Nat.zero_testBit _
  · intro h
    apply Nat.eq_of_testBit_eq
    intro j
    rw [Nat.zero_testBit]
    by_cases q : j < 64
    · exact h j q
    · exact Nat.testBit_lt_two_pow (Nat.lt_of_lt_of_le ha (show 2 ^ 64 ≤ 2 ^ j from Nat.pow_le_pow_right (by decide) (by omega)))
/-- words that are all 0 by a function of two bits -/
theorem words0 {bw : Nat → Nat} {s t nw : Nat} {G : Nat → Nat → Nat} {f : Bool → Bool → Bool} (h : ∀ j, bw j < 18446744073709551616) (hG : ∀ a b, a < 18446744073709551616 → b < 18446744073709551616 → G a b < 18446744073709551616) (hb : ∀ a b j, (G a b).testBit j = f (a.testBit j) (b.testBit j)) :
    (∀ w, w < nw → G (bw (s * 17408 + w)) (bw (t * 17408 + w)) = 0) ↔ ∀ c, c < 64 * nw → f (bt bw s c) (bt bw t c) = false := by
  constructor
  · intro q c hc
    have := (bits0 (hG _ _ (h _) (h _))).mp (q (c / 64) (by omega)) (c % 64) (by omega)
    rw [hb] at this
    exact this
  · intro q w hw
    refine (bits0 (hG _ _ (h _) (h _))).mpr (fun j hj => ?_)
    rw [hb]
    have := q (64 * w + j) (by omega)
    rw [bt_at bw s w j hj, bt_at bw t w j hj] at this
    exact this
