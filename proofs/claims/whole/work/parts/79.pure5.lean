/-! least, after, bound -/
theorem word_bt {bw : Nat → Nat} {s f d : Nat} (h : d / 64 = f / 64) {v : Nat} (hv : bw (s * 17408 + f / 64) = v) : bt bw s d = v.testBit (d % 64) := by
  unfold bt
  rw [h, hv]
def Aft (last : Nat) (p : Nat → Bool) (c a : Nat) : Prop := c ≤ a ∧ a ≤ last + 1 ∧ (∀ d, c ≤ d → d < a → p d = true) ∧ (a = last + 1 ∨ p a = false)
theorem Aft_eq {last : Nat} {p : Nat → Bool} {c a b : Nat} (h : Aft last p c a) (h' : Aft last p c b) : a = b := by
  rcases Nat.lt_trichotomy a b with q | q | q
  · have := h'.2.2.1 a h.1 q
    rcases h.2.2.2 with z | z
    · have := h'.2.1; omega
    · rw [z] at this; cases this
  · exact q
  · have := h.2.2.1 b h'.1 q
    rcases h'.2.2.2 with z | z
    · have := h.2.1; omega
    · rw [z] at this; cases this
def bnd (es : Nat → Int) (n i : Nat) : Int := if 2 * i < n then es (2 * i) else -1
theorem lst_0 {last : Nat} {es : Nat → Int} {n : Nat} {p : Nat → Bool} (h : rep last es n p) : Lst last p 0 (bnd es n 0) := by
  have h' := h
  obtain ⟨ha, hev, hb, hp⟩ := h
  unfold bnd
  by_cases q : 2 * 0 < n
  · rw [if_pos q]
    obtain ⟨k, hk⟩ := Up_ex (0 : Int) ha
    have b0 := hb 0 (by omega)
    show Lst last p 0 (es 0)
    by_cases z : es 0 = 0
    · have : k % 2 = 1 := by
        have k1 : 0 < k := by
          rcases Nat.eq_zero_or_pos k with w | w
          · have := hk.2.2 0 (by omega) (by omega); omega
          · exact w
        have k2 : k ≤ 1 := by
          rcases Nat.lt_or_ge 1 k with w | w
          · have := hk.2.1 1 w
            have := ha 0 1 (by omega) (by have := hk.1; omega)
            omega
          · exact w
        omega
      rw [z]
      exact (rep_odd h' hk this).2.2.2
    · have k0 : k = 0 := by
        rcases Nat.eq_zero_or_pos k with w | w
        · exact w
        · have := hk.2.1 0 w; omega
      subst k0
      exact (rep_even h' hk rfl (by omega)).2.2
  · rw [if_neg q]
    have : n = 0 := by omega
    subst this
    exact rep_end h' ⟨Nat.le_refl _, fun i hi => absurd hi (by omega), fun i _ hi => absurd hi (by omega)⟩
theorem lst_next {last : Nat} {es : Nat → Int} {n i : Nat} {p : Nat → Bool} (h : rep last es n p) (hi : 2 * i + 1 < n) : Lst last p (es (2 * i + 1)) (bnd es n (i + 1)) := by
  have h' := h
  obtain ⟨ha, hev, hb, hp⟩ := h
  have hk : Up es n (es (2 * i + 1)) (2 * (i + 1)) := by
    refine ⟨by omega, fun j hj => ?_, fun j x y => ?_⟩
    · by_cases q : j = 2 * i + 1
      · rw [q]; exact Int.le_refl _
      · have := ha j (2 * i + 1) (by omega) hi; omega
    · exact ha (2 * i + 1) j (by omega) y
  unfold bnd
  by_cases q : 2 * (i + 1) < n
  · rw [if_pos q]
    exact (rep_even h' hk (by omega) q).2.2
  · rw [if_neg q]
    have e : 2 * (i + 1) = n := by omega
    rw [e] at hk
    exact rep_end h' hk
theorem aft_at {last : Nat} {es : Nat → Int} {n i : Nat} {p : Nat → Bool} (h : rep last es n p) (hi : 2 * i < n) : Aft last p (es (2 * i)).toNat (es (2 * i + 1)).toNat := by
  have h' := h
  obtain ⟨ha, hev, hb, hp⟩ := h
  have b0 := hb (2 * i) hi
  have b1 := hb (2 * i + 1) (by omega)
  have a1 := ha (2 * i) (2 * i + 1) (by omega) (by omega)
  refine ⟨by omega, by omega, fun d x y => ?_, ?_⟩
  · exact (rep_in h' (by omega)).mpr ⟨i, by omega, by omega, by omega⟩
  · by_cases q : es (2 * i + 1) = (last : Int) + 1
    · exact Or.inl (by omega)
    · right
      refine rep_false h' (k := 2 * i + 2) (by omega) ?_ (by omega)
      have e : (((es (2 * i + 1)).toNat : Nat) : Int) = es (2 * i + 1) := by omega
      rw [e]
      refine ⟨by omega, fun j hj => ?_, fun j x y => ?_⟩
      · by_cases z : j = 2 * i + 1
        · rw [z]; exact Int.le_refl _
        · have := ha j (2 * i + 1) (by omega) (by omega); omega
      · exact ha (2 * i + 1) j (by omega) y
theorem bnd_in {last : Nat} {es : Nat → Int} {n i : Nat} {p : Nat → Bool} (h : rep last es n p) : (bnd es n i = -1 ∧ n ≤ 2 * i) ∨ (2 * i + 1 < n ∧ bnd es n i = es (2 * i) ∧ 0 ≤ es (2 * i) ∧ es (2 * i) ≤ last ∧ es (2 * i) < es (2 * i + 1) ∧ es (2 * i + 1) ≤ (last : Int) + 1) := by
  obtain ⟨ha, hev, hb, hp⟩ := h
  unfold bnd
  by_cases q : 2 * i < n
  · rw [if_pos q]
    have b0 := hb (2 * i) q
    have b1 := hb (2 * i + 1) (by omega)
    have a1 := ha (2 * i) (2 * i + 1) (by omega) (by omega)
    exact Or.inr ⟨by omega, rfl, b0.1, by omega, a1, b1.2⟩
  · rw [if_neg q]; exact Or.inl ⟨rfl, by omega⟩
theorem ones64 : ∀ j, j < 64 → (18446744073709551615 : Nat).testBit j = true := by decide +kernel
