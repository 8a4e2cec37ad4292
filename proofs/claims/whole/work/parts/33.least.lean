/-! LEAST, RANGES: what the edges say of members -/
def Lst (last : Nat) (p : Nat → Bool) (c r : Int) : Prop :=
  (r = -1 ∧ ∀ d : Nat, d ≤ last → c ≤ d → p d = false) ∨ (∃ d : Nat, r = d ∧ d ≤ last ∧ c ≤ d ∧ p d = true ∧ ∀ d' : Nat, c ≤ d' → d' < d → p d' = false)
theorem Lst_eq {last : Nat} {p : Nat → Bool} {c r r' : Int} (h : Lst last p c r) (h' : Lst last p c r') : r = r' := by
  rcases h with ⟨e, h⟩ | ⟨d, e, h1, h2, h3, h4⟩ <;> rcases h' with ⟨e', h'⟩ | ⟨d', e', h1', h2', h3', h4'⟩
  · omega
  · have := h d' h1' h2'; rw [this] at h3'; cases h3'
  · have := h' d h1 h2; rw [this] at h3; cases h3
  · rcases Nat.lt_trichotomy d d' with q | q | q
    · have := h4' d h2 q; rw [this] at h3; cases h3
    · omega
    · have := h4 d' h2' q; rw [this] at h3'; cases h3'
theorem rep_false {last : Nat} {es : Nat → Int} {n : Nat} {p : Nat → Bool} (h : rep last es n p) {d k : Nat} (hd : d ≤ last) (hk : Up es n d k) (he : k % 2 = 0) : p d = false := by
  have := h.2.2.2 d hd k hk
  cases hp : p d with
  | false => rfl
  | true => rw [hp] at this; simp at this; omega
theorem rep_odd {last : Nat} {es : Nat → Int} {n : Nat} {p : Nat → Bool} (h : rep last es n p) {c : Int} {k : Nat} (hk : Up es n c k) (ho : k % 2 = 1) : 0 ≤ c ∧ c ≤ last ∧ p c.toNat = true ∧ Lst last p c c := by
  obtain ⟨ha, hev, hb, hp⟩ := h
  have hkn := hk.1
  have h0 : 0 ≤ c := by
    have := hk.2.1 (k - 1) (by omega)
    have := hb (k - 1) (by omega)
    omega
  have hl : c ≤ last := by
    have := hk.2.2 k (Nat.le_refl _) (by omega)
    have := hb k (by omega)
    omega
  have e : ((c.toNat : Nat) : Int) = c := by omega
  have hpc : p c.toNat = true := (hp c.toNat (by omega) k (by rw [e]; exact hk)).mpr ho
  exact ⟨h0, hl, hpc, Or.inr ⟨c.toNat, by omega, by omega, by omega, hpc, fun d' a b => absurd b (by omega)⟩⟩
theorem rep_even {last : Nat} {es : Nat → Int} {n : Nat} {p : Nat → Bool} (h : rep last es n p) {c : Int} {k : Nat} (hk : Up es n c k) (ho : k % 2 = 0) (hn : k < n) : 0 ≤ es k ∧ es k ≤ last ∧ Lst last p c (es k) := by
  have h' := h
  obtain ⟨ha, hev, hb, hp⟩ := h
  have b0 := hb k hn
  have b1 := hb (k + 1) (by omega)
  have a1 := ha k (k + 1) (by omega) (by omega)
  have hc := hk.2.2 k (Nat.le_refl _) hn
  have e : (((es k).toNat : Nat) : Int) = es k := by omega
  have hu : Up es n (es k) (k + 1) := by
    refine ⟨by omega, fun i hi => ?_, fun i x y => ?_⟩
    · by_cases q : i = k
      · rw [q]; exact Int.le_refl _
      · have := ha i k (by omega) hn; omega
    · exact ha k i (by omega) y
  refine ⟨b0.1, by omega, Or.inr ⟨(es k).toNat, by omega, by omega, by omega, ?_, fun d' x y => ?_⟩⟩
  · exact (hp _ (by omega) (k + 1) (by rw [e]; exact hu)).mpr (by omega)
  · refine rep_false h' (by omega) (k := k) ⟨by omega, fun i hi => ?_, fun i z w => ?_⟩ ho
    · have := hk.2.1 i hi; omega
    · by_cases q : i = k
      · rw [q]; omega
      · have := ha k i (by omega) w; omega
theorem rep_end {last : Nat} {es : Nat → Int} {n : Nat} {p : Nat → Bool} (h : rep last es n p) {c : Int} (hk : Up es n c n) : Lst last p c (-1) := by
  refine Or.inl ⟨rfl, fun d hd hc => ?_⟩
  refine rep_false h hd (k := n) ⟨Nat.le_refl _, fun i hi => ?_, fun i x y => absurd y (by omega)⟩ h.2.1
  have := hk.2.1 i hi
  omega
theorem rep_in {last : Nat} {es : Nat → Int} {n : Nat} {p : Nat → Bool} (h : rep last es n p) {c : Nat} (hc : c ≤ last) : p c = true ↔ ∃ i, 2 * i + 1 < n ∧ es (2 * i) ≤ c ∧ (c : Int) < es (2 * i + 1) := by
  obtain ⟨ha, hev, hb, hp⟩ := h
  obtain ⟨k, hk⟩ := Up_ex (c : Int) ha
  rw [hp c hc k hk]
  have hkn := hk.1
  constructor
  · intro ho
    refine ⟨k / 2, by omega, ?_, ?_⟩
    · have := hk.2.1 (2 * (k / 2)) (by omega); exact this
    · have := hk.2.2 (2 * (k / 2) + 1) (by omega) (by omega); exact this
  · intro ⟨i, h1, h2, h3⟩
    have a : 2 * i < k := by
      rcases Nat.lt_or_ge (2 * i) k with w | w
      · exact w
      · have := hk.2.2 _ w (by omega); omega
    have b : k ≤ 2 * i + 1 := by
      rcases Nat.lt_or_ge (2 * i + 1) k with w | w
      · have := hk.2.1 _ w; omega
      · exact w
    omega
