/-! what the face gathers, as sets of characters -/
theorem PL_ex {c : Int} (h : 0 ≤ c ∧ c ≤ 1114111) : ∃ i, i < 253 ∧ LOf i ≤ c ∧ c < hiE i := by
  obtain ⟨k, hk⟩ := Up_ex c LO_asc
  have h0 : LOf 0 = 0 := by decide
  have hk1 : 0 < k := by
    rcases Nat.eq_zero_or_pos k with z | z
    · have := hk.2.2 0 (by omega) (by omega); omega
    · exact z
  refine ⟨k - 1, by have := hk.1; omega, hk.2.1 (k - 1) (by omega), ?_⟩
  unfold hiE
  split
  · rename_i w; exact hk.2.2 (k - 1 + 1) (by omega) w
  · omega
theorem mem_rlS {sc : Int} {t : Int × Int} : ∀ {n : Nat}, t ∈ rlS sc n ↔ ∃ i, i < n ∧ SCf i = sc ∧ t = (LOf i, hiE i - 1) := by
  intro n
  induction n with
  | zero => simp [rlS]
  | succ n ih =>
    unfold rlS
    by_cases h : SCf n = sc
    · rw [if_pos h, List.mem_cons, ih]
      constructor
      · rintro (rfl | ⟨i, hi, a, b⟩)
        · exact ⟨n, by omega, h, rfl⟩
        · exact ⟨i, by omega, a, b⟩
      · rintro ⟨i, hi, a, b⟩
        by_cases w : i = n
        · subst w; exact Or.inl b
        · exact Or.inr ⟨i, by omega, a, b⟩
    · rw [if_neg h, ih]
      constructor
      · rintro ⟨i, hi, a, b⟩; exact ⟨i, by omega, a, b⟩
      · rintro ⟨i, hi, a, b⟩
        by_cases w : i = n
        · subst w; exact absurd a h
        · exact ⟨i, by omega, a, b⟩
theorem mem_rlC {M : Nat} {en : Int} {t : Int × Int} : ∀ {n : Nat}, t ∈ rlC M en n ↔ ∃ i, i < n ∧ M / 2 ^ CAn i % 2 = 1 ∧ t = (LOf i, min (hiE i - 1) en) := by
  intro n
  induction n with
  | zero => simp [rlC]
  | succ n ih =>
    unfold rlC
    by_cases h : M / 2 ^ CAn n % 2 = 1
    · rw [if_pos h, List.mem_cons, ih]
      constructor
      · rintro (rfl | ⟨i, hi, a, b⟩)
        · exact ⟨n, by omega, h, rfl⟩
        · exact ⟨i, by omega, a, b⟩
      · rintro ⟨i, hi, a, b⟩
        by_cases w : i = n
        · subst w; exact Or.inl b
        · exact Or.inr ⟨i, by omega, a, b⟩
    · rw [if_neg h, ih]
      constructor
      · rintro ⟨i, hi, a, b⟩; exact ⟨i, by omega, a, b⟩
      · rintro ⟨i, hi, a, b⟩
        by_cases w : i = n
        · subst w; exact absurd a h
        · exact ⟨i, by omega, a, b⟩
/-- a character lies in one of the ranges -/
def inL (L : List (Int × Int)) (c : Int) : Prop := ∃ t ∈ L, t.1 ≤ c ∧ c ≤ t.2
theorem inL_S {sc c : Int} (hc : 0 ≤ c ∧ c ≤ 1114111) : inL (rlS sc 253) c ↔ scrF c = sc := by
  constructor
  · rintro ⟨t, ht, a, b⟩
    obtain ⟨i, hi, e, rfl⟩ := mem_rlS.mp ht
    rw [(cat_piece i hi c a (by have : c ≤ hiE i - 1 := b; omega)).2, e]
  · intro h
    obtain ⟨i, hi, a, b⟩ := PL_ex hc
    have := (cat_piece i hi c a b).2
    exact ⟨(LOf i, hiE i - 1), mem_rlS.mpr ⟨i, hi, by rw [← this, h], rfl⟩, a, by show c ≤ hiE i - 1; omega⟩
theorem inL_C {M : Nat} {en c : Int} (hc : 0 ≤ c ∧ c ≤ 1114111) : inL (rlC M en 253) c ↔ (M / 2 ^ (catF c).toNat % 2 = 1 ∧ c ≤ en) := by
  constructor
  · rintro ⟨t, ht, a, b⟩
    obtain ⟨i, hi, e, rfl⟩ := mem_rlC.mp ht
    have b' : c ≤ min (hiE i - 1) en := b
    have w := (cat_piece i hi c a (by omega)).1
    have w2 : CAf i = ((CAn i : Nat) : Int) := rfl
    rw [w, w2]
    exact ⟨e, by omega⟩
  · rintro ⟨h, he⟩
    obtain ⟨i, hi, a, b⟩ := PL_ex hc
    have w := (cat_piece i hi c a b).1
    have w2 : CAf i = ((CAn i : Nat) : Int) := rfl
    rw [w, w2] at h
    exact ⟨(LOf i, min (hiE i - 1) en), mem_rlC.mpr ⟨i, hi, h, rfl⟩, a, by show c ≤ min (hiE i - 1) en; omega⟩
theorem inL_cons {t : Int × Int} {L : List (Int × Int)} {c : Int} : inL (t :: L) c ↔ ((t.1 ≤ c ∧ c ≤ t.2) ∨ inL L c) := by
  unfold inL
  constructor
  · rintro ⟨x, hx, a⟩
    rcases List.mem_cons.mp hx with w | w
    · subst w; exact Or.inl a
    · exact Or.inr ⟨x, w, a⟩
  · rintro (a | ⟨x, hx, a⟩)
    · exact ⟨t, List.mem_cons_self, a⟩
    · exact ⟨x, List.mem_cons_of_mem _ hx, a⟩
theorem inL_nil {c : Int} : inL [] c ↔ False := by
  unfold inL; simp
theorem inL_app {L M : List (Int × Int)} {c : Int} : inL (L ++ M) c ↔ (inL L c ∨ inL M c) := by
  unfold inL
  constructor
  · rintro ⟨x, hx, a⟩
    rcases List.mem_append.mp hx with w | w
    · exact Or.inl ⟨x, w, a⟩
    · exact Or.inr ⟨x, w, a⟩
  · rintro (⟨x, hx, a⟩ | ⟨x, hx, a⟩)
    · exact ⟨x, List.mem_append_left _ hx, a⟩
    · exact ⟨x, List.mem_append_right _ hx, a⟩
abbrev genD (g t : Int) : Prop := (g = 0 ∧ t < 4) ∨ (g = 1 ∧ 4 ≤ t ∧ t < 7) ∨ (g = 2 ∧ t = 7) ∨ (g = 3 ∧ 8 ≤ t ∧ t < 11) ∨ (g = 4 ∧ 11 ≤ t ∧ t < 18) ∨ (g = 5 ∧ 18 ≤ t ∧ t < 22) ∨ (¬ (0 ≤ g ∧ g ≤ 5) ∧ 22 ≤ t)
/-- a property's CATEGORIES -/
def hcF (k t : Nat) : Prop := if k < 25 then t = k else if k < 32 then genF (((k : Nat) : Int) - 25) ((t : Nat) : Int) else if k < 44 then False else if k = 44 then True else if k = 45 then (t = 4 ∨ t = 6) else if k = 46 then (genF 1 ((t : Nat) : Int) ∨ genF 3 ((t : Nat) : Int)) else if k = 47 then (genF 1 ((t : Nat) : Int) ∨ genF 3 ((t : Nat) : Int)) else genF 6 ((t : Nat) : Int)
theorem hc1 : ∀ k, k < 25 → ∀ t, t < 25 → (catM k / 2 ^ t % 2 = 1 ↔ t = k) := by decide +kernel
theorem hg0 : ∀ t, t < 25 → (catM 25 / 2 ^ t % 2 = 1 ↔ t < 4) := by decide +kernel
theorem hg1 : ∀ t, t < 25 → (catM 26 / 2 ^ t % 2 = 1 ↔ (4 ≤ t ∧ t < 7)) := by decide +kernel
theorem hg2 : ∀ t, t < 25 → (catM 27 / 2 ^ t % 2 = 1 ↔ t = 7) := by decide +kernel
theorem hg3 : ∀ t, t < 25 → (catM 28 / 2 ^ t % 2 = 1 ↔ (8 ≤ t ∧ t < 11)) := by decide +kernel
theorem hg4 : ∀ t, t < 25 → (catM 29 / 2 ^ t % 2 = 1 ↔ (11 ≤ t ∧ t < 18)) := by decide +kernel
theorem hg5 : ∀ t, t < 25 → (catM 30 / 2 ^ t % 2 = 1 ↔ (18 ≤ t ∧ t < 22)) := by decide +kernel
theorem hg6 : ∀ t, t < 25 → (catM 31 / 2 ^ t % 2 = 1 ↔ 22 ≤ t) := by decide +kernel
theorem hc2 (k : Nat) (hk : k < 7) (t : Nat) (ht : t < 25) : (catM (25 + k) / 2 ^ t % 2 = 1 ↔ genF ((k : Nat) : Int) ((t : Nat) : Int)) := by
  rcases (show k = 0 ∨ k = 1 ∨ k = 2 ∨ k = 3 ∨ k = 4 ∨ k = 5 ∨ k = 6 by omega) with rfl | rfl | rfl | rfl | rfl | rfl | rfl
  · exact (hg0 t ht).trans (by unfold genF; omega)
  · exact (hg1 t ht).trans (by unfold genF; omega)
  · exact (hg2 t ht).trans (by unfold genF; omega)
  · exact (hg3 t ht).trans (by unfold genF; omega)
  · exact (hg4 t ht).trans (by unfold genF; omega)
  · exact (hg5 t ht).trans (by unfold genF; omega)
  · exact (hg6 t ht).trans (by unfold genF; omega)
theorem hc3 : ∀ k, k < 12 → ∀ t, t < 25 → ¬ catM (32 + k) / 2 ^ t % 2 = 1 := by decide +kernel
theorem hc4 : ∀ t, t < 25 → catM 44 / 2 ^ t % 2 = 1 := by decide +kernel
theorem hc5 : ∀ t, t < 25 → (catM 45 / 2 ^ t % 2 = 1 ↔ (t = 4 ∨ t = 6)) := by decide +kernel
theorem hc6N : ∀ t, t < 25 → (catM 46 / 2 ^ t % 2 = 1 ↔ ((4 ≤ t ∧ t < 7) ∨ (8 ≤ t ∧ t < 11))) := by decide +kernel
theorem hc6 (t : Nat) (ht : t < 25) : (catM 46 / 2 ^ t % 2 = 1 ↔ (genF 1 ((t : Nat) : Int) ∨ genF 3 ((t : Nat) : Int))) := (hc6N t ht).trans (by unfold genF; omega)
theorem hc7N : ∀ t, t < 25 → (catM 47 / 2 ^ t % 2 = 1 ↔ ((4 ≤ t ∧ t < 7) ∨ (8 ≤ t ∧ t < 11))) := by decide +kernel
theorem hc7 (t : Nat) (ht : t < 25) : (catM 47 / 2 ^ t % 2 = 1 ↔ (genF 1 ((t : Nat) : Int) ∨ genF 3 ((t : Nat) : Int))) := (hc7N t ht).trans (by unfold genF; omega)
theorem hc8 : ∀ t, t < 25 → (catM 48 / 2 ^ t % 2 = 1 ↔ genD 6 ((t : Nat) : Int)) := by decide +kernel
theorem hc_ok (k : Nat) (hk : k < 49) (t : Nat) (ht : t < 25) : (catM k / 2 ^ t % 2 = 1 ↔ hcF k t) := by
  unfold hcF
  by_cases a : k < 25
  · rw [if_pos a]; exact hc1 k a t ht
  · rw [if_neg a]
    by_cases b : k < 32
    · rw [if_pos b]
      obtain ⟨j, rfl⟩ : ∃ j, k = 25 + j := ⟨k - 25, by omega⟩
      rw [show ((25 + j : Nat) : Int) - 25 = ((j : Nat) : Int) by omega]
      exact hc2 j (by omega) t ht
    · rw [if_neg b]
      by_cases d : k < 44
      · rw [if_pos d]
        obtain ⟨j, rfl⟩ : ∃ j, k = 32 + j := ⟨k - 32, by omega⟩
        exact ⟨fun h => hc3 j (by omega) t ht h, fun h => h.elim⟩
      · rw [if_neg d]
        rcases (show k = 44 ∨ k = 45 ∨ k = 46 ∨ k = 47 ∨ k = 48 by omega) with rfl | rfl | rfl | rfl | rfl
        · rw [if_pos rfl]; exact ⟨fun _ => trivial, fun _ => hc4 t ht⟩
        · rw [if_neg (by omega), if_pos rfl]; exact hc5 t ht
        · rw [if_neg (by omega), if_neg (by omega), if_pos rfl]; exact hc6 t ht
        · rw [if_neg (by omega), if_neg (by omega), if_neg (by omega), if_pos rfl]; exact hc7 t ht
        · rw [if_neg (by omega), if_neg (by omega), if_neg (by omega), if_neg (by omega)]; exact hc8 t ht
theorem inL_P {la c : Int} {k : Nat} (hk : k ≤ 48) (hc : 0 ≤ c ∧ c ≤ la) (hla : la ≤ 1114111) : inL (rlP la k) c ↔ holdF ((k : Nat) : Int) c := by
  have hc2 : 0 ≤ c ∧ c ≤ 1114111 := by omega
  have cb := catF_bd c hc.1
  obtain ⟨t, ht⟩ : ∃ t : Nat, catF c = ((t : Nat) : Int) := ⟨(catF c).toNat, by omega⟩
  have hC : inL (rlC (catM k) la 253) c ↔ hcF k t := by
    rw [inL_C hc2, ← hc_ok k (by omega) t (by omega), ht]
    constructor
    · intro h; exact h.1
    · intro h; exact ⟨h, hc.2⟩
  unfold rlP
  by_cases h1 : 32 ≤ k ∧ k < 44
  · rw [if_pos h1, inL_S hc2]
    unfold holdF
    rw [if_neg (by omega), if_neg (by omega), if_pos (by omega)]
  · rw [if_neg h1]
    by_cases h2 : k = 48
    · subst h2
      rw [if_pos rfl, inL_cons, inL_cons, hC]
      unfold holdF hcF
      rw [if_neg (by omega), if_neg (by omega), if_neg (by omega), if_neg (by omega), if_neg (by omega), if_neg (by omega), if_neg (by omega), if_neg (by omega), if_neg (by omega), if_neg (by omega), if_neg (by omega), if_neg (by omega), if_neg (by omega), if_neg (by omega), ht]
      constructor
      · rintro (a | a | a)
        · exact Or.inr (Or.inl (by have : (133 : Int) ≤ c ∧ c ≤ 133 := a; omega))
        · exact Or.inl a
        · exact Or.inr (Or.inr a)
      · rintro (a | a | a)
        · exact Or.inr (Or.inl a)
        · exact Or.inl (by show (133 : Int) ≤ c ∧ c ≤ 133; omega)
        · exact Or.inr (Or.inr a)
    · rw [if_neg h2]
      by_cases h3 : k = 47
      · subst h3
        rw [if_pos rfl, inL_cons, hC]
        unfold holdF hcF
        rw [if_neg (by omega), if_neg (by omega), if_neg (by omega), if_neg (by omega), if_neg (by omega), if_neg (by omega), if_pos (by omega), if_neg (by omega), if_neg (by omega), if_neg (by omega), if_neg (by omega), if_neg (by omega), if_neg (by omega), if_pos (by omega), ht]
        constructor
        · rintro (a | a | a)
          · exact Or.inr (Or.inr (by have : (95 : Int) ≤ c ∧ c ≤ 95 := a; omega))
          · exact Or.inl a
          · exact Or.inr (Or.inl a)
        · rintro (a | a | a)
          · exact Or.inr (Or.inl a)
          · exact Or.inr (Or.inr a)
          · exact Or.inl (by show (95 : Int) ≤ c ∧ c ≤ 95; omega)
      · rw [if_neg h3, hC]
        unfold holdF hcF
        by_cases a : k < 25
        · rw [if_pos a, if_pos (by omega), ht]; omega
        · rw [if_neg a, if_neg (show ¬ ((k : Nat) : Int) < 25 by omega)]
          by_cases b : k < 32
          · rw [if_pos b, if_pos (by omega), ht]
          · rw [if_neg b, if_neg (show ¬ ((k : Nat) : Int) < 32 by omega), if_neg (show ¬ k < 44 by omega), if_neg (show ¬ ((k : Nat) : Int) < 44 by omega)]
            rcases (show k = 44 ∨ k = 45 ∨ k = 46 by omega) with rfl | rfl | rfl
            · rw [if_pos rfl, if_pos (by omega)]
            · rw [if_neg (by omega), if_pos rfl, if_neg (by omega), if_pos (by omega), ht]; omega
            · rw [if_neg (by omega), if_neg (by omega), if_pos rfl, if_neg (by omega), if_neg (by omega), if_pos (by omega), ht]
