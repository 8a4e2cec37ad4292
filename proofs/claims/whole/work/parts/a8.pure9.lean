/-! NAMED SETS and CLOSE of the face, pure -/
def rlN (u la : Int) (k : Nat) : List (Int × Int) := if u = 0 then rlL (stE (lisF k)) ((stE (lisF k)).length / 2) else if ¬ proF k = -1 then rlP la (proF k).toNat else if k = 12 then rlL (stE 17) ((stE 17).length / 2) else if k = 14 then rlC 4194300 la 253 else if k = 15 then rlC 20971516 la 253 else if k = 16 then rlC 3932160 127 253 ++ rlC 260096 la 253 else rlL (stE (lisF k)) ((stE (lisF k)).length / 2)
theorem GG_append {la : Int} {es e1 : Nat → Int} {n m1 : Nat} {L1 : List (Int × Int)} (h1 : GG la es n L1 e1 m1) : ∀ {L2 : List (Int × Int)} {e2 : Nat → Int} {m2 : Nat}, GG la e1 m1 L2 e2 m2 → GG la es n (L2 ++ L1) e2 m2 := by
  intro L2
  induction L2 with
  | nil => intro e2 m2 h; obtain ⟨rfl, rfl⟩ := h; exact h1
  | cons r L ih => intro e2 m2 h; obtain ⟨e0, m0, h0, hI⟩ := h; exact ⟨e0, m0, ih h0, hI⟩
theorem GG_ev {la : Int} {es : Nat → Int} {n : Nat} (he : n % 2 = 0) (hl : ∀ i, i < n → es i ≤ la + 1) : ∀ {L : List (Int × Int)} {e : Nat → Int} {m : Nat}, GG la es n L e m → m % 2 = 0 ∧ ∀ i, i < m → e i ≤ la + 1 := by
  intro L
  induction L with
  | nil => intro e m h; obtain ⟨rfl, rfl⟩ := h; exact ⟨he, hl⟩
  | cons r L ih =>
    intro e m h
    obtain ⟨e0, m0, h0, hI⟩ := h
    obtain ⟨a, b⟩ := ih h0
    rcases hI with ⟨q, hI⟩ | ⟨-, rfl, rfl⟩
    · refine ⟨by rw [hI.2.1]; exact a, fun i hi => ?_⟩
      rcases hI.2.2.2 i hi with w | w | ⟨j, hj, w⟩
      · rw [w]; omega
      · rw [w]; omega
      · rw [w]; exact b j hj
    · exact ⟨a, b⟩
theorem lis_ok : ∀ k, k < 19 → (2 ≤ lisF k ∧ lisF k ≤ 17) ∧ (stE (lisF k)).length ≤ 400 ∧ ∀ j, j < (stE (lisF k)).length → 0 ≤ (stE (lisF k)).getD j 0 ∧ (stE (lisF k)).getD j 0 ≤ 1114111 := by decide +kernel
theorem hor_ok : (stE 17).length ≤ 400 ∧ ∀ j, j < (stE 17).length → 0 ≤ (stE 17).getD j 0 ∧ (stE 17).getD j 0 ≤ 1114111 := by decide +kernel
theorem pro_bd : ∀ k, k < 19 → -1 ≤ proF k ∧ proF k ≤ 48 := by decide +kernel
theorem gok_nil {Bs : List Int} {e : Nat → Int} : gok Bs e 0 := ⟨fun i j _ hj => absurd hj (by omega), fun i hi => absurd hi (by omega), fun i hi => absurd hi (by omega)⟩
theorem up_id {α : Type} (f : Nat → α) (k : Nat) : va_up f k (f k) = f := by
  funext j
  unfold va_up
  split
  · rename_i h; rw [h]
  · rfl
theorem hok_up {n : Nat → Nat} {es : Nat → Nat → Int} {sn m2 : Nat} {e2 : Nat → Int} {Bs : List Int} (hok : ∀ k, k < 9 → asc (es k) (n k) ∧ n k ≤ 2046 ∧ ∀ i, i < n k → 0 ≤ es k i ∧ es k i ≤ 1114112) (hg : gok Bs e2 m2) (hBl : Bs.length ≤ 2046) : ∀ k, k < 9 → asc (va_up es sn e2 k) (va_up n sn m2 k) ∧ va_up n sn m2 k ≤ 2046 ∧ ∀ i, i < va_up n sn m2 k → 0 ≤ va_up es sn e2 k i ∧ va_up es sn e2 k i ≤ 1114112 := by
  intro k hk
  by_cases q : k = sn
  · subst q
    rw [up_same, up_same]
    have := gok_len hg
    exact ⟨hg.1, by omega, hg.2.1⟩
  · rw [up_ne _ _ q, up_ne _ _ q]
    exact hok k hk
/-- what close does, slot by slot: edges, their number, how many came -/
def CC (NX : Nat → Int) (es : Nat → Int) (n : Nat) : Nat → (Nat → Int) → Nat → Nat → Prop
  | 0, e, m, k => e = es ∧ m = n ∧ k = 0
  | i + 1, e, m, k => ∃ (e0 : Nat → Int) (m0 k0 : Nat), CC NX es n i e0 m0 k0 ∧ ((misF NX e0 m0 (chA i) ∧ Ins e0 m0 (chA i) (chA i) e m ∧ k = k0 + 1) ∨ (¬ misF NX e0 m0 (chA i) ∧ e = e0 ∧ m = m0 ∧ k = k0))
theorem chA_bd {i : Nat} (hi : i < 1122) : 0 ≤ chA i ∧ chA i ≤ 8491 := by unfold chA; split <;> omega
