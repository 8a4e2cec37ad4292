/-! THE CLASS'S WORLD: cell i lies at q i: the object, its table, its rings, the row of eight, nine pairs (the ninth: gathered) -/
def pr (g : zG) (a b n : Nat) (es : Nat → Int) : va_W := [(a, .inr (1, [.ref b, .int (iI ((n : Nat) : Int))])), (b, .inl (zI g, 2048, .inl (ai es)))]
def cwc (g : zG) (q : Nat → Nat) (u la : Int) (NX : Nat → Int) (n : Nat → Nat) (es : Nat → Nat → Int) : Nat → va_E := fun i => match i with
  | 0 => .inr (0, [.int (iI u), .int (iI la), .ref (q 1), .ref (q 5), .ref (q 7), .ref (q 24)])
  | 1 => .inr (2, [.ref (q 2), .ref (q 3), .ref (q 4), .int (iI 253)])
  | 2 => .inl (zI g, 512, .inl (ai LOf))
  | 3 => .inl (zI g, 512, .inl (ai CAf))
  | 4 => .inl (zI g, 512, .inl (ai SCf))
  | 5 => .inr (3, [.int (iI la), .ref (q 6)])
  | 6 => .inl (zI g, 1122, .inl (ai NX))
  | 7 => .inl (zRf g, 8, .inr (.inr (.inr (.inr (fun i => some (q (8 + 2 * i)))))))
  | j + 8 => if j % 2 = 0 then .inr (1, [.ref (q (9 + j)), .int (iI ((n (j / 2) : Nat) : Int))]) else .inl (zI g, 2048, .inl (ai (es (j / 2))))
def cw (g : zG) (q : Nat → Nat) (u la : Int) (NX : Nat → Int) (n : Nat → Nat) (es : Nat → Nat → Int) : va_W := (List.range 26).map (fun i => (q i, cwc g q u la NX n es i))
section CW
variable {g : zG} {q : Nat → Nat} {u la : Int} {NX : Nat → Int} {n : Nat → Nat} {es : Nat → Nat → Int} {H H1 : Heap} {locs : List Loc} {A : Nat → Prop}
theorem cw_get {i : Nat} (hi : i < 26) : (cw g q u la NX n es)[i]? = some (q i, cwc g q u la NX n es i) := by
  unfold cw
  rw [List.getElem?_map, List.getElem?_range hi]
  rfl
theorem cw_lt {i : Nat} {x : Nat × va_E} (h : (cw g q u la NX n es)[i]? = some x) : i < 26 ∧ x = (q i, cwc g q u la NX n es i) := by
  have hi : i < 26 := by
    have := (List.getElem?_eq_some_iff.mp h).1
    unfold cw at this
    rw [List.length_map, List.length_range] at this
    exact this
  rw [cw_get hi] at h
  exact ⟨hi, (Option.some.inj h).symm⟩
theorem cwc_o (k : Nat) : cwc g q u la NX n es (8 + 2 * k) = .inr (1, [.ref (q (9 + 2 * k)), .int (iI ((n k : Nat) : Int))]) := by
  rw [show 8 + 2 * k = 2 * k + 8 by omega]
  show (if (2 * k) % 2 = 0 then _ else _) = _
  rw [if_pos (by omega), show 2 * k / 2 = k by omega]
theorem cwc_e (k : Nat) : cwc g q u la NX n es (9 + 2 * k) = .inl (zI g, 2048, .inl (ai (es k))) := by
  rw [show 9 + 2 * k = (2 * k + 1) + 8 by omega]
  show (if (2 * k + 1) % 2 = 0 then _ else _) = _
  rw [if_neg (by omega), show (2 * k + 1) / 2 = k by omega]
theorem pr_get {a b m j : Nat} {e : Nat → Int} {x : Nat × va_E} (h : (pr g a b m e)[j]? = some x) : (j = 0 ∧ x = (a, .inr (1, [.ref b, .int (iI ((m : Nat) : Int))]))) ∨ (j = 1 ∧ x = (b, .inl (zI g, 2048, .inl (ai e)))) := by
  match j, h with
  | 0, h => exact Or.inl ⟨rfl, (Option.some.inj h).symm⟩
  | 1, h => exact Or.inr ⟨rfl, (Option.some.inj h).symm⟩
  | j + 2, h => simp [pr] at h
theorem cw_pr (hP : va_P g.1 classes (cw g q u la NX n es) H) {k : Nat} (hk : k < 9) : va_P g.1 classes (pr g (q (8 + 2 * k)) (q (9 + 2 * k)) (n k) (es k)) H := by
  intro j x hx
  rcases pr_get hx with ⟨-, rfl⟩ | ⟨-, rfl⟩
  · have := hP (8 + 2 * k) _ (cw_get (by omega))
    rw [cwc_o] at this; exact this
  · have := hP (9 + 2 * k) _ (cw_get (by omega))
    rw [cwc_e] at this; exact this
theorem cw_inj (hD : va_D A (cw g q u la NX n es)) {i j : Nat} (hi : i < 26) (hj : j < 26) (h : q i = q j) : i = j := hD.1 i j _ _ (cw_get hi) (cw_get hj) h
theorem cw_prD (hD : va_D A (cw g q u la NX n es)) {k : Nat} (hk : k < 9) : va_D A (pr g (q (8 + 2 * k)) (q (9 + 2 * k)) (n k) (es k)) := by
  constructor
  · intro i j x y hx hy e
    rcases pr_get hx with ⟨rfl, rfl⟩ | ⟨rfl, rfl⟩ <;> rcases pr_get hy with ⟨rfl, rfl⟩ | ⟨rfl, rfl⟩
    · rfl
    · have := cw_inj hD (i := 8 + 2 * k) (j := 9 + 2 * k) (by omega) (by omega) e; omega
    · have := cw_inj hD (i := 9 + 2 * k) (j := 8 + 2 * k) (by omega) (by omega) e; omega
    · rfl
  · intro j x hx
    rcases pr_get hx with ⟨-, rfl⟩ | ⟨-, rfl⟩
    · exact hD.2 (8 + 2 * k) (q (8 + 2 * k), cwc g q u la NX n es (8 + 2 * k)) (cw_get (by omega))
    · exact hD.2 (9 + 2 * k) (q (9 + 2 * k), cwc g q u la NX n es (9 + 2 * k)) (cw_get (by omega))
theorem cw_prF {H0 : Heap} (hD : va_D A (cw g q u la NX n es)) (hS : va_S A H0 H locs) (hA : ∀ x, H0.size ≤ x → A x) {k : Nat} (hk : k < 9) : ∀ x, va_A (pr g (q (8 + 2 * k)) (q (9 + 2 * k)) (n k) (es k)) H.size x → A x := by
  intro x hx
  rcases hx with ⟨j, e, hj⟩ | hx
  · exact (cw_prD hD hk).2 j _ hj
  · exact hA x (Nat.le_trans hS.1 hx)
theorem cw_put (hP : va_P g.1 classes (cw g q u la NX n es) H) (hD : va_D A (cw g q u la NX n es)) {k : Nat} (hk : k < 9) {n1 : Nat} {e1 : Nat → Int} (hk1 : ∀ x : Nat, x < H.size → ¬ va_A (pr g (q (8 + 2 * k)) (q (9 + 2 * k)) (n k) (es k)) H.size x → H1[x]? = H[x]?) (hF : ∀ x, va_A (pr g (q (8 + 2 * k)) (q (9 + 2 * k)) (n k) (es k)) H.size x → A x) (hP1 : va_P g.1 classes (pr g (q (8 + 2 * k)) (q (9 + 2 * k)) n1 e1) H1) (hD1 : va_D (va_A (pr g (q (8 + 2 * k)) (q (9 + 2 * k)) (n k) (es k)) H.size) (pr g (q (8 + 2 * k)) (q (9 + 2 * k)) n1 e1)) :
    va_P g.1 classes (cw g q u la NX (va_up n k n1) (va_up es k e1)) H1 ∧ va_D A (cw g q u la NX (va_up n k n1) (va_up es k e1)) := by
  constructor
  · intro i x hx
    obtain ⟨hi, rfl⟩ := cw_lt hx
    by_cases a : i = 8 + 2 * k
    · rw [a, cwc_o]
      have := hP1 0 _ rfl
      rw [show va_up n k n1 k = n1 by simp [va_up]]
      exact this
    · by_cases b : i = 9 + 2 * k
      · rw [b, cwc_e]
        have := hP1 1 _ rfl
        rw [show va_up es k e1 k = e1 by simp [va_up]]
        exact this
      · have old := hP i _ (cw_get hi)
        have same : cwc g q u la NX (va_up n k n1) (va_up es k e1) i = cwc g q u la NX n es i := by
          by_cases c : i < 8
          · match i, c with
            | 0, _ => rfl
            | 1, _ => rfl
            | 2, _ => rfl
            | 3, _ => rfl
            | 4, _ => rfl
            | 5, _ => rfl
            | 6, _ => rfl
            | 7, _ => rfl
            | i + 8, c => omega
          · obtain ⟨j, rfl⟩ : ∃ j, i = j + 8 := ⟨i - 8, by omega⟩
            have e2 : j / 2 ≠ k := by omega
            show (if j % 2 = 0 then _ else _) = (if j % 2 = 0 then _ else _)
            rw [show va_up n k n1 (j / 2) = n (j / 2) by simp [va_up, e2], show va_up es k e1 (j / 2) = es (j / 2) by simp [va_up, e2]]
        rw [same]
        refine old.kept ?_
        refine hk1 (q i) old.lt (fun hA => ?_)
        rcases hA with ⟨j, e, hj⟩ | hA
        · rcases pr_get hj with ⟨-, e3⟩ | ⟨-, e3⟩
          · have := cw_inj hD (i := i) (j := 8 + 2 * k) hi (by omega) (Prod.mk.inj e3).1; omega
          · have := cw_inj hD (i := i) (j := 9 + 2 * k) hi (by omega) (Prod.mk.inj e3).1; omega
        · have := old.lt; exact absurd this (by omega)
  · constructor
    · intro i j x y hx hy e
      obtain ⟨hi, rfl⟩ := cw_lt hx
      obtain ⟨hj, rfl⟩ := cw_lt hy
      exact cw_inj hD hi hj e
    · intro i x hx
      obtain ⟨hi, rfl⟩ := cw_lt hx
      exact hD.2 i (q i, cwc g q u la NX n es i) (cw_get hi)
end CW
