/-! COUNTS: a set as a function to Bool, by its edges -/
def cnt (p : Nat → Bool) : Nat → Nat
  | 0 => 0
  | n + 1 => cnt p n + (if p n = true then 1 else 0)
/-- a range begins at c -/
def rst (p : Nat → Bool) : Nat → Bool := fun c => p c && (c == 0 || !p (c - 1))
def rep (last : Nat) (es : Nat → Int) (n : Nat) (p : Nat → Bool) : Prop :=
  asc es n ∧ n % 2 = 0 ∧ (∀ i, i < n → 0 ≤ es i ∧ es i ≤ (last : Int) + 1) ∧ ∀ c : Nat, c ≤ last → ∀ k, Up es n c k → (p c = true ↔ k % 2 = 1)
theorem Up_neg {es : Nat → Int} {n k : Nat} {c : Int} (hb : ∀ i, i < n → 0 ≤ es i) (hc : c < 0) (h : Up es n c k) : k = 0 := by
  rcases Nat.eq_zero_or_pos k with q | q
  · exact q
  · have := h.2.1 0 q
    have := hb 0 (by have := h.1; omega)
    omega
theorem Up_next {es : Nat → Int} {n k k' : Nat} {c : Int} (ha : asc es n) (h : Up es n c k) (h' : Up es n (c + 1) k') : k' = k ∨ (k' = k + 1 ∧ k < n ∧ es k = c + 1) := by
  have h1 := Up_mono h h' (by omega)
  have hn := h'.1
  by_cases q : k' = k
  · exact Or.inl q
  · have a := h.2.2 k (Nat.le_refl _) (by omega)
    have b := h'.2.1 k (by omega)
    by_cases z : k' = k + 1
    · exact Or.inr ⟨z, by omega, by omega⟩
    · have d := h'.2.1 (k + 1) (by omega)
      have := ha k (k + 1) (by omega) (by omega)
      omega
theorem Up_last {es : Nat → Int} {n k : Nat} {last : Nat} (ha : asc es n) (hb : ∀ i, i < n → es i ≤ (last : Int) + 1) (h : Up es n last k) : k = n ∨ (k + 1 = n ∧ es k = (last : Int) + 1) := by
  have h1 := h.1
  by_cases q : k = n
  · exact Or.inl q
  · have a := h.2.2 k (Nat.le_refl _) (by omega)
    have b := hb k (by omega)
    by_cases z : k + 1 = n
    · exact Or.inr ⟨z, by omega⟩
    · have d := hb (k + 1) (by omega)
      have := ha k (k + 1) (by omega) (by omega)
      omega
theorem rep_rc_aux {last : Nat} {es : Nat → Int} {n : Nat} {p : Nat → Bool} (h : rep last es n p) : ∀ C : Nat, C ≤ last + 1 → ∀ k, Up es n ((C : Int) - 1) k → cnt (rst p) C = (k + 1) / 2 := by
  obtain ⟨ha, hev, hb, hp⟩ := h
  intro C
  induction C with
  | zero =>
    intro _ k hk
    have := Up_neg (fun i hi => (hb i hi).1) (by omega) hk
    subst this
    rfl
  | succ C ih =>
    intro hC k' hk'
    obtain ⟨k, hk⟩ := Up_ex ((C : Int) - 1) ha
    have e := ih (by omega) k hk
    have hk2 : Up es n (C : Int) k' := by
      have : ((C + 1 : Nat) : Int) - 1 = C := by omega
      rw [this] at hk'; exact hk'
    have hpC := hp C (by omega) k' hk2
    have hnx := Up_next ha hk (by have : (C : Int) - 1 + 1 = C := by omega
                                  rw [this]; exact hk2)
    have hprev : (C == 0 || !p (C - 1)) = true ↔ k % 2 = 0 := by
      rcases Nat.eq_zero_or_pos C with q | q
      · have := Up_neg (fun i hi => (hb i hi).1) (by omega) hk
        simp [q, this]
      · have hq := hp (C - 1) (by omega) k (by have : ((C - 1 : Nat) : Int) = (C : Int) - 1 := by omega
                                               rw [this]; exact hk)
        have hne : (C == 0) = false := by simp; omega
        rw [hne, Bool.false_or]
        cases hpp : p (C - 1) with
        | true => rw [hpp] at hq; simp at hq; simp; omega
        | false => rw [hpp] at hq; simp at hq; simp; omega
    show cnt (rst p) C + (if rst p C = true then 1 else 0) = (k' + 1) / 2
    rw [e]
    by_cases hr : rst p C = true
    · have hr2 := hr
      unfold rst at hr2
      rw [Bool.and_eq_true, hpC, hprev] at hr2
      rw [if_pos hr]
      omega
    · rw [if_neg hr]
      have hr2 : ¬ (k' % 2 = 1 ∧ k % 2 = 0) := by
        intro z
        apply hr
        unfold rst
        rw [Bool.and_eq_true, hpC, hprev]
        exact z
      omega
theorem rep_rc {last : Nat} {es : Nat → Int} {n : Nat} {p : Nat → Bool} (h : rep last es n p) : cnt (rst p) (last + 1) = n / 2 := by
  obtain ⟨k, hk⟩ := Up_ex (last : Int) h.1
  have e := rep_rc_aux h (last + 1) (Nat.le_refl _) k (by have : ((last + 1 : Nat) : Int) - 1 = last := by omega
                                                          rw [this]; exact hk)
  have := Up_last h.1 (fun i hi => (h.2.2.1 i hi).2) hk
  have := h.2.1
  omega
def msum (es : Nat → Int) : Nat → Int
  | 0 => 0
  | m + 1 => msum es m + (es (2 * m + 1) - es (2 * m))
theorem rep_mc_aux {last : Nat} {es : Nat → Int} {n : Nat} {p : Nat → Bool} (h : rep last es n p) : ∀ C : Nat, C ≤ last + 1 → ∀ k, Up es n ((C : Int) - 1) k → (cnt p C : Int) = msum es (k / 2) + (if k % 2 = 1 then (C : Int) - es (k - 1) else 0) := by
  obtain ⟨ha, hev, hb, hp⟩ := h
  intro C
  induction C with
  | zero =>
    intro _ k hk
    have := Up_neg (fun i hi => (hb i hi).1) (by omega) hk
    subst this
    rfl
  | succ C ih =>
    intro hC k' hk'
    obtain ⟨k, hk⟩ := Up_ex ((C : Int) - 1) ha
    have e := ih (by omega) k hk
    have hk2 : Up es n (C : Int) k' := by
      have : ((C + 1 : Nat) : Int) - 1 = C := by omega
      rw [this] at hk'; exact hk'
    have hpC := hp C (by omega) k' hk2
    have hnx := Up_next ha hk (by have : (C : Int) - 1 + 1 = C := by omega
                                  rw [this]; exact hk2)
    have hc : cnt p (C + 1) = cnt p C + (if p C = true then 1 else 0) := rfl
    rw [hc]
    rcases hnx with rfl | ⟨rfl, hkn, hes⟩
    · by_cases o : k' % 2 = 1
      · rw [if_pos o] at e ⊢
        rw [if_pos (hpC.mpr o)]
        omega
      · rw [if_neg o] at e ⊢
        rw [if_neg (fun z => o (hpC.mp z))]
        omega
    · by_cases o : k % 2 = 1
      · rw [if_pos o] at e
        rw [if_neg (show ¬ (k + 1) % 2 = 1 by omega), if_neg (fun z => absurd (hpC.mp z) (by omega))]
        have e2 : (k + 1) / 2 = k / 2 + 1 := by omega
        have e3 : 2 * (k / 2) + 1 = k := by omega
        have e4 : 2 * (k / 2) = k - 1 := by omega
        rw [e2]
        show _ = msum es (k / 2) + (es (2 * (k / 2) + 1) - es (2 * (k / 2))) + 0
        rw [e3, e4]
        omega
      · rw [if_neg o] at e
        rw [if_pos (show (k + 1) % 2 = 1 by omega), if_pos (hpC.mpr (by omega))]
        have e2 : (k + 1) / 2 = k / 2 := by omega
        have e3 : k + 1 - 1 = k := by omega
        rw [e2, e3]
        omega
theorem rep_mc {last : Nat} {es : Nat → Int} {n : Nat} {p : Nat → Bool} (h : rep last es n p) : (cnt p (last + 1) : Int) = msum es (n / 2) := by
  obtain ⟨k, hk⟩ := Up_ex (last : Int) h.1
  have e := rep_mc_aux h (last + 1) (Nat.le_refl _) k (by have : ((last + 1 : Nat) : Int) - 1 = last := by omega
                                                          rw [this]; exact hk)
  have hev := h.2.1
  rcases Up_last h.1 (fun i hi => (h.2.2.1 i hi).2) hk with rfl | ⟨z, hes⟩
  · rw [if_neg (by omega)] at e
    omega
  · rw [if_pos (by omega)] at e
    have e2 : n / 2 = k / 2 + 1 := by omega
    have e3 : 2 * (k / 2) + 1 = k := by omega
    have e4 : 2 * (k / 2) = k - 1 := by omega
    rw [e2]
    show _ = msum es (k / 2) + (es (2 * (k / 2) + 1) - es (2 * (k / 2)))
    rw [e3, e4, hes]
    omega
/-- the same set has the same edges -/
theorem rep_up_same {last : Nat} {es es' : Nat → Int} {n n' : Nat} {p p' : Nat → Bool} (h : rep last es n p) (h' : rep last es' n' p') (hpp : ∀ c, c ≤ last → p c = p' c) : ∀ C : Nat, C ≤ last + 1 → ∀ k k', Up es n ((C : Int) - 1) k → Up es' n' ((C : Int) - 1) k' → k = k' := by
  intro C
  induction C with
  | zero =>
    intro _ k k' hk hk'
    have := Up_neg (fun i hi => (h.2.2.1 i hi).1) (by omega) hk
    have := Up_neg (fun i hi => (h'.2.2.1 i hi).1) (by omega) hk'
    omega
  | succ C ih =>
    intro hC k k' hk hk'
    obtain ⟨j, hj⟩ := Up_ex ((C : Int) - 1) h.1
    obtain ⟨j', hj'⟩ := Up_ex ((C : Int) - 1) h'.1
    have e := ih (by omega) j j' hj hj'
    have t : ((C + 1 : Nat) : Int) - 1 = (C : Int) := by omega
    rw [t] at hk hk'
    have a := h.2.2.2 C (by omega) k hk
    have a' := h'.2.2.2 C (by omega) k' hk'
    rw [hpp C (by omega)] at a
    have t2 : (C : Int) - 1 + 1 = C := by omega
    have b := Up_next h.1 hj (by rw [t2]; exact hk)
    have b' := Up_next h'.1 hj' (by rw [t2]; exact hk')
    have q : k % 2 = 1 ↔ k' % 2 = 1 := a.symm.trans a'
    omega
theorem rep_same {last : Nat} {es es' : Nat → Int} {n n' : Nat} {p p' : Nat → Bool} (h : rep last es n p) (h' : rep last es' n' p') (hpp : ∀ c, c ≤ last → p c = p' c) : n = n' ∧ ∀ i, i < n → es i = es' i := by
  have key := rep_up_same h h' hpp
  obtain ⟨k, hk⟩ := Up_ex (last : Int) h.1
  obtain ⟨k', hk'⟩ := Up_ex (last : Int) h'.1
  have t : ((last + 1 : Nat) : Int) - 1 = (last : Int) := by omega
  have e := key (last + 1) (Nat.le_refl _) k k' (by rw [t]; exact hk) (by rw [t]; exact hk')
  have z := Up_last h.1 (fun i hi => (h.2.2.1 i hi).2) hk
  have z' := Up_last h'.1 (fun i hi => (h'.2.2.1 i hi).2) hk'
  have v := h.2.1
  have v' := h'.2.1
  have hn : n = n' := by omega
  refine ⟨hn, fun i hi => ?_⟩
  have one : ∀ {es es' : Nat → Int} {n n' : Nat}, asc es n → (∀ i, i < n → 0 ≤ es i ∧ es i ≤ (last : Int) + 1) → (∀ i, i < n' → 0 ≤ es' i ∧ es' i ≤ (last : Int) + 1) → asc es' n' → n = n' → (∀ C : Nat, C ≤ last + 1 → ∀ k k', Up es n ((C : Int) - 1) k → Up es' n' ((C : Int) - 1) k' → k = k') → i < n → ¬ es i < es' i := by
    intro es es' n n' ha hb hb' ha' hn key hi q
    have b := hb i hi
    have b' := hb' i (by omega)
    obtain ⟨k, hk⟩ := Up_ex (es i) ha
    obtain ⟨k', hk'⟩ := Up_ex (es i) ha'
    have t : (((es i).toNat + 1 : Nat) : Int) - 1 = es i := by omega
    have e := key ((es i).toNat + 1) (by omega) k k' (by rw [t]; exact hk) (by rw [t]; exact hk')
    have u : i < k := by
      rcases Nat.lt_or_ge i k with w | w
      · exact w
      · have := hk.2.2 i w hi; omega
    have := hk'.2.1 i (by omega)
    omega
  have o1 := one h.1 h.2.2.1 h'.2.2.1 h'.1 hn key hi
  have o2 := one h'.1 h'.2.2.1 h.2.2.1 h.1 hn.symm (fun C hC k k' a b => (key C hC k' k b a).symm) (by omega)
  omega
/-- turning round -/
theorem rep_compl {last : Nat} {es e1 e2 : Nat → Int} {n n1 n2 : Nat} {p : Nat → Bool} (h : rep last es n p)
    (h1 : (0 < n ∧ es 0 = 0 ∧ n1 + 1 = n ∧ ∀ j, j < n1 → e1 j = es (j + 1)) ∨ (¬ (0 < n ∧ es 0 = 0) ∧ n1 = n + 1 ∧ e1 0 = 0 ∧ ∀ j, j < n → e1 (j + 1) = es j))
    (h2 : (0 < n1 ∧ e1 (n1 - 1) = (last : Int) + 1 ∧ n2 + 1 = n1 ∧ ∀ j, j < n2 → e2 j = e1 j) ∨ (¬ (0 < n1 ∧ e1 (n1 - 1) = (last : Int) + 1) ∧ n2 = n1 + 1 ∧ e2 n1 = (last : Int) + 1 ∧ ∀ j, j < n1 → e2 j = e1 j)) :
    rep last e2 n2 (fun c => !p c) := by
  obtain ⟨ha, hev, hb, hp⟩ := h
  have a1 : asc e1 n1 := by
    intro i j hij hj
    rcases h1 with ⟨q1, q2, q3, q4⟩ | ⟨q1, q2, q3, q4⟩
    · rw [q4 i (by omega), q4 j hj]; exact ha _ _ (by omega) (by omega)
    · obtain ⟨j', rfl⟩ : ∃ j', j = j' + 1 := ⟨j - 1, by omega⟩
      rw [q4 j' (by omega)]
      rcases Nat.eq_zero_or_pos i with z | z
      · rw [z, q3]
        have b0 := hb 0 (by omega)
        rcases Nat.eq_zero_or_pos j' with w | w
        · rw [w]
          have : ¬ es 0 = 0 := fun e => q1 ⟨by omega, e⟩
          omega
        · have := ha 0 j' w (by omega); omega
      · obtain ⟨i', rfl⟩ : ∃ i', i = i' + 1 := ⟨i - 1, by omega⟩
        rw [q4 i' (by omega)]; exact ha _ _ (by omega) (by omega)
  have b1 : ∀ i, i < n1 → 0 ≤ e1 i ∧ e1 i ≤ (last : Int) + 1 := by
    intro i hi
    rcases h1 with ⟨q1, q2, q3, q4⟩ | ⟨q1, q2, q3, q4⟩
    · rw [q4 i hi]; exact hb _ (by omega)
    · rcases Nat.eq_zero_or_pos i with z | z
      · rw [z, q3]; omega
      · obtain ⟨i', rfl⟩ : ∃ i', i = i' + 1 := ⟨i - 1, by omega⟩
        rw [q4 i' (by omega)]; exact hb _ (by omega)
  have u1 : ∀ c : Int, 0 ≤ c → ∀ k, Up es n c k → ∃ k1, Up e1 n1 c k1 ∧ k1 % 2 = (k + 1) % 2 := by
    intro c hc k hk
    have hkn := hk.1
    rcases h1 with ⟨q1, q2, q3, q4⟩ | ⟨q1, q2, q3, q4⟩
    · have k0 : 0 < k := by
        rcases Nat.eq_zero_or_pos k with z | z
        · have := hk.2.2 0 (by omega) q1; omega
        · exact z
      refine ⟨k - 1, ⟨by omega, fun i hi => ?_, fun i x y => ?_⟩, by omega⟩
      · rw [q4 i (by omega)]; exact hk.2.1 _ (by omega)
      · rw [q4 i y]; exact hk.2.2 _ (by omega) (by omega)
    · refine ⟨k + 1, ⟨by omega, fun i hi => ?_, fun i x y => ?_⟩, by omega⟩
      · rcases Nat.eq_zero_or_pos i with z | z
        · rw [z, q3]; exact hc
        · obtain ⟨i', rfl⟩ : ∃ i', i = i' + 1 := ⟨i - 1, by omega⟩
          rw [q4 i' (by omega)]; exact hk.2.1 _ (by omega)
      · obtain ⟨i', rfl⟩ : ∃ i', i = i' + 1 := ⟨i - 1, by omega⟩
        rw [q4 i' (by omega)]; exact hk.2.2 _ (by omega) (by omega)
  have a2 : asc e2 n2 := by
    intro i j hij hj
    rcases h2 with ⟨q1, q2, q3, q4⟩ | ⟨q1, q2, q3, q4⟩
    · rw [q4 i (by omega), q4 j hj]; exact a1 _ _ hij (by omega)
    · rw [q4 i (by omega)]
      by_cases z : j = n1
      · rw [z, q3]
        have bi := b1 i (by omega)
        by_cases w : i = n1 - 1
        · have : ¬ e1 (n1 - 1) = (last : Int) + 1 := fun e => q1 ⟨by omega, e⟩
          rw [w] at bi ⊢; omega
        · have := a1 i (n1 - 1) (by omega) (by omega)
          have := b1 (n1 - 1) (by omega)
          omega
      · rw [q4 j (by omega)]; exact a1 _ _ hij (by omega)
  refine ⟨a2, by omega, fun i hi => ?_, fun c hc k2 hk2 => ?_⟩
  · rcases h2 with ⟨q1, q2, q3, q4⟩ | ⟨q1, q2, q3, q4⟩
    · rw [q4 i hi]; exact b1 _ (by omega)
    · by_cases z : i = n1
      · rw [z, q3]; omega
      · rw [q4 i (by omega)]; exact b1 _ (by omega)
  · obtain ⟨k, hk⟩ := Up_ex (c : Int) ha
    obtain ⟨k1, hk1, hpar⟩ := u1 c (by omega) k hk
    have hkn1 := hk1.1
    have u2 : Up e2 n2 c k1 := by
      rcases h2 with ⟨q1, q2, q3, q4⟩ | ⟨q1, q2, q3, q4⟩
      · have lt : k1 < n1 := by
          rcases Nat.lt_or_ge k1 n1 with w | w
          · exact w
          · have := hk1.2.1 (n1 - 1) (by omega); omega
        refine ⟨by omega, fun i hi => ?_, fun i x y => ?_⟩
        · rw [q4 i (by omega)]; exact hk1.2.1 _ hi
        · rw [q4 i y]; exact hk1.2.2 _ x (by omega)
      · refine ⟨by omega, fun i hi => ?_, fun i x y => ?_⟩
        · rw [q4 i (by omega)]; exact hk1.2.1 _ hi
        · by_cases z : i = n1
          · rw [z, q3]; omega
          · rw [q4 i (by omega)]; exact hk1.2.2 _ x (by omega)
    have e := Up_eq hk2 u2
    have hkk := hp c hc k hk
    have hk3 : k2 % 2 = (k + 1) % 2 := by rw [e]; exact hpar
    show (!p c) = true ↔ k2 % 2 = 1
    rw [hk3]
    cases hpc : p c with
    | true =>
      have q : k % 2 = 1 := hkk.mp hpc
      exact ⟨fun z => absurd z (by decide), fun z => absurd z (by omega)⟩
    | false =>
      have q : ¬ k % 2 = 1 := fun z => by have w := hkk.mpr z; rw [hpc] at w; cases w
      exact ⟨fun _ => by omega, fun _ => rfl⟩
