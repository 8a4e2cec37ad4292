/-! EDGES: a set as its ascending edges; k edges are c or less -/
def asc (es : Nat → Int) (n : Nat) : Prop := ∀ i j, i < j → j < n → es i < es j
def Up (es : Nat → Int) (n : Nat) (c : Int) (k : Nat) : Prop := k ≤ n ∧ (∀ i, i < k → es i ≤ c) ∧ (∀ i, k ≤ i → i < n → c < es i)
theorem Up_ex {es : Nat → Int} (c : Int) : ∀ {n : Nat}, asc es n → ∃ k, Up es n c k := by
  intro n
  induction n with
  | zero => exact fun _ => ⟨0, Nat.le_refl _, fun i h => absurd h (by omega), fun i _ h => absurd h (by omega)⟩
  | succ n ih =>
    intro h
    obtain ⟨k, h1, h2, h3⟩ := ih (fun i j a b => h i j a (by omega))
    by_cases hk : k = n
    · subst hk
      by_cases hc : es k ≤ c
      · refine ⟨k + 1, Nat.le_refl _, fun i hi => ?_, fun i a b => absurd b (by omega)⟩
        by_cases q : i = k
        · rw [q]; exact hc
        · exact h2 i (by omega)
      · refine ⟨k, by omega, h2, fun i a b => ?_⟩
        have q : i = k := by omega
        rw [q]; omega
    · refine ⟨k, by omega, h2, fun i a b => ?_⟩
      by_cases q : i = n
      · have := h3 k (Nat.le_refl _) (by omega)
        have := h k n (by omega) (by omega)
        rw [q]; omega
      · exact h3 i a (by omega)
theorem Up_mono {es : Nat → Int} {n k k' : Nat} {c d : Int} (h : Up es n c k) (h' : Up es n d k') (hc : c ≤ d) : k ≤ k' := by
  rcases Nat.lt_or_ge k' k with q | q
  · have := h.2.1 k' q
    have := h'.2.2 k' (Nat.le_refl _) (by have := h.1; omega)
    omega
  · exact q
theorem Up_eq {es : Nat → Int} {n k k' : Nat} {c : Int} (h : Up es n c k) (h' : Up es n c k') : k = k' := Nat.le_antisymm (Up_mono h h' (Int.le_refl _)) (Up_mono h' h (Int.le_refl _))
/-- the search's turn -/
theorem Up_step {es : Nat → Int} {n k : Nat} {c : Int} (ha : asc es n) (h : Up es n c k) {t : Nat} (h0 : 0 < t) (ht : t ≤ n) : es (t - 1) ≤ c ↔ t ≤ k := by
  constructor
  · intro q
    rcases Nat.lt_or_ge k t with z | z
    · have := h.2.2 (t - 1) (by omega) (by omega)
      omega
    · exact z
  · intro q
    exact h.2.1 (t - 1) (by omega)
/-- insert, told by its four zones -/
theorem ins_asc {es es' : Nat → Int} {n f t nl nh : Nat} {low high : Int} (ha : asc es n) (hf : Up es n (low - 1) f) (ht : Up es n (high + 1) t) (hlh : low ≤ high) (hnl : nl + f % 2 = 1) (hnh : nh + t % 2 = 1)
    (zA : ∀ j, j < f → es' j = es j) (zB : nl = 1 → es' f = low) (zC : nh = 1 → es' (f + nl + nh - 1) = high + 1) (zD : ∀ j, f + nl + nh ≤ j → j < f + nl + nh + (n - t) → es' j = es (t + (j - (f + nl + nh)))) : asc es' (f + nl + nh + (n - t)) := by
  have hft : f ≤ t := Up_mono hf ht (by omega)
  have vA : ∀ j, j < f → es' j ≤ low - 1 := fun j h => by rw [zA j h]; exact hf.2.1 j h
  have vD : ∀ j, f + nl + nh ≤ j → j < f + nl + nh + (n - t) → high + 1 < es' j := fun j h1 h2 => by rw [zD j h1 h2]; exact ht.2.2 _ (by omega) (by omega)
  intro i j hij hj
  by_cases i1 : i < f
  · by_cases j1 : j < f
    · rw [zA i i1, zA j j1]; exact ha i j hij (by have := hf.1; omega)
    · have a1 := vA i i1
      by_cases j2 : f + nl + nh ≤ j
      · have := vD j j2 hj; omega
      · by_cases j3 : nh = 1 ∧ j = f + nl + nh - 1
        · have := zC j3.1; rw [j3.2]; omega
        · have e : j = f := by omega
          have := zB (by omega); rw [e]; omega
  · by_cases i2 : f + nl + nh ≤ i
    · rw [zD i i2 (by omega), zD j (by omega) hj]
      exact ha _ _ (by omega) (by omega)
    · by_cases j2 : f + nl + nh ≤ j
      · have := vD j j2 hj
        by_cases i3 : nh = 1 ∧ i = f + nl + nh - 1
        · have := zC i3.1; rw [i3.2]; omega
        · have e : i = f := by omega
          have := zB (by omega); rw [e]; omega
      · have e : i = f := by omega
        have e2 : j = f + nl + nh - 1 := by omega
        have := zB (by omega)
        have := zC (by omega)
        rw [e, e2]; omega
theorem ins_up {es es' : Nat → Int} {n f t nl nh : Nat} {low high : Int} (hf : Up es n (low - 1) f) (ht : Up es n (high + 1) t) (hlh : low ≤ high) (hnl : nl + f % 2 = 1) (hnh : nh + t % 2 = 1)
    (zA : ∀ j, j < f → es' j = es j) (zB : nl = 1 → es' f = low) (zC : nh = 1 → es' (f + nl + nh - 1) = high + 1) (zD : ∀ j, f + nl + nh ≤ j → j < f + nl + nh + (n - t) → es' j = es (t + (j - (f + nl + nh))))
    {c : Int} {k : Nat} (hk : Up es n c k) : ∃ k', Up es' (f + nl + nh + (n - t)) c k' ∧ (k' % 2 = 1 ↔ (k % 2 = 1 ∨ (low ≤ c ∧ c ≤ high))) := by
  have hft : f ≤ t := Up_mono hf ht (by omega)
  have htn := ht.1
  have vD : ∀ j, f + nl + nh ≤ j → j < f + nl + nh + (n - t) → high + 1 < es' j := fun j h1 h2 => by rw [zD j h1 h2]; exact ht.2.2 _ (by omega) (by omega)
  by_cases c1 : c < low
  · have hkf : k ≤ f := Up_mono hk hf (by omega)
    refine ⟨k, ⟨by omega, fun i hi => ?_, fun i a b => ?_⟩, by omega⟩
    · rw [zA i (by omega)]; exact hk.2.1 i hi
    · by_cases i1 : i < f
      · rw [zA i i1]; exact hk.2.2 i a (by omega)
      · by_cases i2 : f + nl + nh ≤ i
        · have := vD i i2 b; omega
        · by_cases i3 : nh = 1 ∧ i = f + nl + nh - 1
          · have := zC i3.1; rw [i3.2]; omega
          · have e : i = f := by omega
            have := zB (by omega); rw [e]; omega
  · by_cases c2 : c ≤ high
    · refine ⟨f + nl, ⟨by omega, fun i hi => ?_, fun i a b => ?_⟩, by omega⟩
      · by_cases i1 : i < f
        · rw [zA i i1]; have := hf.2.1 i i1; omega
        · have e : i = f := by omega
          have := zB (by omega); rw [e]; omega
      · by_cases i2 : f + nl + nh ≤ i
        · have := vD i i2 b; omega
        · have e : i = f + nl + nh - 1 := by omega
          have := zC (by omega); rw [e]; omega
    · have htk : t ≤ k := Up_mono ht hk (by omega)
      have hkn := hk.1
      refine ⟨f + nl + nh + (k - t), ⟨by omega, fun i hi => ?_, fun i a b => ?_⟩, by omega⟩
      · by_cases i1 : i < f
        · rw [zA i i1]; have := hf.2.1 i i1; omega
        · by_cases i2 : f + nl + nh ≤ i
          · rw [zD i i2 (by omega)]; exact hk.2.1 _ (by omega)
          · by_cases i3 : nh = 1 ∧ i = f + nl + nh - 1
            · have := zC i3.1; rw [i3.2]; omega
            · have e : i = f := by omega
              have := zB (by omega); rw [e]; omega
      · rw [zD i (by omega) b]; exact hk.2.2 _ (by omega) (by omega)
/-- every edge behind an insert was one, or is one of the two new ones -/
theorem ins_mem {es es' : Nat → Int} {n f t nl nh : Nat} {low high : Int} (ht : t ≤ n)
    (zA : ∀ j, j < f → es' j = es j) (zB : nl = 1 → es' f = low) (zC : nh = 1 → es' (f + nl + nh - 1) = high + 1) (zD : ∀ j, f + nl + nh ≤ j → j < f + nl + nh + (n - t) → es' j = es (t + (j - (f + nl + nh)))) (hnl : nl ≤ 1) (hnh : nh ≤ 1) (hft : f ≤ t)
    {j : Nat} (hj : j < f + nl + nh + (n - t)) : es' j = low ∨ es' j = high + 1 ∨ ∃ i, i < n ∧ es' j = es i := by
  by_cases i1 : j < f
  · exact Or.inr (Or.inr ⟨j, by omega, zA j i1⟩)
  · by_cases i2 : f + nl + nh ≤ j
    · exact Or.inr (Or.inr ⟨_, by omega, zD j i2 hj⟩)
    · by_cases i3 : nh = 1 ∧ j = f + nl + nh - 1
      · rw [i3.2]; exact Or.inr (Or.inl (zC i3.1))
      · have e : j = f := by omega
        rw [e]; exact Or.inl (zB (by omega))
/-- what the rows of the class do is told by the four zones -/
theorem ins_zones (es : Nat → Int) {n f t nl nh : Nat} (low hi : Int) (hnl : nl ≤ 1) (hnh : nh ≤ 1) (es' : Nat → Int)
    (he : es' = (if nh = 1 then (fun g => va_up g (f + nl + nh - 1) hi) else id) ((if nl = 1 then (fun g => va_up g f low) else id) (va_cpy es es t (f + nl + nh) (n - t)))) :
    (∀ j, j < f → es' j = es j) ∧ (nl = 1 → es' f = low) ∧ (nh = 1 → es' (f + nl + nh - 1) = hi) ∧ (∀ j, f + nl + nh ≤ j → j < f + nl + nh + (n - t) → es' j = es (t + (j - (f + nl + nh)))) := by
  subst he
  refine ⟨fun j hj => ?_, fun h => ?_, fun h => ?_, fun j h1 h2 => ?_⟩
  · by_cases a : nh = 1 <;> by_cases b : nl = 1 <;> simp [a, b, va_up, va_cpy] <;> omega
  · by_cases a : nh = 1 <;> simp [a, h, va_up]
  · by_cases b : nl = 1 <;> simp [b, h, va_up]
  · by_cases a : nh = 1 <;> by_cases b : nl = 1 <;> simp [a, b, va_up, va_cpy] <;> omega
/-- an ascending row whose values lie in a list is no longer than the list -/
theorem asc_len {es : Nat → Int} {n : Nat} (ha : asc es n) (B : List Int) (h : ∀ i, i < n → es i ∈ B) : n ≤ B.length := by
  have hn : ((List.range n).map es).Nodup := by
    rw [List.nodup_iff_pairwise_ne]
    rw [List.pairwise_map]
    refine List.Pairwise.imp_of_mem ?_ List.pairwise_lt_range
    intro a b h1 h2 h3
    have := ha a b h3 (List.mem_range.mp h2)
    omega
  have hs : ((List.range n).map es) ⊆ B := by
    intro x hx
    obtain ⟨i, hi, rfl⟩ := List.mem_map.mp hx
    exact h i (List.mem_range.mp hi)
  have := List.Nodup.length_le_of_subset hn hs
  simpa using this
