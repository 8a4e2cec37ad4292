/-! a set beside what is gathered -/
section CWS
variable {g : zG} {q : Nat → Nat} {u la : Int} {NX : Nat → Int} {n : Nat → Nat} {es : Nat → Nat → Int} {H H1 : Heap} {locs : List Loc} {A : Nat → Prop} {m : Nat} {e : Nat → Int} {k : Nat}
theorem cw_prS (hP : va_P g.1 classes (cw g q u la NX (va_up n 8 m) (va_up es 8 e)) H) (hk : k < 8) : va_P g.1 classes (pr g (q (8 + 2 * k)) (q (9 + 2 * k)) (n k) (es k)) H := by
  have := cw_pr hP (k := k) (by omega)
  rw [up_ne _ _ (by omega), up_ne _ _ (by omega)] at this
  exact this
theorem cw_prDS (hD : va_D A (cw g q u la NX (va_up n 8 m) (va_up es 8 e))) (hk : k < 8) : va_D A (pr g (q (8 + 2 * k)) (q (9 + 2 * k)) (n k) (es k)) := by
  have := cw_prD hD (k := k) (by omega)
  rw [up_ne _ _ (by omega), up_ne _ _ (by omega)] at this
  exact this
theorem cw_prFS {H0 : Heap} (hD : va_D A (cw g q u la NX (va_up n 8 m) (va_up es 8 e))) (hS : va_S A H0 H locs) (hA : ∀ x, H0.size ≤ x → A x) (hk : k < 8) : ∀ x, va_A (pr g (q (8 + 2 * k)) (q (9 + 2 * k)) (n k) (es k)) H.size x → A x := by
  have := cw_prF hD hS hA (k := k) (by omega)
  rw [up_ne _ _ (by omega), up_ne _ _ (by omega)] at this
  exact this
theorem cw_apS (hP : va_P g.1 classes (cw g q u la NX (va_up n 8 m) (va_up es 8 e)) H) (hD : va_D A (cw g q u la NX (va_up n 8 m) (va_up es 8 e))) (hk : k < 8) : zAp (pr g (q 24) (q 25) m e) (va_A (pr g (q (8 + 2 * k)) (q (9 + 2 * k)) (n k) (es k)) H.size) := by
  have := cw_ap hP hD (s := k) (t := 8) (by omega) (by omega) (by omega)
  rw [up_same, up_same, up_ne _ _ (by omega), up_ne _ _ (by omega)] at this
  exact this
theorem cw_putS (hP : va_P g.1 classes (cw g q u la NX (va_up n 8 m) (va_up es 8 e)) H) (hD : va_D A (cw g q u la NX (va_up n 8 m) (va_up es 8 e))) (hk : k < 8) {n1 : Nat} {e1 : Nat → Int} (hk1 : ∀ x : Nat, x < H.size → ¬ va_A (pr g (q (8 + 2 * k)) (q (9 + 2 * k)) (n k) (es k)) H.size x → H1[x]? = H[x]?) (hF : ∀ x, va_A (pr g (q (8 + 2 * k)) (q (9 + 2 * k)) (n k) (es k)) H.size x → A x) (hP1 : va_P g.1 classes (pr g (q (8 + 2 * k)) (q (9 + 2 * k)) n1 e1) H1) (hD1 : va_D (va_A (pr g (q (8 + 2 * k)) (q (9 + 2 * k)) (n k) (es k)) H.size) (pr g (q (8 + 2 * k)) (q (9 + 2 * k)) n1 e1)) :
    va_P g.1 classes (cw g q u la NX (va_up (va_up n 8 m) k n1) (va_up (va_up es 8 e) k e1)) H1 ∧ va_D A (cw g q u la NX (va_up (va_up n 8 m) k n1) (va_up (va_up es 8 e) k e1)) :=
  cw_put hP hD (k := k) (n1 := n1) (e1 := e1) (by omega) (by rw [up_ne _ _ (by omega), up_ne _ _ (by omega)]; exact hk1) (by rw [up_ne _ _ (by omega), up_ne _ _ (by omega)]; exact hF) hP1 (by rw [up_ne _ _ (by omega), up_ne _ _ (by omega)]; exact hD1)
end CWS
theorem Cmp_B {last : Int} {es e2 : Nat → Int} {n n2 : Nat} (h : Cmp last es n e2 n2) (Bs : List Int) (hB : ∀ i, i < n → es i ∈ Bs) (h0 : 0 ∈ Bs) (hl : last + 1 ∈ Bs) : ∀ i, i < n2 → e2 i ∈ Bs := by
  obtain ⟨e1, n1, h1, h2⟩ := h
  have b1 : ∀ i, i < n1 → e1 i ∈ Bs := by
    intro i hi
    rcases h1 with ⟨_, _, a, b⟩ | ⟨_, a, b, c⟩
    · rw [b i hi]; exact hB _ (by omega)
    · cases i with
      | zero => rw [b]; exact h0
      | succ i => rw [c i (by omega)]; exact hB _ (by omega)
  intro i hi
  rcases h2 with ⟨_, _, a, b⟩ | ⟨_, a, b, c⟩
  · rw [b i hi]; exact b1 _ (by omega)
  · by_cases z : i = n1
    · rw [z, b]; exact hl
    · rw [c i (by omega)]; exact b1 _ (by omega)
/-- what a complement does to the row of edges alone -/
theorem Cmp_gok {last : Nat} {es e2 : Nat → Int} {n n2 : Nat} {Bs : List Int} (h : Cmp ((last : Nat) : Int) es n e2 n2) (hg : gok Bs es n) (hle : ∀ i, i < n → es i ≤ ((last : Nat) : Int) + 1) (hev : n % 2 = 0) (hla : last ≤ 1114111) (h0 : 0 ∈ Bs) (hl : ((last : Nat) : Int) + 1 ∈ Bs) : gok Bs e2 n2 ∧ n2 % 2 = 0 ∧ ∀ i, i < n2 → e2 i ≤ ((last : Nat) : Int) + 1 := by
  have hb := Cmp_B h Bs hg.2.2 h0 hl
  obtain ⟨e1, n1, h1, h2⟩ := h
  obtain ⟨a2, b2, c2, -⟩ := rep_compl (p := fun c => @decide (∃ k, Up es n (c : Int) k ∧ k % 2 = 1) (Classical.propDecidable _)) ⟨hg.1, hev, fun i hi => ⟨(hg.2.1 i hi).1, hle i hi⟩, fun c _ k hk => by
    constructor
    · intro z
      obtain ⟨k2, hk2, ho⟩ := @of_decide_eq_true _ (Classical.propDecidable _) z
      rw [Up_eq hk hk2]; exact ho
    · intro z; exact @decide_eq_true _ (Classical.propDecidable _) ⟨k, hk, z⟩⟩ h1 h2
  exact ⟨⟨a2, fun i hi => ⟨(c2 i hi).1, by have := (c2 i hi).2; omega⟩, hb⟩, b2, fun i hi => (c2 i hi).2⟩
