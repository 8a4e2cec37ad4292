/-! two pairs are apart; a pair's own rows -/
theorem pr_adr {g : zG} {a b n k : Nat} {es : Nat → Int} {x : Nat × va_E} (h : (pr g a b n es)[k]? = some x) : x.1 = a ∨ x.1 = b := by
  rcases pr_get h with ⟨-, rfl⟩ | ⟨-, rfl⟩
  · exact Or.inl rfl
  · exact Or.inr rfl
theorem cw_ap {g : zG} {q : Nat → Nat} {u la : Int} {NX : Nat → Int} {n : Nat → Nat} {es : Nat → Nat → Int} {H : Heap} {A : Nat → Prop} (hP : va_P g.1 classes (cw g q u la NX n es) H) (hD : va_D A (cw g q u la NX n es)) {s t : Nat} (hs : s < 9) (ht : t < 9) (hne : s ≠ t) : zAp (pr g (q (8 + 2 * t)) (q (9 + 2 * t)) (n t) (es t)) (va_A (pr g (q (8 + 2 * s)) (q (9 + 2 * s)) (n s) (es s)) H.size) := by
  intro k x hx hA
  have hlt := ((cw_pr hP ht) k x hx).lt
  have h1 := pr_adr hx
  rcases hA with ⟨j, e, hj⟩ | hA
  · have h2 := pr_adr hj
    rcases h1 with h1 | h1 <;> rcases h2 with h2 | h2
    · have := cw_inj hD (i := 8 + 2 * t) (j := 8 + 2 * s) (by omega) (by omega) (h1.symm.trans h2); omega
    · have := cw_inj hD (i := 8 + 2 * t) (j := 9 + 2 * s) (by omega) (by omega) (h1.symm.trans h2); omega
    · have := cw_inj hD (i := 9 + 2 * t) (j := 8 + 2 * s) (by omega) (by omega) (h1.symm.trans h2); omega
    · have := cw_inj hD (i := 9 + 2 * t) (j := 9 + 2 * s) (by omega) (by omega) (h1.symm.trans h2); omega
  · omega
theorem up_same {α : Type} (f : Nat → α) (k : Nat) (v : α) : va_up f k v k = v := by unfold va_up; rw [if_pos rfl]
theorem up_ne {α : Type} (f : Nat → α) {k j : Nat} (v : α) (h : j ≠ k) : va_up f k v j = f j := by unfold va_up; rw [if_neg h]
theorem Cmp_len {last : Int} {es e2 : Nat → Int} {n n2 : Nat} (h : Cmp last es n e2 n2) : n2 ≤ n + 2 := by
  obtain ⟨e1, n1, h1, h2⟩ := h
  have a : n1 ≤ n + 1 := by rcases h1 with ⟨_, _, a, _⟩ | ⟨_, a, _⟩ <;> omega
  have b : n2 ≤ n1 + 1 := by rcases h2 with ⟨_, _, b, _⟩ | ⟨_, b, _⟩ <;> omega
  omega
theorem IA_B {es es2 : Nat → Int} {n n2 : Nat} (Bs : List Int) (hB : ∀ i, i < n → es i ∈ Bs) (hB2 : ∀ i, i < n2 → es2 i ∈ Bs) : ∀ {i : Nat} {e : Nat → Int} {m : Nat}, IA es n es2 i e m → 2 * i ≤ n2 → ∀ j, j < m → e j ∈ Bs := by
  intro i
  induction i with
  | zero =>
    intro e m h _
    obtain ⟨rfl, rfl⟩ := h
    exact hB
  | succ i ih =>
    intro e m h hi
    obtain ⟨e0, m0, h0, hI⟩ := h
    refine Ins_B hI Bs (ih h0 (by omega)) (hB2 _ (by omega)) ?_
    rw [show es2 (2 * i + 1) - 1 + 1 = es2 (2 * i + 1) by omega]
    exact hB2 _ (by omega)
theorem IA_asc {es es2 : Nat → Int} {n : Nat} (ha : asc es n) : ∀ {i : Nat} {e : Nat → Int} {m : Nat}, IA es n es2 i e m → asc e m := by
  intro i
  cases i with
  | zero => intro e m h; obtain ⟨rfl, rfl⟩ := h; exact ha
  | succ i => intro e m h; obtain ⟨e0, m0, h0, hI⟩ := h; exact hI.1
theorem IA_len {es es2 : Nat → Int} {n n2 : Nat} {e : Nat → Int} {m : Nat} (h : IA es n es2 (n2 / 2) e m) (Bs : List Int) (ha : asc es n) (hB : ∀ i, i < n → es i ∈ Bs) (hB2 : ∀ i, i < n2 → es2 i ∈ Bs) (_ : n2 ≤ 2048) : m ≤ Bs.length := asc_len (IA_asc ha h) Bs (IA_B Bs hB hB2 h (by omega))
