/-! two pairs are apart; a pair's own rows -/
theorem pr_adr {g : zG} {a b n k : Nat} {es : Nat → Int} {x : Nat × va_E} (h : (pr g a b n es)[k]? = some x) : x.1 = a ∨ x.1 = b := by
  rcases pr_get h with ⟨-, rfl⟩ | ⟨-, rfl⟩
  · exact Or.inl rfl
  · exact Or.inr rfl
theorem cw_ap {g : zG} {q : Nat → Nat} {u la : Int} {NX : Nat → Int} {n : Nat → Nat} {es : Nat → Nat → Int} {H : Heap} {A : Nat → Prop} (hP : va_P g.1 classes (cw g q u la NX n es) H) (hD : va_D A (cw g q u la NX n es)) {s t : Nat} (hs : s < 9) (ht : t < 9) (hne : s ≠ t) : zAp (pr g (q (8 + 2 * t)) (q (9 + 2 * t)) (n t) (es t)) (va_A (pr g (q (8 + 2 * s)) (q (9 + 2 * s)) (n s) (es s)) H.size) := by
  intro k x hx hA
  have hlt := ((cw_pr hP ht) k x hx).lt
  have h1 := pr_adr hx
  rcases hA with ⟨j, e, hj⟩ | hA
  · have h2 := pr_adr hj
    rcases h1 with h1 | h1 <;> rcases h2 with h2 | h2
    · have := cw_inj hD (i := 8 + 2 * t) (j := 8 + 2 * s) (by omega) (by omega) (h1.symm.trans h2); omega
    · have := cw_inj hD (i := 8 + 2 * t) (j := 9 + 2 * s) (by omega) (by omega) (h1.symm.trans h2); omega
    · have := cw_inj hD (i := 9 + 2 * t) (j := 8 + 2 * s) (by omega) (by omega) (h1.symm.trans h2); omega
    · have := cw_inj hD (i := 9 + 2 * t) (j := 9 + 2 * s) (by omega) (by omega) (h1.symm.trans h2); omega
  · omega
theorem up_same {α : Type} (f : Nat → α) (k : Nat) (v : α) : va_up f k v k = v := by unfold va_up; rw [if_pos rfl]
theorem up_ne {α : Type} (f : Nat → α) {k j : Nat} (v : α) (h : j ≠ k) : va_up f k v j = f j := by unfold va_up; rw [if_neg h]
theorem Cmp_len {last : Int} {es e2 : Nat → Int} {n n2 : Nat} (h : Cmp last es n e2 n2) : n2 ≤ n + 2 := by
  obtain ⟨e1, n1, h1, h2⟩ := h
  have a : n1 ≤ n + 1 := by rcases h1 with ⟨_, _, a, _⟩ | ⟨_, a, _⟩ <;> omega
  have b : n2 ≤ n1 + 1 := by rcases h2 with ⟨_, _, b, _⟩ | ⟨_, b, _⟩ <;> omega
  omega
