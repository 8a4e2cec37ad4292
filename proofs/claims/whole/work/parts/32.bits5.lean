/-- the reference's count of a word's ones, in Nat -/
theorem ones_nat (b : Nat) (hb : b < 18446744073709551616) (n1 n2 n3 : Nat) (e1 : n1 = b - ((b / 2) &&& 6148914691236517205)) (e2 : n2 = (n1 &&& 3689348814741910323) + ((n1 / 4) &&& 3689348814741910323)) (e3 : n3 = (n2 + n2 / 16) &&& 1085102592571150095) :
    n1 < 18446744073709551616 ∧ n2 < 18446744073709551616 ∧ n2 + n2 / 16 < 18446744073709551616 ∧ n3 < 18446744073709551616 ∧ ((b / 2) &&& 6148914691236517205) ≤ b ∧ n3 * 72340172838076673 % 18446744073709551616 / 72057594037927936 = cnt (fun i => b.testBit i) 64 := by
  have m1 : mk8 85 8 = 6148914691236517205 := by decide +kernel
  have m2 : mk8 51 8 = 3689348814741910323 := by decide +kernel
  have m3 : mk8 15 8 = 1085102592571150095 := by decide +kernel
  rw [← m1, bm_and1] at e1
  have hg : ∀ x, x < 256 → (x / 2) &&& 85 ≤ x := fun x hx => (by_ok x hx).2.2.2.2.2.1
  have le1 : ((b / 2) &&& 6148914691236517205) ≤ b := by rw [← m1, bm_and1]; exact bm_le _ hg 8 b
  rw [bm_sub _ hg 8 b (by rw [show (256 : Nat) ^ 8 = 18446744073709551616 by decide]; exact hb)] at e1
  have f1 : n1 = bm by1 8 b := e1
  rw [← m2, bm_and2a, bm_and2b, bm_add] at e2
  have f2 : n2 = bm by2 8 n1 := e2
  rw [f1, bm_comp by2 by1 (fun x hx => (by_ok x hx).2.1)] at f2
  rw [← m3, f2, bm_s3 _ (fun x hx => (by_ok x hx).2.2.2.1) (fun x hx => (by_ok x hx).2.2.2.2.1)] at e3
  have p8 : (256 : Nat) ^ 8 = 18446744073709551616 := by decide
  have l1 : n1 < 18446744073709551616 := by rw [f1, ← p8]; exact bm_lt _ (fun x hx => (by_ok x hx).2.1) 8 b
  have g2 : ∀ x, x < 256 → by2 (by1 x) < 128 := fun x hx => by have := by_ok x hx; omega
  have l2a : n2 ≤ bm (fun _ => 127) 8 b := by
    rw [f2]
    have mono : ∀ k m, bm (fun x => by2 (by1 x)) k m ≤ bm (fun _ => 127) k m := by
      intro k
      induction k with
      | zero => exact fun _ => Nat.le_refl _
      | succ k ih =>
        intro m
        show 256 * bm _ k (m / 256) + by2 (by1 (m % 256)) ≤ 256 * bm _ k (m / 256) + 127
        have := ih (m / 256)
        have := g2 (m % 256) (by omega)
        omega
    exact mono 8 b
  have l2b : bm (fun _ => 127) 8 b = 9187201950435737471 := by simp [bm]
  rw [l2b] at l2a
  have l3 : n3 < 18446744073709551616 := by
    rw [e3, ← p8]
    exact bm_lt _ (fun x hx => Nat.lt_of_le_of_lt (by_ok x hx).2.2.2.2.2.2 (by decide)) 8 b
  have l5 : n3 * 72340172838076673 % 18446744073709551616 / 72057594037927936 = cnt (fun i => b.testBit i) 64 := by
    rw [e3]
    refine (bm_top (fun x => by3 (by2 (by1 x))) (fun x hx => (by_ok x hx).2.2.2.2.2.2) b).trans ?_
    rw [bsum_congr (fun x hx => (by_ok x hx).1) 8 b]
    exact bsum_cnt 8 b
  clear e1 e2 e3 f1 f2
  exact ⟨l1, by clear le1 l5 l3 l1; omega, by clear le1 l5 l3 l1; omega, l3, le1, l5⟩
