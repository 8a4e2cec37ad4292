theorem bm_top (f : Nat → Nat) (hf : ∀ x, x < 256 → f x ≤ 8) (m : Nat) : bm f 8 m * 72340172838076673 % 18446744073709551616 / 72057594037927936 = bsum f 8 m := by
  simp only [bm, bsum]
  have a0 := hf (m % 256) (by omega)
  have a1 := hf (m / 256 % 256) (by omega)
  have a2 := hf (m / 256 / 256 % 256) (by omega)
  have a3 := hf (m / 256 / 256 / 256 % 256) (by omega)
  have a4 := hf (m / 256 / 256 / 256 / 256 % 256) (by omega)
  have a5 := hf (m / 256 / 256 / 256 / 256 / 256 % 256) (by omega)
  have a6 := hf (m / 256 / 256 / 256 / 256 / 256 / 256 % 256) (by omega)
  have a7 := hf (m / 256 / 256 / 256 / 256 / 256 / 256 / 256 % 256) (by omega)
  generalize f (m % 256) = r0 at *
  generalize f (m / 256 % 256) = r1 at *
  generalize f (m / 256 / 256 % 256) = r2 at *
  generalize f (m / 256 / 256 / 256 % 256) = r3 at *
  generalize f (m / 256 / 256 / 256 / 256 % 256) = r4 at *
  generalize f (m / 256 / 256 / 256 / 256 / 256 % 256) = r5 at *
  generalize f (m / 256 / 256 / 256 / 256 / 256 / 256 % 256) = r6 at *
  generalize f (m / 256 / 256 / 256 / 256 / 256 / 256 / 256 % 256) = r7 at *
  clear hf
  have e := top_e r0 r1 r2 r3 r4 r5 r6 r7
  have l := top_l r0 r1 r2 r3 r4 r5 r6 r7 a0 a1 a2 a3 a4 a5 a6 a7
  exact (top_key _ _ _ _ e l (by clear e l; omega)).trans (by clear e l; omega)
