theorem bm_16 (h : Nat → Nat) (hh : ∀ x, x < 256 → h x % 16 ≤ 4) : ∀ k m, bm h k m % 16 ≤ 4
  | 0, _ => by show 0 % 16 ≤ 4; omega
  | k + 1, m => by
    show (256 * bm h k (m / 256) + h (m % 256)) % 16 ≤ 4
    have := hh (m % 256) (by omega)
    omega
theorem bm_s3 (h : Nat → Nat) (h1 : ∀ x, x < 256 → h x % 16 ≤ 4) (h2 : ∀ x, x < 256 → h x / 16 ≤ 4) : ∀ k m, (bm h k m + bm h k m / 16) &&& mk8 15 k = bm (fun x => by3 (h x)) k m
  | 0, m => by show (0 + 0 / 16) &&& 0 = 0; rfl
  | k + 1, m => by
    show (256 * bm h k (m / 256) + h (m % 256) + (256 * bm h k (m / 256) + h (m % 256)) / 16) &&& (256 * mk8 15 k + 15) = 256 * bm _ k (m / 256) + by3 (h (m % 256))
    have a1 := h1 (m % 256) (by omega)
    have a2 := h2 (m % 256) (by omega)
    have a3 := bm_16 h h1 k (m / 256)
    have ih := bm_s3 h h1 h2 k (m / 256)
    generalize bm h k (m / 256) = A at *
    generalize h (m % 256) = B at *
    have e : 256 * A + B + (256 * A + B) / 16 = 256 * (A + A / 16) + (B + 16 * (A % 16) + B / 16) := by omega
    rw [e, and_split8 _ _ _ _ (by omega) (by omega), ih]
    have e2 : (B + 16 * (A % 16) + B / 16) &&& 15 = (B + 16 * (A % 16) + B / 16) % 16 := Nat.and_two_pow_sub_one_eq_mod _ 4
    rw [e2]
    show _ = _ + (B + B / 16) % 16
    omega
