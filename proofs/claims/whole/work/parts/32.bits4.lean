theorem bsum_cnt : ∀ k n, bsum (fun x => cnt (fun i => x.testBit i) 8) k n = cnt (fun i => n.testBit i) (8 * k)
  | 0, _ => rfl
  | k + 1, n => by
    show cnt (fun i => (n % 256).testBit i) 8 + bsum _ k (n / 256) = _
    rw [bsum_cnt k (n / 256), show 8 * (k + 1) = 8 + 8 * k by omega, cnt_add]
    have e1 : cnt (fun i => (n % 256).testBit i) 8 = cnt (fun i => n.testBit i) 8 := cnt_congr (fun i hi => by
      show (n % 2 ^ 8).testBit i = n.testBit i
      rw [Nat.testBit_mod_two_pow]; simp [hi])
    have e2 : cnt (fun i => (n / 256).testBit i) (8 * k) = cnt (fun i => n.testBit (8 + i)) (8 * k) := cnt_congr (fun i _ => by
      show (n / 2 ^ 8).testBit i = n.testBit (8 + i)
      rw [Nat.testBit_div_two_pow, Nat.add_comm])
    rw [e1, e2]
theorem bsum_congr {f g : Nat → Nat} (h : ∀ x, x < 256 → f x = g x) : ∀ k n, bsum f k n = bsum g k n
  | 0, _ => rfl
  | k + 1, n => by
    show f (n % 256) + bsum f k (n / 256) = g (n % 256) + bsum g k (n / 256)
    rw [bsum_congr h k (n / 256), h _ (by omega)]
