/-! BITS: the number of ones of a word, byte by byte -/
theorem and_split (k a b c d : Nat) (hb : b < 2 ^ k) (hd : d < 2 ^ k) : (2 ^ k * a + b) &&& (2 ^ k * c + d) = 2 ^ k * (a &&& c) + (b &&& d) := by
  apply Nat.eq_of_testBit_eq
  intro j
  have hbd : b &&& d < 2 ^ k := Nat.and_lt_two_pow b hd
  rw [Nat.testBit_and, Nat.testBit_two_pow_mul_add a hb, Nat.testBit_two_pow_mul_add c hd, Nat.testBit_two_pow_mul_add _ hbd]
  by_cases h : j < k
  · rw [if_pos h, if_pos h, if_pos h, Nat.testBit_and]
  · rw [if_neg h, if_neg h, if_neg h, Nat.testBit_and]
theorem and_split8 (a b c d : Nat) (hb : b < 256) (hd : d < 256) : (256 * a + b) &&& (256 * c + d) = 256 * (a &&& c) + (b &&& d) := and_split 8 a b c d hb hd
theorem cnt_add (p : Nat → Bool) (a : Nat) : ∀ b, cnt p (a + b) = cnt p a + cnt (fun i => p (a + i)) b
  | 0 => rfl
  | b + 1 => by
    show cnt p (a + b) + (if p (a + b) = true then 1 else 0) = cnt p a + (cnt (fun i => p (a + i)) b + (if p (a + b) = true then 1 else 0))
    rw [cnt_add p a b]
    omega
theorem cnt_congr {p q : Nat → Bool} : ∀ {n : Nat}, (∀ i, i < n → p i = q i) → cnt p n = cnt q n
  | 0, _ => rfl
  | n + 1, h => by
    show cnt p n + _ = cnt q n + _
    rw [cnt_congr (fun i hi => h i (by omega)), h n (by omega)]
def mk8 (m : Nat) : Nat → Nat
  | 0 => 0
  | k + 1 => 256 * mk8 m k + m
def bm (f : Nat → Nat) : Nat → Nat → Nat
  | 0, _ => 0
  | k + 1, n => 256 * bm f k (n / 256) + f (n % 256)
def bsum (f : Nat → Nat) : Nat → Nat → Nat
  | 0, _ => 0
  | k + 1, n => f (n % 256) + bsum f k (n / 256)
def by1 (x : Nat) : Nat := x - ((x / 2) &&& 85)
def by2 (x : Nat) : Nat := (x &&& 51) + ((x / 4) &&& 51)
def by3 (x : Nat) : Nat := (x + x / 16) % 16
theorem by_ok : ∀ x, x < 256 → by3 (by2 (by1 x)) = cnt (fun i => x.testBit i) 8 ∧ by1 x < 256 ∧ by2 (by1 x) < 256 ∧ by2 (by1 x) % 16 ≤ 4 ∧ by2 (by1 x) / 16 ≤ 4 ∧ ((x / 2) &&& 85) ≤ x ∧ by3 (by2 (by1 x)) ≤ 8 := by decide +kernel
theorem by_e1 : ∀ x, x < 256 → ∀ e, e < 2 → (128 * e + x / 2) &&& 85 = (x / 2) &&& 85 := by decide +kernel
theorem by_e2 : ∀ x, x < 256 → ∀ e, e < 4 → (64 * e + x / 4) &&& 51 = (x / 4) &&& 51 := by decide +kernel
theorem bm_and1 : ∀ k n, (n / 2) &&& mk8 85 k = bm (fun x => (x / 2) &&& 85) k n
  | 0, n => by show (n / 2) &&& 0 = 0; exact Nat.and_zero _
  | k + 1, n => by
    show (n / 2) &&& (256 * mk8 85 k + 85) = 256 * bm _ k (n / 256) + ((n % 256 / 2) &&& 85)
    have e : n / 2 = 256 * (n / 256 / 2) + (128 * (n / 256 % 2) + n % 256 / 2) := by omega
    rw [e, and_split8 _ _ _ _ (by omega) (by omega), bm_and1 k (n / 256), by_e1 _ (by omega) _ (by omega)]
theorem bm_and2a : ∀ k n, n &&& mk8 51 k = bm (fun x => x &&& 51) k n
  | 0, n => by show n &&& 0 = 0; exact Nat.and_zero _
  | k + 1, n => by
    show n &&& (256 * mk8 51 k + 51) = 256 * bm _ k (n / 256) + ((n % 256) &&& 51)
    have e : n = 256 * (n / 256) + n % 256 := by omega
    rw [← bm_and2a k (n / 256)]
    conv => lhs; rw [e]
    rw [and_split8 _ _ _ _ (by omega) (by omega)]
theorem bm_and2b : ∀ k n, (n / 4) &&& mk8 51 k = bm (fun x => (x / 4) &&& 51) k n
  | 0, n => by show (n / 4) &&& 0 = 0; exact Nat.and_zero _
  | k + 1, n => by
    show (n / 4) &&& (256 * mk8 51 k + 51) = 256 * bm _ k (n / 256) + ((n % 256 / 4) &&& 51)
    have e : n / 4 = 256 * (n / 256 / 4) + (64 * (n / 256 % 4) + n % 256 / 4) := by omega
    rw [e, and_split8 _ _ _ _ (by omega) (by omega), bm_and2b k (n / 256), by_e2 _ (by omega) _ (by omega)]
theorem bm_add (f g : Nat → Nat) : ∀ k n, bm f k n + bm g k n = bm (fun x => f x + g x) k n
  | 0, _ => rfl
  | k + 1, n => by
    show 256 * bm f k (n / 256) + f (n % 256) + (256 * bm g k (n / 256) + g (n % 256)) = 256 * bm _ k (n / 256) + (f (n % 256) + g (n % 256))
    rw [← bm_add f g k (n / 256)]
    omega
theorem bm_le (g : Nat → Nat) (hg : ∀ x, x < 256 → g x ≤ x) : ∀ k n, bm g k n ≤ n
  | 0, _ => Nat.zero_le _
  | k + 1, n => by
    show 256 * bm g k (n / 256) + g (n % 256) ≤ n
    have := bm_le g hg k (n / 256)
    have := hg (n % 256) (by omega)
    omega
theorem bm_sub (g : Nat → Nat) (hg : ∀ x, x < 256 → g x ≤ x) : ∀ k n, n < 256 ^ k → n - bm g k n = bm (fun x => x - g x) k n
  | 0, n, h => by
    have : n = 0 := by omega
    subst this
    rfl
  | k + 1, n, h => by
    show n - (256 * bm g k (n / 256) + g (n % 256)) = 256 * bm _ k (n / 256) + (n % 256 - g (n % 256))
    have h2 : n / 256 < 256 ^ k := by rw [Nat.pow_succ] at h; omega
    rw [← bm_sub g hg k (n / 256) h2]
    have := bm_le g hg k (n / 256)
    have := hg (n % 256) (by omega)
    omega
theorem bm_comp (f g : Nat → Nat) (hg : ∀ x, x < 256 → g x < 256) : ∀ k n, bm f k (bm g k n) = bm (fun x => f (g x)) k n
  | 0, _ => rfl
  | k + 1, n => by
    show 256 * bm f k ((256 * bm g k (n / 256) + g (n % 256)) / 256) + f ((256 * bm g k (n / 256) + g (n % 256)) % 256) = 256 * bm _ k (n / 256) + f (g (n % 256))
    have := hg (n % 256) (by omega)
    rw [show (256 * bm g k (n / 256) + g (n % 256)) / 256 = bm g k (n / 256) by omega, show (256 * bm g k (n / 256) + g (n % 256)) % 256 = g (n % 256) by omega, bm_comp f g hg k (n / 256)]
theorem bm_lt (g : Nat → Nat) (hg : ∀ x, x < 256 → g x < 256) : ∀ k n, bm g k n < 256 ^ k
  | 0, _ => by show (0 : Nat) < 256 ^ 0; decide
  | k + 1, n => by
    show 256 * bm g k (n / 256) + g (n % 256) < 256 ^ (k + 1)
    have := bm_lt g hg k (n / 256)
    have := hg (n % 256) (by omega)
    rw [Nat.pow_succ]
    omega
theorem bm_congr {f g : Nat → Nat} (h : ∀ x, x < 256 → f x = g x) : ∀ k n, bm f k n = bm g k n
  | 0, _ => rfl
  | k + 1, n => by
    show 256 * bm f k (n / 256) + f (n % 256) = 256 * bm g k (n / 256) + g (n % 256)
    rw [bm_congr h k (n / 256), h _ (by omega)]
