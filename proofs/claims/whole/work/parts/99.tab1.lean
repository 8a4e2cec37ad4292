def kchk (L : List (Nat × Nat × Nat)) (lo hi : Nat) : Bool := L.all (fun t => (Nat.ble t.1 lo == Nat.ble t.1 hi) && (Nat.ble lo t.2.1 == Nat.ble hi t.2.1))
theorem ble_mid {a lo c hi : Nat} (h : (Nat.ble a lo == Nat.ble a hi) = true) (h1 : lo ≤ c) (h2 : c ≤ hi) : Nat.ble a c = Nat.ble a lo := by
  have e : Nat.ble a lo = Nat.ble a hi := by simpa using h
  cases q : Nat.ble a lo with
  | true => exact Nat.ble_eq_true_of_le (Nat.le_trans (Nat.le_of_ble_eq_true q) h1)
  | false =>
    cases w : Nat.ble a c with
    | false => rfl
    | true =>
      have := Nat.ble_eq_true_of_le (Nat.le_trans (Nat.le_of_ble_eq_true w) h2)
      rw [← e, q] at this; cases this
theorem ble_mid2 {b lo c hi : Nat} (h : (Nat.ble lo b == Nat.ble hi b) = true) (h1 : lo ≤ c) (h2 : c ≤ hi) : Nat.ble c b = Nat.ble lo b := by
  have e : Nat.ble lo b = Nat.ble hi b := by simpa using h
  cases q : Nat.ble lo b with
  | true => exact Nat.ble_eq_true_of_le (Nat.le_trans h2 (Nat.le_of_ble_eq_true (e ▸ q)))
  | false =>
    cases w : Nat.ble c b with
    | false => rfl
    | true =>
      have := Nat.ble_eq_true_of_le (Nat.le_trans h1 (Nat.le_of_ble_eq_true w))
      rw [q] at this; cases this
theorem kfold_mid : ∀ (L : List (Nat × Nat × Nat)) (f : Nat → Nat) {lo c hi : Nat}, kchk L lo hi = true → lo ≤ c → c ≤ hi → f c = f lo → kfold L f c = kfold L f lo
  | [], f, _, _, _, _, _, _, hf => hf
  | t :: L, f, lo, c, hi, h, h1, h2, hf => by
    unfold kchk at h
    rw [List.all_cons, Bool.and_eq_true, Bool.and_eq_true] at h
    refine kfold_mid L (kset f t.1 t.2.1 t.2.2) h.2 h1 h2 ?_
    unfold kset
    rw [ble_mid h.1.1 h1 h2, ble_mid2 h.1.2 h1 h2, hf]
def achk (a b lo hi : Nat) : Bool := Nat.beq lo hi || (Nat.blt hi a || Nat.ble b lo)
theorem kalt_mid {f : Nat → Nat} {a b lo c hi : Nat} (h : achk a b lo hi = true) (h1 : lo ≤ c) (h2 : c ≤ hi) (hf : f c = f lo) : kalt f a b c = kalt f a b lo := by
  unfold achk at h
  rw [Bool.or_eq_true, Bool.or_eq_true] at h
  rcases h with h | h | h
  · have := Nat.eq_of_beq_eq_true h
    have : c = lo := by omega
    rw [this]
  · have h : hi < a := Nat.le_of_ble_eq_true h
    unfold kalt
    have e1 : Nat.ble a c = false := by
      cases q : Nat.ble a c with
      | false => rfl
      | true => have := Nat.le_of_ble_eq_true q; omega
    have e2 : Nat.ble a lo = false := by
      cases q : Nat.ble a lo with
      | false => rfl
      | true => have := Nat.le_of_ble_eq_true q; omega
    rw [e1, e2, Bool.false_and, Bool.false_and]; exact hf
  · have h : b ≤ lo := Nat.le_of_ble_eq_true h
    unfold kalt
    have e1 : Nat.blt c b = false := by
      cases q : Nat.blt c b with
      | false => rfl
      | true => have := Nat.le_of_ble_eq_true q; omega
    have e2 : Nat.blt lo b = false := by
      cases q : Nat.blt lo b with
      | false => rfl
      | true => have := Nat.le_of_ble_eq_true q; omega
    rw [e1, e2, Bool.false_and, Bool.false_and, Bool.and_false, Bool.and_false]; exact hf
def nchk (lo hi : Nat) : Bool := kchk K0 lo hi && (kchk K1 lo hi && (kchk K2 lo hi && (kchk K3 lo hi && (achk 256 312 lo hi && (achk 330 376 lo hi && (achk 313 329 lo hi && achk 377 383 lo hi))))))
theorem kN_mid {lo c hi : Nat} (h : nchk lo hi = true) (h1 : lo ≤ c) (h2 : c ≤ hi) : kN c = kN lo := by
  unfold nchk at h
  simp only [Bool.and_eq_true] at h
  obtain ⟨g0, g1, g2, g3, g4, g5, g6, g7⟩ := h
  exact kalt_mid g7 h1 h2 (kalt_mid g6 h1 h2 (kalt_mid g5 h1 h2 (kalt_mid g4 h1 h2 (kfold_mid K3 _ g3 h1 h2 (kfold_mid K2 _ g2 h1 h2 (kfold_mid K1 _ g1 h1 h2 (kfold_mid K0 _ g0 h1 h2 rfl)))))))
