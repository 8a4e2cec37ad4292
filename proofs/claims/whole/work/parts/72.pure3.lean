/-! the reference's kinds, and its CASES -/
def kpre (kk : Nat → Nat) (a c w : Nat) : Nat → Nat := fun j => cond (Nat.ble a j && Nat.blt j c) w (kk j)
theorem kp_0 (kk : Nat → Nat) (a w : Nat) : kpre kk a a w = kk := by
  funext j
  unfold kpre
  cases h1 : Nat.ble a j with
  | false => rfl
  | true =>
    cases h2 : Nat.blt j a with
    | false => rfl
    | true =>
      have := Nat.le_of_ble_eq_true h1
      have h3 : j < a := Nat.le_of_ble_eq_true h2
      omega
theorem kp_e (kk : Nat → Nat) (a b w : Nat) : kpre kk a (b + 1) w = kset kk a b w := by
  funext j
  unfold kpre kset
  have : Nat.blt j (b + 1) = Nat.ble j b := by
    cases h : Nat.ble j b with
    | true => exact Nat.ble_eq_true_of_le (Nat.succ_le_succ (Nat.le_of_ble_eq_true h))
    | false =>
      cases h2 : Nat.blt j (b + 1) with
      | false => rfl
      | true =>
        have h3 : j < b + 1 := Nat.le_of_ble_eq_true h2
        have := Nat.ble_eq_true_of_le (show j ≤ b by omega)
        rw [h] at this; cases this
  rw [this]
theorem kp_s (kk : Nat → Nat) (a c w : Nat) (h : a ≤ c) : va_up (nF (kpre kk a c w)) c ((w : Nat) : Int) = nF (kpre kk a (c + 1) w) := by
  funext j
  unfold va_up nF kpre
  by_cases q : j = c
  · rw [if_pos q, q]
    have e1 : Nat.ble a c = true := Nat.ble_eq_true_of_le h
    have e2 : Nat.blt c (c + 1) = true := Nat.ble_eq_true_of_le (Nat.le_refl _)
    rw [e1, e2]; rfl
  · rw [if_neg q]
    have : Nat.blt j (c + 1) = Nat.blt j c := by
      cases h1 : Nat.blt j c with
      | true => exact Nat.ble_eq_true_of_le (Nat.le_succ_of_le (Nat.le_of_ble_eq_true h1))
      | false =>
        cases h2 : Nat.blt j (c + 1) with
        | false => rfl
        | true =>
          have h3 : j < c + 1 := Nat.le_of_ble_eq_true h2
          have := Nat.ble_eq_true_of_le (show j < c by omega)
          rw [show Nat.blt j c = true from this] at h1; cases h1
    rw [this]
def aF (c : Int) : Int := if 8704 < c then c else firstF c
def t5 (la a : Int) (L : List Int) : List Int := if a = 931 then wm la L 962 else L
def t4 (la a : Int) (L : List Int) : List Int := t5 la a (if a = 924 then wm la L 181 else L)
def t3 (la a : Int) (L : List Int) : List Int := t4 la a (if a = 197 then wm la L 8491 else L)
def t2 (la a : Int) (L : List Int) : List Int := t3 la a (if a = 75 then wm la L 8490 else L)
def t1 (la a : Int) (L : List Int) : List Int := t2 la a (if a = 83 then wm la L 383 else L)
def kinL (ut uc la c : Int) : List Int := if (ut = 0 ∧ uc = 0) ∧ ¬ (65 ≤ aF c ∧ aF c ≤ 90) then wm la [] c else (if ut = 0 ∧ uc = 0 then (if aF c = 376 then wm la (wm la [] (aF c)) 255 else if aF c ≤ 8704 ∧ 0 < pairF (aF c) then wm la (wm la [] (aF c)) (aF c + pairF (aF c)) else wm la [] (aF c)) else t1 la (aF c) (if aF c = 376 then wm la (wm la [] (aF c)) 255 else if aF c ≤ 8704 ∧ 0 < pairF (aF c) then wm la (wm la [] (aF c)) (aF c + pairF (aF c)) else wm la [] (aF c)))
