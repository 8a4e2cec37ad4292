/-! TABLE, PURE: the pieces against the reference -/
def LOf : Nat → Int := nF LOn
def CAf : Nat → Int := nF CAn
def SCf : Nat → Int := nF SCn
def hiE (i : Nat) : Int := if i + 1 < 253 then LOf (i + 1) else 1114112
theorem asc_adj {es : Nat → Int} {n : Nat} (h : ∀ i, i + 1 < n → es i < es (i + 1)) : asc es n := by
  intro i j hij
  induction j with
  | zero => exact absurd hij (by omega)
  | succ j ih =>
    intro hj
    have := h j hj
    by_cases q : i = j
    · rw [q]; exact this
    · have := ih (by omega) (by omega); omega
theorem PL_adj : (List.range 252).all (fun i => Nat.blt (LOn i) (LOn (i + 1))) = true := by decide +kernel
theorem PL_bd : (List.range 253).all (fun i => Nat.ble (LOn i) 128592 && (Nat.ble (CAn i) 24 && Nat.ble (SCn i) 11)) = true := by decide +kernel
theorem LO_asc : asc LOf 253 := asc_adj (fun i hi => by
  have := List.all_eq_true.mp PL_adj i (List.mem_range.mpr (by omega))
  have := Nat.le_of_ble_eq_true this
  show ((LOn i : Nat) : Int) < ((LOn (i + 1) : Nat) : Int)
  omega)
theorem PL_in (i : Nat) (hi : i < 253) : (0 ≤ LOf i ∧ LOf i ≤ 128592) ∧ (0 ≤ CAf i ∧ CAf i ≤ 24) ∧ (0 ≤ SCf i ∧ SCf i ≤ 11) := by
  have h := List.all_eq_true.mp PL_bd i (List.mem_range.mpr hi)
  rw [Bool.and_eq_true, Bool.and_eq_true] at h
  have a := Nat.le_of_ble_eq_true h.1
  have b := Nat.le_of_ble_eq_true h.2.1
  have c := Nat.le_of_ble_eq_true h.2.2
  show (0 ≤ ((LOn i : Nat) : Int) ∧ ((LOn i : Nat) : Int) ≤ 128592) ∧ (0 ≤ ((CAn i : Nat) : Int) ∧ ((CAn i : Nat) : Int) ≤ 24) ∧ (0 ≤ ((SCn i : Nat) : Int) ∧ ((SCn i : Nat) : Int) ≤ 11)
  omega
theorem hiE_gt (i : Nat) (hi : i < 253) : LOf i < hiE i ∧ hiE i ≤ 1114112 := by
  unfold hiE
  split
  · have := LO_asc i (i + 1) (by omega) (by assumption)
    have := (PL_in (i + 1) (by assumption)).1
    omega
  · have := (PL_in i hi).1
    omega
def pcN (i : Nat) : Nat := cond (Nat.blt (i + 1) 253) (LOn (i + 1)) 1114112
theorem hiE_pcN (i : Nat) : hiE i = ((pcN i : Nat) : Int) := by
  unfold hiE pcN
  by_cases h : i + 1 < 253
  · rw [if_pos h, show Nat.blt (i + 1) 253 = true from Nat.ble_eq_true_of_le h]; rfl
  · rw [if_neg h, show Nat.blt (i + 1) 253 = false from by
      cases q : Nat.blt (i + 1) 253 with
      | false => rfl
      | true => exact absurd (Nat.le_of_ble_eq_true q) h]; rfl
