/-! TABLE, PURE: the pieces against the reference -/
def LOf : Nat → Int := nF LOn
def CAf : Nat → Int := nF CAn
def SCf : Nat → Int := nF SCn
def hiE (i : Nat) : Int := if i + 1 < 253 then LOf (i + 1) else 1114112
theorem asc_adj {es : Nat → Int} {n : Nat} (h : ∀ i, i + 1 < n → es i < es (i + 1)) : asc es n := by
  intro i j hij
  induction j with
  | zero => exact absurd hij (by omega)
  | succ j ih =>
    intro hj
    have := h j hj
    by_cases q : i = j
    · rw [q]; exact this
    · have := ih (by omega) (by omega); omega
theorem PL_adj : (List.range 252).all (fun i => Nat.blt (LOn i) (LOn (i + 1))) = true := by decide +kernel
theorem PL_bd : (List.range 253).all (fun i => Nat.ble (LOn i) 128592 && (Nat.ble (CAn i) 24 && Nat.ble (SCn i) 11)) = true := by decide +kernel
theorem LO_asc : asc LOf 253 := asc_adj (fun i hi => by
  have := List.all_eq_true.mp PL_adj i (List.mem_range.mpr (by omega))
  have := Nat.le_of_ble_eq_true this
  show ((LOn i : Nat) : Int) < ((LOn (i + 1) : Nat) : Int)
  omega)
theorem PL_in (i : Nat) (hi : i < 253) : (0 ≤ LOf i ∧ LOf i ≤ 128592) ∧ (0 ≤ CAf i ∧ CAf i ≤ 24) ∧ (0 ≤ SCf i ∧ SCf i ≤ 11) := by
  have h := List.all_eq_true.mp PL_bd i (List.mem_range.mpr hi)
  rw [Bool.and_eq_true, Bool.and_eq_true] at h
  have a := Nat.le_of_ble_eq_true h.1
  have b := Nat.le_of_ble_eq_true h.2.1
  have c := Nat.le_of_ble_eq_true h.2.2
  show (0 ≤ ((LOn i : Nat) : Int) ∧ ((LOn i : Nat) : Int) ≤ 128592) ∧ (0 ≤ ((CAn i : Nat) : Int) ∧ ((CAn i : Nat) : Int) ≤ 24) ∧ (0 ≤ ((SCn i : Nat) : Int) ∧ ((SCn i : Nat) : Int) ≤ 11)
  omega
theorem hiE_gt (i : Nat) (hi : i < 253) : LOf i < hiE i ∧ hiE i ≤ 1114112 := by
  unfold hiE
  split
  · have := LO_asc i (i + 1) (by omega) (by assumption)
    have := (PL_in (i + 1) (by assumption)).1
    omega
  · have := (PL_in i hi).1
    omega
def pcN (i : Nat) : Nat := cond (Nat.blt (i + 1) 253) (LOn (i + 1)) 1114112
theorem hiE_pcN (i : Nat) : hiE i = ((pcN i : Nat) : Int) := by
  unfold hiE pcN
  by_cases h : i + 1 < 253
  · rw [if_pos h, show Nat.blt (i + 1) 253 = true from Nat.ble_eq_true_of_le h]; rfl
  · rw [if_neg h, show Nat.blt (i + 1) 253 = false from by
      cases q : Nat.blt (i + 1) 253 with
      | false => rfl
      | true => exact absurd (Nat.le_of_ble_eq_true q) h]; rfl
theorem pc_low : (List.range 241).all (fun i => (List.range (min (pcN i) 12544 - LOn i)).all (fun j => Nat.beq (kN (LOn i + j)) (CAn i) && decide (scrG ((CAn i : Nat) : Int) ((LOn i + j : Nat) : Int) = ((SCn i : Nat) : Int)))) = true := by decide +kernel
theorem pc_val : (LOn 240 = 12539 ∧ CAn 240 = 0 ∧ SCn 240 = 0) ∧ (LOn 241 = 19968 ∧ CAn 241 = 5 ∧ SCn 241 = 9) ∧ (LOn 242 = 40960 ∧ CAn 242 = 0 ∧ SCn 242 = 0) ∧ (LOn 243 = 44032 ∧ CAn 243 = 5 ∧ SCn 243 = 10) ∧ (LOn 244 = 55204 ∧ CAn 244 = 0 ∧ SCn 244 = 0) ∧ (LOn 245 = 57344 ∧ CAn 245 = 3 ∧ SCn 245 = 0) ∧ (LOn 246 = 63744 ∧ CAn 246 = 0 ∧ SCn 246 = 0) ∧ (LOn 247 = 65039 ∧ CAn 247 = 7 ∧ SCn 247 = 11) ∧ (LOn 248 = 65040 ∧ CAn 248 = 0 ∧ SCn 248 = 0) ∧ (LOn 249 = 65279 ∧ CAn 249 = 2 ∧ SCn 249 = 1) ∧ (LOn 250 = 65280 ∧ CAn 250 = 0 ∧ SCn 250 = 0) ∧ (LOn 251 = 127744 ∧ CAn 251 = 21 ∧ SCn 251 = 1) ∧ (LOn 252 = 128592 ∧ CAn 252 = 0 ∧ SCn 252 = 0) := by decide +kernel
theorem cat_piece (i : Nat) (hi : i < 253) (c : Int) (h1 : LOf i ≤ c) (h2 : c < hiE i) : catF c = CAf i ∧ scrF c = SCf i := by
  have e1 : LOf i = ((LOn i : Nat) : Int) := rfl
  rw [hiE_pcN] at h2
  by_cases hc : c < 12544
  · have hlt : i < 241 := by
      rcases Nat.lt_or_ge i 241 with w | w
      · exact w
      · have a := LO_asc 240 (if i = 241 then 241 else i) (by split <;> omega) (by split <;> omega)
        have b : LOf 240 = 12539 := by decide +kernel
        have d : LOf 241 = 19968 := by decide +kernel
        by_cases q : i = 241
        · rw [q, d] at h1; omega
        · have := LO_asc 241 i (by omega) hi
          omega
    have h := List.all_eq_true.mp pc_low i (List.mem_range.mpr hlt)
    have h := List.all_eq_true.mp h (c.toNat - LOn i) (List.mem_range.mpr (by omega))
    rw [Bool.and_eq_true] at h
    have e2 : LOn i + (c.toNat - LOn i) = c.toNat := by omega
    rw [e2] at h
    have k1 := Nat.eq_of_beq_eq_true h.1
    have k2 := of_decide_eq_true h.2
    have e3 : ((c.toNat : Nat) : Int) = c := by omega
    rw [e3] at k2
    have kc : catF c = CAf i := by
      unfold catF
      rw [if_pos hc]
      show ((kN c.toNat : Nat) : Int) = ((CAn i : Nat) : Int)
      rw [k1]
    refine ⟨kc, ?_⟩
    unfold scrF
    rw [kc]
    exact k2
  · have hge : 240 ≤ i := by
      rcases Nat.lt_or_ge i 240 with w | w
      · have a := LO_asc i 240 w (by omega)
        have b : LOf 240 = 12539 := by decide +kernel
        have := hiE_pcN i
        unfold hiE at this
        rw [if_pos (by omega)] at this
        by_cases q : i + 1 = 240
        · rw [q] at this; omega
        · have := LO_asc (i + 1) 240 (by omega) (by omega); omega
      · exact w
    rcases (show i = 240 ∨ i = 241 ∨ i = 242 ∨ i = 243 ∨ i = 244 ∨ i = 245 ∨ i = 246 ∨ i = 247 ∨ i = 248 ∨ i = 249 ∨ i = 250 ∨ i = 251 ∨ i = 252 by omega) with rfl | rfl | rfl | rfl | rfl | rfl | rfl | rfl | rfl | rfl | rfl | rfl | rfl
    · have a1 : ((LOn 240 : Nat) : Int) = 12539 := by decide +kernel
      have a2 : ((pcN 240 : Nat) : Int) = 19968 := by decide +kernel
      have a3 : CAf 240 = 0 := by decide +kernel
      have a4 : SCf 240 = 0 := by decide +kernel
      rw [a2] at h2; rw [e1, a1] at h1; rw [a3, a4]
      have kc : catF c = 0 := by unfold catF; repeat' split <;> omega
      refine ⟨kc, ?_⟩
      unfold scrF scrG; rw [kc]; repeat' split <;> omega
    · have a1 : ((LOn 241 : Nat) : Int) = 19968 := by decide +kernel
      have a2 : ((pcN 241 : Nat) : Int) = 40960 := by decide +kernel
      have a3 : CAf 241 = 5 := by decide +kernel
      have a4 : SCf 241 = 9 := by decide +kernel
      rw [a2] at h2; rw [e1, a1] at h1; rw [a3, a4]
      have kc : catF c = 5 := by unfold catF; repeat' split <;> omega
      refine ⟨kc, ?_⟩
      unfold scrF scrG; rw [kc]; repeat' split <;> omega
    · have a1 : ((LOn 242 : Nat) : Int) = 40960 := by decide +kernel
      have a2 : ((pcN 242 : Nat) : Int) = 44032 := by decide +kernel
      have a3 : CAf 242 = 0 := by decide +kernel
      have a4 : SCf 242 = 0 := by decide +kernel
      rw [a2] at h2; rw [e1, a1] at h1; rw [a3, a4]
      have kc : catF c = 0 := by unfold catF; repeat' split <;> omega
      refine ⟨kc, ?_⟩
      unfold scrF scrG; rw [kc]; repeat' split <;> omega
    · have a1 : ((LOn 243 : Nat) : Int) = 44032 := by decide +kernel
      have a2 : ((pcN 243 : Nat) : Int) = 55204 := by decide +kernel
      have a3 : CAf 243 = 5 := by decide +kernel
      have a4 : SCf 243 = 10 := by decide +kernel
      rw [a2] at h2; rw [e1, a1] at h1; rw [a3, a4]
      have kc : catF c = 5 := by unfold catF; repeat' split <;> omega
      refine ⟨kc, ?_⟩
      unfold scrF scrG; rw [kc]; repeat' split <;> omega
    · have a1 : ((LOn 244 : Nat) : Int) = 55204 := by decide +kernel
      have a2 : ((pcN 244 : Nat) : Int) = 57344 := by decide +kernel
      have a3 : CAf 244 = 0 := by decide +kernel
      have a4 : SCf 244 = 0 := by decide +kernel
      rw [a2] at h2; rw [e1, a1] at h1; rw [a3, a4]
      have kc : catF c = 0 := by unfold catF; repeat' split <;> omega
      refine ⟨kc, ?_⟩
      unfold scrF scrG; rw [kc]; repeat' split <;> omega
    · have a1 : ((LOn 245 : Nat) : Int) = 57344 := by decide +kernel
      have a2 : ((pcN 245 : Nat) : Int) = 63744 := by decide +kernel
      have a3 : CAf 245 = 3 := by decide +kernel
      have a4 : SCf 245 = 0 := by decide +kernel
      rw [a2] at h2; rw [e1, a1] at h1; rw [a3, a4]
      have kc : catF c = 3 := by unfold catF; repeat' split <;> omega
      refine ⟨kc, ?_⟩
      unfold scrF scrG; rw [kc]; repeat' split <;> omega
    · have a1 : ((LOn 246 : Nat) : Int) = 63744 := by decide +kernel
      have a2 : ((pcN 246 : Nat) : Int) = 65039 := by decide +kernel
      have a3 : CAf 246 = 0 := by decide +kernel
      have a4 : SCf 246 = 0 := by decide +kernel
      rw [a2] at h2; rw [e1, a1] at h1; rw [a3, a4]
      have kc : catF c = 0 := by unfold catF; repeat' split <;> omega
      refine ⟨kc, ?_⟩
      unfold scrF scrG; rw [kc]; repeat' split <;> omega
    · have a1 : ((LOn 247 : Nat) : Int) = 65039 := by decide +kernel
      have a2 : ((pcN 247 : Nat) : Int) = 65040 := by decide +kernel
      have a3 : CAf 247 = 7 := by decide +kernel
      have a4 : SCf 247 = 11 := by decide +kernel
      rw [a2] at h2; rw [e1, a1] at h1; rw [a3, a4]
      have kc : catF c = 7 := by unfold catF; repeat' split <;> omega
      refine ⟨kc, ?_⟩
      unfold scrF scrG; rw [kc]; repeat' split <;> omega
    · have a1 : ((LOn 248 : Nat) : Int) = 65040 := by decide +kernel
      have a2 : ((pcN 248 : Nat) : Int) = 65279 := by decide +kernel
      have a3 : CAf 248 = 0 := by decide +kernel
      have a4 : SCf 248 = 0 := by decide +kernel
      rw [a2] at h2; rw [e1, a1] at h1; rw [a3, a4]
      have kc : catF c = 0 := by unfold catF; repeat' split <;> omega
      refine ⟨kc, ?_⟩
      unfold scrF scrG; rw [kc]; repeat' split <;> omega
    · have a1 : ((LOn 249 : Nat) : Int) = 65279 := by decide +kernel
      have a2 : ((pcN 249 : Nat) : Int) = 65280 := by decide +kernel
      have a3 : CAf 249 = 2 := by decide +kernel
      have a4 : SCf 249 = 1 := by decide +kernel
      rw [a2] at h2; rw [e1, a1] at h1; rw [a3, a4]
      have kc : catF c = 2 := by unfold catF; repeat' split <;> omega
      refine ⟨kc, ?_⟩
      unfold scrF scrG; rw [kc]; repeat' split <;> omega
    · have a1 : ((LOn 250 : Nat) : Int) = 65280 := by decide +kernel
      have a2 : ((pcN 250 : Nat) : Int) = 127744 := by decide +kernel
      have a3 : CAf 250 = 0 := by decide +kernel
      have a4 : SCf 250 = 0 := by decide +kernel
      rw [a2] at h2; rw [e1, a1] at h1; rw [a3, a4]
      have kc : catF c = 0 := by unfold catF; repeat' split <;> omega
      refine ⟨kc, ?_⟩
      unfold scrF scrG; rw [kc]; repeat' split <;> omega
    · have a1 : ((LOn 251 : Nat) : Int) = 127744 := by decide +kernel
      have a2 : ((pcN 251 : Nat) : Int) = 128592 := by decide +kernel
      have a3 : CAf 251 = 21 := by decide +kernel
      have a4 : SCf 251 = 1 := by decide +kernel
      rw [a2] at h2; rw [e1, a1] at h1; rw [a3, a4]
      have kc : catF c = 21 := by unfold catF; repeat' split <;> omega
      refine ⟨kc, ?_⟩
      unfold scrF scrG; rw [kc]; repeat' split <;> omega
    · have a1 : ((LOn 252 : Nat) : Int) = 128592 := by decide +kernel
      have a2 : ((pcN 252 : Nat) : Int) = 1114112 := by decide +kernel
      have a3 : CAf 252 = 0 := by decide +kernel
      have a4 : SCf 252 = 0 := by decide +kernel
      rw [a2] at h2; rw [e1, a1] at h1; rw [a3, a4]
      have kc : catF c = 0 := by unfold catF; repeat' split <;> omega
      refine ⟨kc, ?_⟩
      unfold scrF scrG; rw [kc]; repeat' split <;> omega
