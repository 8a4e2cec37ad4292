theorem nxT_id {L : List (Nat × Nat × Nat × Nat × Nat)} {c : Nat} (h : L.all (fun t => !(Nat.ble t.1 c && Nat.ble c t.2.1)) = true) : nxT L c = c := by
  unfold nxT
  induction L with
  | nil => rfl
  | cons t L ih =>
    rw [List.all_cons, Bool.and_eq_true] at h
    rw [List.foldr_cons, ih h.2]
    have h1 := h.1
    cases a : Nat.ble t.1 c <;> cases b : Nat.ble c t.2.1 <;> rw [a, b] at h1 <;> first | rfl | cases h1
/-- no row reaches a character that has no slot -/
theorem nxT_hi {L : List (Nat × Nat × Nat × Nat × Nat)} {c : Nat} (h : L.all (fun t => Nat.blt t.2.1 1120 || (Nat.beq t.1 8490 && Nat.beq t.2.1 8490) || (Nat.beq t.1 8491 && Nat.beq t.2.1 8491) || (Nat.beq t.1 8490 && Nat.beq t.2.1 8491)) = true) (h1 : 1120 ≤ c) (h2 : c ≠ 8490) (h3 : c ≠ 8491) : nxT L c = c := by
  refine nxT_id (List.all_eq_true.mpr (fun t ht => ?_))
  have := List.all_eq_true.mp h t ht
  cases a : Nat.ble t.1 c with
  | false => rfl
  | true =>
    cases b : Nat.ble c t.2.1 with
    | false => rfl
    | true =>
      have a1 := Nat.le_of_ble_eq_true a
      have b1 := Nat.le_of_ble_eq_true b
      exfalso
      simp only [Bool.or_eq_true, Bool.and_eq_true] at this
      rcases this with ((w | w) | w) | w
      · have : t.2.1 < 1120 := Nat.le_of_ble_eq_true w
        omega
      · have a2 := Nat.eq_of_beq_eq_true w.1
        have b2 := Nat.eq_of_beq_eq_true w.2
        omega
      · have a2 := Nat.eq_of_beq_eq_true w.1
        have b2 := Nat.eq_of_beq_eq_true w.2
        omega
      · have a2 := Nat.eq_of_beq_eq_true w.1
        have b2 := Nat.eq_of_beq_eq_true w.2
        omega
theorem nxa_f : nxF (NXa 255) = nxI Ta := by
  funext c
  have hs := slF_bd c
  unfold nxF
  by_cases h : slF c < 0
  · rw [if_pos h]
    unfold nxI
    by_cases h0 : c < 0
    · rw [if_pos h0]
    · rw [if_neg h0]
      have e : 1120 ≤ c ∧ c ≠ 8490 ∧ c ≠ 8491 := by
        unfold slF at h
        repeat' split at h
        all_goals omega
      rw [nxT_hi (by decide +kernel) (by omega) (by omega) (by omega)]; omega
  · rw [if_neg h, nxa_at (by omega)]
    unfold nxI
    have e : 0 ≤ c ∧ chN (slF c).toNat = c.toNat := by
      unfold slF at h ⊢
      split
      · rename_i w
        refine ⟨w.1, ?_⟩
        unfold chN
        rw [show Nat.blt c.toNat 1120 = true from Nat.ble_eq_true_of_le (by omega)]; rfl
      · split
        · rename_i w1 w
          refine ⟨by omega, ?_⟩
          unfold chN
          rw [show Nat.blt (c - 7370).toNat 1120 = false from by
            cases q : Nat.blt (c - 7370).toNat 1120 with
            | false => rfl
            | true => have : (c - 7370).toNat < 1120 := Nat.le_of_ble_eq_true q; omega]
          show 7370 + (c - 7370).toNat = c.toNat
          omega
        · rename_i w1 w
          rw [if_neg w1, if_neg w] at h
          omega
    rw [if_neg (by omega), e.2]
theorem nxb_f : nxF (NXb 255) = nxI Tb := by
  funext c
  have hs := slF_bd c
  unfold nxF
  by_cases h : slF c < 0
  · rw [if_pos h]
    unfold nxI
    by_cases h0 : c < 0
    · rw [if_pos h0]
    · rw [if_neg h0]
      have e : 1120 ≤ c ∧ c ≠ 8490 ∧ c ≠ 8491 := by
        unfold slF at h
        repeat' split at h
        all_goals omega
      rw [nxT_hi (by decide +kernel) (by omega) (by omega) (by omega)]; omega
  · rw [if_neg h, nxb_at (by omega)]
    unfold nxI
    have e : 0 ≤ c ∧ chN (slF c).toNat = c.toNat := by
      unfold slF at h ⊢
      split
      · rename_i w
        refine ⟨w.1, ?_⟩
        unfold chN
        rw [show Nat.blt c.toNat 1120 = true from Nat.ble_eq_true_of_le (by omega)]; rfl
      · split
        · rename_i w1 w
          refine ⟨by omega, ?_⟩
          unfold chN
          rw [show Nat.blt (c - 7370).toNat 1120 = false from by
            cases q : Nat.blt (c - 7370).toNat 1120 with
            | false => rfl
            | true => have : (c - 7370).toNat < 1120 := Nat.le_of_ble_eq_true q; omega]
          show 7370 + (c - 7370).toNat = c.toNat
          omega
        · rename_i w1 w
          rw [if_neg w1, if_neg w] at h
          omega
    rw [if_neg (by omega), e.2]
theorem nxc_f : nxF (NXb 1114111) = nxI Tc := by
  funext c
  have hs := slF_bd c
  unfold nxF
  by_cases h : slF c < 0
  · rw [if_pos h]
    unfold nxI
    by_cases h0 : c < 0
    · rw [if_pos h0]
    · rw [if_neg h0]
      have e : 1120 ≤ c ∧ c ≠ 8490 ∧ c ≠ 8491 := by
        unfold slF at h
        repeat' split at h
        all_goals omega
      rw [nxT_hi (by decide +kernel) (by omega) (by omega) (by omega)]; omega
  · rw [if_neg h, nxc_at (by omega)]
    unfold nxI
    have e : 0 ≤ c ∧ chN (slF c).toNat = c.toNat := by
      unfold slF at h ⊢
      split
      · rename_i w
        refine ⟨w.1, ?_⟩
        unfold chN
        rw [show Nat.blt c.toNat 1120 = true from Nat.ble_eq_true_of_le (by omega)]; rfl
      · split
        · rename_i w1 w
          refine ⟨by omega, ?_⟩
          unfold chN
          rw [show Nat.blt (c - 7370).toNat 1120 = false from by
            cases q : Nat.blt (c - 7370).toNat 1120 with
            | false => rfl
            | true => have : (c - 7370).toNat < 1120 := Nat.le_of_ble_eq_true q; omega]
          show 7370 + (c - 7370).toNat = c.toNat
          omega
        · rename_i w1 w
          rw [if_neg w1, if_neg w] at h
          omega
    rw [if_neg (by omega), e.2]
