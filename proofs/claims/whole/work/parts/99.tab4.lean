theorem cat_piece (i : Nat) (hi : i < 253) (c : Int) (h1 : LOf i ≤ c) (h2 : c < hiE i) : catF c = CAf i ∧ scrF c = SCf i := by
  have e1 : LOf i = ((LOn i : Nat) : Int) := rfl
  rw [hiE_pcN] at h2
  by_cases hc : c < 12544
  · have hlt : i < 241 := by
      rcases Nat.lt_or_ge i 241 with w | w
      · exact w
      · have a := LO_asc 240 (if i = 241 then 241 else i) (by split <;> omega) (by split <;> omega)
        have b : LOf 240 = 12539 := by decide +kernel
        have d : LOf 241 = 19968 := by decide +kernel
        by_cases q : i = 241
        · rw [q, d] at h1; omega
        · have := LO_asc 241 i (by omega) hi
          omega
    have g1 : LOn i ≤ c.toNat := by omega
    have g2 : c.toNat ≤ min (pcN i) 12544 - 1 := by omega
    obtain ⟨k1, k2⟩ := pc_pt hlt g1 g2
    have e3 : ((c.toNat : Nat) : Int) = c := by omega
    rw [e3] at k2
    have kc : catF c = CAf i := by
      unfold catF
      rw [if_pos hc]
      show ((kN c.toNat : Nat) : Int) = ((CAn i : Nat) : Int)
      rw [k1]
    refine ⟨kc, ?_⟩
    unfold scrF
    rw [kc]
    exact k2
  · have hge : 240 ≤ i := by
      rcases Nat.lt_or_ge i 240 with w | w
      · have a := LO_asc i 240 w (by omega)
        have b : LOf 240 = 12539 := by decide +kernel
        have := hiE_pcN i
        unfold hiE at this
        rw [if_pos (by omega)] at this
        by_cases q : i + 1 = 240
        · rw [q] at this; omega
        · have := LO_asc (i + 1) 240 (by omega) (by omega); omega
      · exact w
    rcases (show i = 240 ∨ i = 241 ∨ i = 242 ∨ i = 243 ∨ i = 244 ∨ i = 245 ∨ i = 246 ∨ i = 247 ∨ i = 248 ∨ i = 249 ∨ i = 250 ∨ i = 251 ∨ i = 252 by omega) with rfl | rfl | rfl | rfl | rfl | rfl | rfl | rfl | rfl | rfl | rfl | rfl | rfl
    · have a1 : ((LOn 240 : Nat) : Int) = 12539 := by decide +kernel
      have a2 : ((pcN 240 : Nat) : Int) = 19968 := by decide +kernel
      have a3 : CAf 240 = 0 := by decide +kernel
      have a4 : SCf 240 = 0 := by decide +kernel
      rw [a2] at h2; rw [e1, a1] at h1; rw [a3, a4]
      have kc : catF c = 0 := by unfold catF; repeat (first | rw [if_pos (by omega)] | rw [if_neg (by omega)])
      refine ⟨kc, ?_⟩
      unfold scrF scrG; rw [kc]; repeat (first | rw [if_pos (by omega)] | rw [if_neg (by omega)])
    · have a1 : ((LOn 241 : Nat) : Int) = 19968 := by decide +kernel
      have a2 : ((pcN 241 : Nat) : Int) = 40960 := by decide +kernel
      have a3 : CAf 241 = 5 := by decide +kernel
      have a4 : SCf 241 = 9 := by decide +kernel
      rw [a2] at h2; rw [e1, a1] at h1; rw [a3, a4]
      have kc : catF c = 5 := by unfold catF; repeat (first | rw [if_pos (by omega)] | rw [if_neg (by omega)])
      refine ⟨kc, ?_⟩
      unfold scrF scrG; rw [kc]; repeat (first | rw [if_pos (by omega)] | rw [if_neg (by omega)])
    · have a1 : ((LOn 242 : Nat) : Int) = 40960 := by decide +kernel
      have a2 : ((pcN 242 : Nat) : Int) = 44032 := by decide +kernel
      have a3 : CAf 242 = 0 := by decide +kernel
      have a4 : SCf 242 = 0 := by decide +kernel
      rw [a2] at h2; rw [e1, a1] at h1; rw [a3, a4]
      have kc : catF c = 0 := by unfold catF; repeat (first | rw [if_pos (by omega)] | rw [if_neg (by omega)])
      refine ⟨kc, ?_⟩
      unfold scrF scrG; rw [kc]; repeat (first | rw [if_pos (by omega)] | rw [if_neg (by omega)])
    · have a1 : ((LOn 243 : Nat) : Int) = 44032 := by decide +kernel
      have a2 : ((pcN 243 : Nat) : Int) = 55204 := by decide +kernel
      have a3 : CAf 243 = 5 := by decide +kernel
      have a4 : SCf 243 = 10 := by decide +kernel
      rw [a2] at h2; rw [e1, a1] at h1; rw [a3, a4]
      have kc : catF c = 5 := by unfold catF; repeat (first | rw [if_pos (by omega)] | rw [if_neg (by omega)])
      refine ⟨kc, ?_⟩
      unfold scrF scrG; rw [kc]; repeat (first | rw [if_pos (by omega)] | rw [if_neg (by omega)])
    · have a1 : ((LOn 244 : Nat) : Int) = 55204 := by decide +kernel
      have a2 : ((pcN 244 : Nat) : Int) = 57344 := by decide +kernel
      have a3 : CAf 244 = 0 := by decide +kernel
      have a4 : SCf 244 = 0 := by decide +kernel
      rw [a2] at h2; rw [e1, a1] at h1; rw [a3, a4]
      have kc : catF c = 0 := by unfold catF; repeat (first | rw [if_pos (by omega)] | rw [if_neg (by omega)])
      refine ⟨kc, ?_⟩
      unfold scrF scrG; rw [kc]; repeat (first | rw [if_pos (by omega)] | rw [if_neg (by omega)])
    · have a1 : ((LOn 245 : Nat) : Int) = 57344 := by decide +kernel
      have a2 : ((pcN 245 : Nat) : Int) = 63744 := by decide +kernel
      have a3 : CAf 245 = 3 := by decide +kernel
      have a4 : SCf 245 = 0 := by decide +kernel
      rw [a2] at h2; rw [e1, a1] at h1; rw [a3, a4]
      have kc : catF c = 3 := by unfold catF; repeat (first | rw [if_pos (by omega)] | rw [if_neg (by omega)])
      refine ⟨kc, ?_⟩
      unfold scrF scrG; rw [kc]; repeat (first | rw [if_pos (by omega)] | rw [if_neg (by omega)])
    · have a1 : ((LOn 246 : Nat) : Int) = 63744 := by decide +kernel
      have a2 : ((pcN 246 : Nat) : Int) = 65039 := by decide +kernel
      have a3 : CAf 246 = 0 := by decide +kernel
      have a4 : SCf 246 = 0 := by decide +kernel
      rw [a2] at h2; rw [e1, a1] at h1; rw [a3, a4]
      have kc : catF c = 0 := by unfold catF; repeat (first | rw [if_pos (by omega)] | rw [if_neg (by omega)])
      refine ⟨kc, ?_⟩
      unfold scrF scrG; rw [kc]; repeat (first | rw [if_pos (by omega)] | rw [if_neg (by omega)])
    · have a1 : ((LOn 247 : Nat) : Int) = 65039 := by decide +kernel
      have a2 : ((pcN 247 : Nat) : Int) = 65040 := by decide +kernel
      have a3 : CAf 247 = 7 := by decide +kernel
      have a4 : SCf 247 = 11 := by decide +kernel
      rw [a2] at h2; rw [e1, a1] at h1; rw [a3, a4]
      have kc : catF c = 7 := by unfold catF; repeat (first | rw [if_pos (by omega)] | rw [if_neg (by omega)])
      refine ⟨kc, ?_⟩
      unfold scrF scrG; rw [kc]; repeat (first | rw [if_pos (by omega)] | rw [if_neg (by omega)])
    · have a1 : ((LOn 248 : Nat) : Int) = 65040 := by decide +kernel
      have a2 : ((pcN 248 : Nat) : Int) = 65279 := by decide +kernel
      have a3 : CAf 248 = 0 := by decide +kernel
      have a4 : SCf 248 = 0 := by decide +kernel
      rw [a2] at h2; rw [e1, a1] at h1; rw [a3, a4]
      have kc : catF c = 0 := by unfold catF; repeat (first | rw [if_pos (by omega)] | rw [if_neg (by omega)])
      refine ⟨kc, ?_⟩
      unfold scrF scrG; rw [kc]; repeat (first | rw [if_pos (by omega)] | rw [if_neg (by omega)])
    · have a1 : ((LOn 249 : Nat) : Int) = 65279 := by decide +kernel
      have a2 : ((pcN 249 : Nat) : Int) = 65280 := by decide +kernel
      have a3 : CAf 249 = 2 := by decide +kernel
      have a4 : SCf 249 = 1 := by decide +kernel
      rw [a2] at h2; rw [e1, a1] at h1; rw [a3, a4]
      have kc : catF c = 2 := by unfold catF; repeat (first | rw [if_pos (by omega)] | rw [if_neg (by omega)])
      refine ⟨kc, ?_⟩
      unfold scrF scrG; rw [kc]; repeat (first | rw [if_pos (by omega)] | rw [if_neg (by omega)])
    · have a1 : ((LOn 250 : Nat) : Int) = 65280 := by decide +kernel
      have a2 : ((pcN 250 : Nat) : Int) = 127744 := by decide +kernel
      have a3 : CAf 250 = 0 := by decide +kernel
      have a4 : SCf 250 = 0 := by decide +kernel
      rw [a2] at h2; rw [e1, a1] at h1; rw [a3, a4]
      have kc : catF c = 0 := by unfold catF; repeat (first | rw [if_pos (by omega)] | rw [if_neg (by omega)])
      refine ⟨kc, ?_⟩
      unfold scrF scrG; rw [kc]; repeat (first | rw [if_pos (by omega)] | rw [if_neg (by omega)])
    · have a1 : ((LOn 251 : Nat) : Int) = 127744 := by decide +kernel
      have a2 : ((pcN 251 : Nat) : Int) = 128592 := by decide +kernel
      have a3 : CAf 251 = 21 := by decide +kernel
      have a4 : SCf 251 = 1 := by decide +kernel
      rw [a2] at h2; rw [e1, a1] at h1; rw [a3, a4]
      have kc : catF c = 21 := by unfold catF; repeat (first | rw [if_pos (by omega)] | rw [if_neg (by omega)])
      refine ⟨kc, ?_⟩
      unfold scrF scrG; rw [kc]; repeat (first | rw [if_pos (by omega)] | rw [if_neg (by omega)])
    · have a1 : ((LOn 252 : Nat) : Int) = 128592 := by decide +kernel
      have a2 : ((pcN 252 : Nat) : Int) = 1114112 := by decide +kernel
      have a3 : CAf 252 = 0 := by decide +kernel
      have a4 : SCf 252 = 0 := by decide +kernel
      rw [a2] at h2; rw [e1, a1] at h1; rw [a3, a4]
      have kc : catF c = 0 := by unfold catF; repeat (first | rw [if_pos (by omega)] | rw [if_neg (by omega)])
      refine ⟨kc, ?_⟩
      unfold scrF scrG; rw [kc]; repeat (first | rw [if_pos (by omega)] | rw [if_neg (by omega)])
