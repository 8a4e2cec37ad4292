/-! NAMED SETS as sets of characters -/
theorem nam_p0 {c : Int} (hc : 0 ≤ c) : inL (rlL (stE (lisF 0)) ((stE (lisF 0)).length / 2)) c ↔ plainF 0 c := by
  rw [show rlL (stE (lisF 0)) ((stE (lisF 0)).length / 2) = [(48, 57)] from rfl]
  show _ ↔ (48 ≤ c ∧ c ≤ 57)
  simp only [inL_cons, inL_nil, or_false] <;> omega
theorem nam_p1 {c : Int} (hc : 0 ≤ c) : inL (rlL (stE (lisF 1)) ((stE (lisF 1)).length / 2)) c ↔ plainF 1 c := by
  rw [show rlL (stE (lisF 1)) ((stE (lisF 1)).length / 2) = [(97, 122), (95, 95), (65, 90), (48, 57)] from rfl]
  show _ ↔ (((65 ≤ c ∧ c ≤ 90) ∨ (97 ≤ c ∧ c ≤ 122)) ∨ (48 ≤ c ∧ c ≤ 57) ∨ c = 95)
  simp only [inL_cons, inL_nil, or_false] <;> omega
theorem nam_p2 {c : Int} (hc : 0 ≤ c) : inL (rlL (stE (lisF 2)) ((stE (lisF 2)).length / 2)) c ↔ plainF 2 c := by
  rw [show rlL (stE (lisF 2)) ((stE (lisF 2)).length / 2) = [(32, 32), (9, 13)] from rfl]
  show _ ↔ ((9 ≤ c ∧ c ≤ 13) ∨ c = 32)
  simp only [inL_cons, inL_nil, or_false] <;> omega
theorem nam_p3 {c : Int} (hc : 0 ≤ c) : inL (rlL (stE (lisF 3)) ((stE (lisF 3)).length / 2)) c ↔ plainF 3 c := by
  rw [show rlL (stE (lisF 3)) ((stE (lisF 3)).length / 2) = [(12288, 12288), (8287, 8287), (8239, 8239), (8192, 8202), (6158, 6158), (5760, 5760), (160, 160), (32, 32), (9, 9)] from rfl]
  show _ ↔ (c = 9 ∨ c = 32 ∨ c = 160 ∨ c = 5760 ∨ c = 6158 ∨ (8192 ≤ c ∧ c ≤ 8202) ∨ c = 8239 ∨ c = 8287 ∨ c = 12288)
  simp only [inL_cons, inL_nil, or_false] <;> omega
theorem nam_p4 {c : Int} (hc : 0 ≤ c) : inL (rlL (stE (lisF 4)) ((stE (lisF 4)).length / 2)) c ↔ plainF 4 c := by
  rw [show rlL (stE (lisF 4)) ((stE (lisF 4)).length / 2) = [(8232, 8233), (133, 133), (10, 13)] from rfl]
  show _ ↔ ((10 ≤ c ∧ c ≤ 13) ∨ c = 133 ∨ c = 8232 ∨ c = 8233)
  simp only [inL_cons, inL_nil, or_false] <;> omega
theorem nam_p5 {c : Int} (hc : 0 ≤ c) : inL (rlL (stE (lisF 5)) ((stE (lisF 5)).length / 2)) c ↔ plainF 5 c := by
  rw [show rlL (stE (lisF 5)) ((stE (lisF 5)).length / 2) = [(97, 122), (65, 90)] from rfl]
  show _ ↔ ((65 ≤ c ∧ c ≤ 90) ∨ (97 ≤ c ∧ c ≤ 122))
  simp only [inL_cons, inL_nil, or_false] <;> omega
theorem nam_p6 {c : Int} (hc : 0 ≤ c) : inL (rlL (stE (lisF 6)) ((stE (lisF 6)).length / 2)) c ↔ plainF 6 c := by
  rw [show rlL (stE (lisF 6)) ((stE (lisF 6)).length / 2) = [(97, 122)] from rfl]
  show _ ↔ (((65 ≤ c ∧ c ≤ 90) ∨ (97 ≤ c ∧ c ≤ 122)) ∧ 96 < c)
  simp only [inL_cons, inL_nil, or_false] <;> omega
theorem nam_p7 {c : Int} (hc : 0 ≤ c) : inL (rlL (stE (lisF 7)) ((stE (lisF 7)).length / 2)) c ↔ plainF 7 c := by
  rw [show rlL (stE (lisF 7)) ((stE (lisF 7)).length / 2) = [(65, 90)] from rfl]
  show _ ↔ (((65 ≤ c ∧ c ≤ 90) ∨ (97 ≤ c ∧ c ≤ 122)) ∧ c < 96)
  simp only [inL_cons, inL_nil, or_false] <;> omega
theorem nam_p8 {c : Int} (hc : 0 ≤ c) : inL (rlL (stE (lisF 8)) ((stE (lisF 8)).length / 2)) c ↔ plainF 8 c := by
  rw [show rlL (stE (lisF 8)) ((stE (lisF 8)).length / 2) = [(48, 57)] from rfl]
  show _ ↔ (48 ≤ c ∧ c ≤ 57)
  simp only [inL_cons, inL_nil, or_false] <;> omega
theorem nam_p9 {c : Int} (hc : 0 ≤ c) : inL (rlL (stE (lisF 9)) ((stE (lisF 9)).length / 2)) c ↔ plainF 9 c := by
  rw [show rlL (stE (lisF 9)) ((stE (lisF 9)).length / 2) = [(97, 122), (65, 90), (48, 57)] from rfl]
  show _ ↔ (((65 ≤ c ∧ c ≤ 90) ∨ (97 ≤ c ∧ c ≤ 122)) ∨ (48 ≤ c ∧ c ≤ 57))
  simp only [inL_cons, inL_nil, or_false] <;> omega
theorem nam_p10 {c : Int} (hc : 0 ≤ c) : inL (rlL (stE (lisF 10)) ((stE (lisF 10)).length / 2)) c ↔ plainF 10 c := by
  rw [show rlL (stE (lisF 10)) ((stE (lisF 10)).length / 2) = [(97, 122), (95, 95), (65, 90), (48, 57)] from rfl]
  show _ ↔ (((65 ≤ c ∧ c ≤ 90) ∨ (97 ≤ c ∧ c ≤ 122)) ∨ (48 ≤ c ∧ c ≤ 57) ∨ c = 95)
  simp only [inL_cons, inL_nil, or_false] <;> omega
theorem nam_p11 {c : Int} (hc : 0 ≤ c) : inL (rlL (stE (lisF 11)) ((stE (lisF 11)).length / 2)) c ↔ plainF 11 c := by
  rw [show rlL (stE (lisF 11)) ((stE (lisF 11)).length / 2) = [(32, 32), (9, 13)] from rfl]
  show _ ↔ ((9 ≤ c ∧ c ≤ 13) ∨ c = 32)
  simp only [inL_cons, inL_nil, or_false] <;> omega
theorem nam_p12 {c : Int} (hc : 0 ≤ c) : inL (rlL (stE (lisF 12)) ((stE (lisF 12)).length / 2)) c ↔ plainF 12 c := by
  rw [show rlL (stE (lisF 12)) ((stE (lisF 12)).length / 2) = [(32, 32), (9, 9)] from rfl]
  show _ ↔ (c = 9 ∨ c = 32)
  simp only [inL_cons, inL_nil, or_false] <;> omega
theorem nam_p13 {c : Int} (hc : 0 ≤ c) : inL (rlL (stE (lisF 13)) ((stE (lisF 13)).length / 2)) c ↔ plainF 13 c := by
  rw [show rlL (stE (lisF 13)) ((stE (lisF 13)).length / 2) = [(127, 127), (0, 31)] from rfl]
  show _ ↔ (c < 32 ∨ c = 127)
  simp only [inL_cons, inL_nil, or_false] <;> omega
theorem nam_p14 {c : Int} (hc : 0 ≤ c) : inL (rlL (stE (lisF 14)) ((stE (lisF 14)).length / 2)) c ↔ plainF 14 c := by
  rw [show rlL (stE (lisF 14)) ((stE (lisF 14)).length / 2) = [(33, 126)] from rfl]
  show _ ↔ (33 ≤ c ∧ c ≤ 126)
  simp only [inL_cons, inL_nil, or_false] <;> omega
theorem nam_p15 {c : Int} (hc : 0 ≤ c) : inL (rlL (stE (lisF 15)) ((stE (lisF 15)).length / 2)) c ↔ plainF 15 c := by
  rw [show rlL (stE (lisF 15)) ((stE (lisF 15)).length / 2) = [(32, 126)] from rfl]
  show _ ↔ ((33 ≤ c ∧ c ≤ 126) ∨ c = 32)
  simp only [inL_cons, inL_nil, or_false] <;> omega
theorem nam_p16 {c : Int} (hc : 0 ≤ c) : inL (rlL (stE (lisF 16)) ((stE (lisF 16)).length / 2)) c ↔ plainF 16 c := by
  rw [show rlL (stE (lisF 16)) ((stE (lisF 16)).length / 2) = [(123, 126), (91, 96), (58, 64), (33, 47)] from rfl]
  show _ ↔ ((33 ≤ c ∧ c ≤ 126) ∧ ¬ ((65 ≤ c ∧ c ≤ 90) ∨ (97 ≤ c ∧ c ≤ 122)) ∧ ¬ (48 ≤ c ∧ c ≤ 57))
  simp only [inL_cons, inL_nil, or_false] <;> omega
theorem nam_p17 {c : Int} (hc : 0 ≤ c) : inL (rlL (stE (lisF 17)) ((stE (lisF 17)).length / 2)) c ↔ plainF 17 c := by
  rw [show rlL (stE (lisF 17)) ((stE (lisF 17)).length / 2) = [(97, 102), (65, 70), (48, 57)] from rfl]
  show _ ↔ ((48 ≤ c ∧ c ≤ 57) ∨ (65 ≤ c ∧ c ≤ 70) ∨ (97 ≤ c ∧ c ≤ 102))
  simp only [inL_cons, inL_nil, or_false] <;> omega
theorem nam_p18 {c : Int} (hc : 0 ≤ c) : inL (rlL (stE (lisF 18)) ((stE (lisF 18)).length / 2)) c ↔ plainF 18 c := by
  rw [show rlL (stE (lisF 18)) ((stE (lisF 18)).length / 2) = [(0, 127)] from rfl]
  show _ ↔ (c < 128)
  simp only [inL_cons, inL_nil, or_false] <;> omega
theorem nam_h {c : Int} : inL (rlL (stE 17) ((stE 17).length / 2)) c ↔ blkF c := by
  rw [show rlL (stE 17) ((stE 17).length / 2) = [(12288, 12288), (8287, 8287), (8239, 8239), (8192, 8202), (6158, 6158), (5760, 5760), (160, 160), (32, 32), (9, 9)] from rfl]
  show _ ↔ (c = 9 ∨ c = 32 ∨ c = 160 ∨ c = 5760 ∨ c = 6158 ∨ (8192 ≤ c ∧ c ≤ 8202) ∨ c = 8239 ∨ c = 8287 ∨ c = 12288)
  simp only [inL_cons, inL_nil, or_false] <;> omega
theorem m14D : ∀ t, t < 25 → (4194300 / 2 ^ t % 2 = 1 ↔ (¬ genD 6 ((t : Nat) : Int) ∧ t ≠ 1 ∧ t ≠ 0)) := by decide +kernel
theorem m14 : ∀ t, t < 25 → (4194300 / 2 ^ t % 2 = 1 ↔ (¬ genF 6 ((t : Nat) : Int) ∧ t ≠ 1 ∧ t ≠ 0)) := m14D
theorem m15D : ∀ t, t < 25 → (20971516 / 2 ^ t % 2 = 1 ↔ ((¬ genD 6 ((t : Nat) : Int) ∧ t ≠ 1 ∧ t ≠ 0) ∨ t = 24)) := by decide +kernel
theorem m15 : ∀ t, t < 25 → (20971516 / 2 ^ t % 2 = 1 ↔ ((¬ genF 6 ((t : Nat) : Int) ∧ t ≠ 1 ∧ t ≠ 0) ∨ t = 24)) := m15D
theorem m4D : ∀ t, t < 25 → (260096 / 2 ^ t % 2 = 1 ↔ genD 4 ((t : Nat) : Int)) := by decide +kernel
theorem m4 : ∀ t, t < 25 → (260096 / 2 ^ t % 2 = 1 ↔ genF 4 ((t : Nat) : Int)) := m4D
theorem m5D : ∀ t, t < 25 → (3932160 / 2 ^ t % 2 = 1 ↔ genD 5 ((t : Nat) : Int)) := by decide +kernel
theorem m5 : ∀ t, t < 25 → (3932160 / 2 ^ t % 2 = 1 ↔ genF 5 ((t : Nat) : Int)) := m5D
theorem nam_14 {la c : Int} (hc : 0 ≤ c ∧ c ≤ la) (hla : la ≤ 1114111) : inL (rlC 4194300 la 253) c ↔ grpF c := by
  have cb := catF_bd c hc.1
  obtain ⟨t, ht⟩ : ∃ t : Nat, catF c = ((t : Nat) : Int) := ⟨(catF c).toNat, by omega⟩
  rw [inL_C (by omega), ht, show (((t : Nat) : Int)).toNat = t from rfl, m14 t (by omega)]
  unfold grpF
  rw [ht]
  constructor
  · rintro ⟨⟨a, b, d⟩, -⟩; exact ⟨a, by omega, by omega⟩
  · rintro ⟨a, b, d⟩; exact ⟨⟨a, by omega, by omega⟩, hc.2⟩
theorem nam_15 {la c : Int} (hc : 0 ≤ c ∧ c ≤ la) (hla : la ≤ 1114111) : inL (rlC 20971516 la 253) c ↔ (grpF c ∨ catF c = 24) := by
  have cb := catF_bd c hc.1
  obtain ⟨t, ht⟩ : ∃ t : Nat, catF c = ((t : Nat) : Int) := ⟨(catF c).toNat, by omega⟩
  rw [inL_C (by omega), ht, show (((t : Nat) : Int)).toNat = t from rfl, m15 t (by omega)]
  unfold grpF
  rw [ht]
  constructor
  · rintro ⟨⟨a, b, d⟩ | a, -⟩
    · exact Or.inl ⟨a, by omega, by omega⟩
    · exact Or.inr (by omega)
  · rintro (⟨a, b, d⟩ | a)
    · exact ⟨Or.inl ⟨a, by omega, by omega⟩, hc.2⟩
    · exact ⟨Or.inr (by omega), hc.2⟩
theorem nam_16 {la c : Int} (hc : 0 ≤ c ∧ c ≤ la) (hla : la ≤ 1114111) : inL (rlC 3932160 127 253 ++ rlC 260096 la 253) c ↔ (genF 4 (catF c) ∨ (genF 5 (catF c) ∧ c < 128)) := by
  have cb := catF_bd c hc.1
  obtain ⟨t, ht⟩ : ∃ t : Nat, catF c = ((t : Nat) : Int) := ⟨(catF c).toNat, by omega⟩
  rw [inL_app, inL_C (by omega), inL_C (by omega), ht, show (((t : Nat) : Int)).toNat = t from rfl, m4 t (by omega), m5 t (by omega)]
  constructor
  · rintro (⟨a, b⟩ | ⟨a, b⟩)
    · exact Or.inr ⟨a, by omega⟩
    · exact Or.inl a
  · rintro (a | ⟨a, b⟩)
    · exact Or.inr ⟨a, hc.2⟩
    · exact Or.inl ⟨a, by omega⟩
theorem inL_N {u la c : Int} {k : Nat} (hk : k ≤ 18) (hc : 0 ≤ c ∧ c ≤ la) (hla : la ≤ 1114111) : inL (rlN u la k) c ↔ nameF u ((k : Nat) : Int) c := by
  unfold nameF rlN
  by_cases hu : u = 0
  · rw [if_pos hu, if_pos hu]
    rcases (show k = 0 ∨ k = 1 ∨ k = 2 ∨ k = 3 ∨ k = 4 ∨ k = 5 ∨ k = 6 ∨ k = 7 ∨ k = 8 ∨ k = 9 ∨ k = 10 ∨ k = 11 ∨ k = 12 ∨ k = 13 ∨ k = 14 ∨ k = 15 ∨ k = 16 ∨ k = 17 ∨ k = 18 by omega) with rfl | rfl | rfl | rfl | rfl | rfl | rfl | rfl | rfl | rfl | rfl | rfl | rfl | rfl | rfl | rfl | rfl | rfl | rfl
    · exact (nam_p0 hc.1).trans (by simp)
    · exact (nam_p1 hc.1).trans (by simp)
    · exact (nam_p2 hc.1).trans (by simp)
    · exact (nam_p3 hc.1).trans (by simp)
    · exact (nam_p4 hc.1).trans (by simp)
    · exact (nam_p5 hc.1).trans (by simp)
    · exact (nam_p6 hc.1).trans (by simp)
    · exact (nam_p7 hc.1).trans (by simp)
    · exact (nam_p8 hc.1).trans (by simp)
    · exact (nam_p9 hc.1).trans (by simp)
    · exact (nam_p10 hc.1).trans (by simp)
    · exact (nam_p11 hc.1).trans (by simp)
    · exact (nam_p12 hc.1).trans (by simp)
    · exact (nam_p13 hc.1).trans (by simp)
    · exact (nam_p14 hc.1).trans (by simp)
    · exact (nam_p15 hc.1).trans (by simp)
    · exact (nam_p16 hc.1).trans (by simp)
    · exact (nam_p17 hc.1).trans (by simp)
    · exact (nam_p18 hc.1).trans (by simp)
  · rw [if_neg hu, if_neg hu]
    rcases (show k = 0 ∨ k = 1 ∨ k = 2 ∨ k = 3 ∨ k = 4 ∨ k = 5 ∨ k = 6 ∨ k = 7 ∨ k = 8 ∨ k = 9 ∨ k = 10 ∨ k = 11 ∨ k = 12 ∨ k = 13 ∨ k = 14 ∨ k = 15 ∨ k = 16 ∨ k = 17 ∨ k = 18 by omega) with rfl | rfl | rfl | rfl | rfl | rfl | rfl | rfl | rfl | rfl | rfl | rfl | rfl | rfl | rfl | rfl | rfl | rfl | rfl
    · rw [if_pos (show ¬ proF 0 = -1 by decide), show (proF 0).toNat = 8 from rfl]; exact (inL_P (k := 8) (by omega) hc hla).trans (by simp [wideF, holdF])
    · rw [if_pos (show ¬ proF 1 = -1 by decide), show (proF 1).toNat = 47 from rfl]; exact (inL_P (k := 47) (by omega) hc hla).trans (by simp [wideF, holdF])
    · rw [if_pos (show ¬ proF 2 = -1 by decide), show (proF 2).toNat = 48 from rfl]; exact (inL_P (k := 48) (by omega) hc hla).trans (by simp [wideF, holdF])
    · rw [if_neg (show ¬ ¬ proF 3 = -1 by decide), if_neg (show ¬ 3 = 12 by decide), if_neg (show ¬ 3 = 14 by decide), if_neg (show ¬ 3 = 15 by decide), if_neg (show ¬ 3 = 16 by decide)]; exact (nam_p3 hc.1).trans (by simp [wideF])
    · rw [if_neg (show ¬ ¬ proF 4 = -1 by decide), if_neg (show ¬ 4 = 12 by decide), if_neg (show ¬ 4 = 14 by decide), if_neg (show ¬ 4 = 15 by decide), if_neg (show ¬ 4 = 16 by decide)]; exact (nam_p4 hc.1).trans (by simp [wideF])
    · rw [if_pos (show ¬ proF 5 = -1 by decide), show (proF 5).toNat = 26 from rfl]; exact (inL_P (k := 26) (by omega) hc hla).trans (by simp [wideF, holdF])
    · rw [if_pos (show ¬ proF 6 = -1 by decide), show (proF 6).toNat = 4 from rfl]; exact (inL_P (k := 4) (by omega) hc hla).trans (by simp [wideF, holdF])
    · rw [if_pos (show ¬ proF 7 = -1 by decide), show (proF 7).toNat = 6 from rfl]; exact (inL_P (k := 6) (by omega) hc hla).trans (by simp [wideF, holdF])
    · rw [if_pos (show ¬ proF 8 = -1 by decide), show (proF 8).toNat = 8 from rfl]; exact (inL_P (k := 8) (by omega) hc hla).trans (by simp [wideF, holdF])
    · rw [if_pos (show ¬ proF 9 = -1 by decide), show (proF 9).toNat = 46 from rfl]; exact (inL_P (k := 46) (by omega) hc hla).trans (by simp [wideF, holdF])
    · rw [if_pos (show ¬ proF 10 = -1 by decide), show (proF 10).toNat = 47 from rfl]; exact (inL_P (k := 47) (by omega) hc hla).trans (by simp [wideF, holdF])
    · rw [if_pos (show ¬ proF 11 = -1 by decide), show (proF 11).toNat = 48 from rfl]; exact (inL_P (k := 48) (by omega) hc hla).trans (by simp [wideF, holdF])
    · rw [if_neg (show ¬ ¬ proF 12 = -1 by decide), if_pos rfl]; exact (nam_h).trans (by simp [wideF])
    · rw [if_pos (show ¬ proF 13 = -1 by decide), show (proF 13).toNat = 1 from rfl]; exact (inL_P (k := 1) (by omega) hc hla).trans (by simp [wideF, holdF])
    · rw [if_neg (show ¬ ¬ proF 14 = -1 by decide), if_neg (show ¬ 14 = 12 by decide), if_pos rfl]; exact (nam_14 hc hla).trans (by simp [wideF])
    · rw [if_neg (show ¬ ¬ proF 15 = -1 by decide), if_neg (show ¬ 15 = 12 by decide), if_neg (show ¬ 15 = 14 by decide), if_pos rfl]; exact (nam_15 hc hla).trans (by simp [wideF])
    · rw [if_neg (show ¬ ¬ proF 16 = -1 by decide), if_neg (show ¬ 16 = 12 by decide), if_neg (show ¬ 16 = 14 by decide), if_neg (show ¬ 16 = 15 by decide), if_pos rfl]; exact (nam_16 hc hla).trans (by simp [wideF])
    · rw [if_neg (show ¬ ¬ proF 17 = -1 by decide), if_neg (show ¬ 17 = 12 by decide), if_neg (show ¬ 17 = 14 by decide), if_neg (show ¬ 17 = 15 by decide), if_neg (show ¬ 17 = 16 by decide)]; exact (nam_p17 hc.1).trans (by simp [wideF])
    · rw [if_neg (show ¬ ¬ proF 18 = -1 by decide), if_neg (show ¬ 18 = 12 by decide), if_neg (show ¬ 18 = 14 by decide), if_neg (show ¬ 18 = 15 by decide), if_neg (show ¬ 18 = 16 by decide)]; exact (nam_p18 hc.1).trans (by simp [wideF])
