theorem wide_d {k c : Int} (h : 16 < k) : wideF k c ↔ plainF k c := by
  simp [wideF, show ¬ k = 0 by omega, show ¬ k = 8 by omega, show ¬ k = 1 by omega, show ¬ k = 10 by omega, show ¬ k = 2 by omega, show ¬ k = 11 by omega, show ¬ k = 12 by omega, show ¬ k = 5 by omega, show ¬ k = 6 by omega, show ¬ k = 7 by omega, show ¬ k = 9 by omega, show ¬ k = 13 by omega, show ¬ k = 14 by omega, show ¬ k = 15 by omega, show ¬ k = 16 by omega]
theorem name_0 {uc k c : Int} (h : uc = 0) : nameF uc k c ↔ plainF k c := by simp [nameF, h]
theorem name_1 {uc k c : Int} (h : ¬ uc = 0) : nameF uc k c ↔ wideF k c := by simp [nameF, h]
