/-! PROPERTY and NAMED of the reference: what they put in -/
def PTn (j : Nat) : Nat := PTl.getD j 0
theorem PT_bd : ∀ p, p < 13 → 12544 ≤ PTn p ∧ PTn p < PTn (p + 1) ∧ PTn (p + 1) ≤ 1114112 := by decide +kernel
/-- set s has got what P says, below c -/
def pf (bw b2 : Nat → Nat) (s : Nat) (P : Nat → Bool) (c : Nat) : Prop := (∀ j, b2 j < 18446744073709551616) ∧ ∀ s' c', c' < 1114112 → bt b2 s' c' = (bt bw s' c' || (decide (s' = s) && (P c' && decide (c' < c))))
theorem pf_0 {bw : Nat → Nat} {s : Nat} {P : Nat → Bool} (h : ∀ j, bw j < 18446744073709551616) : pf bw bw s P 0 := by
  refine ⟨h, fun s' c' _ => ?_⟩
  have e : decide (c' < 0) = false := by simp
  rw [e, Bool.and_false, Bool.and_false, Bool.or_false]
theorem pf_put {bw b2 : Nat → Nat} {s c : Nat} {P : Nat → Bool} (h : pf bw b2 s P c) (hp : P c = true) (hc : c < 1114112) : pf bw (va_up b2 (s * 17408 + c / 64) (b2 (s * 17408 + c / 64) ||| 2 ^ (c % 64))) s P (c + 1) := by
  refine ⟨up_lt h.1 (or_lt (h.1 _) (pow64 _ (by omega))), fun s' c' hc' => ?_⟩
  rw [bt_put hc hc', h.2 s' c' hc', Bool.or_assoc]
  congr 1
  by_cases a : s' = s
  · by_cases b : c' = c
    · subst b; simp [a, hp]
    · have e : (c' < c + 1) ↔ (c' < c) := by omega
      simp [a, b, e]
  · simp [a]
theorem pf_to {bw b2 : Nat → Nat} {s c d : Nat} {P : Nat → Bool} (h : pf bw b2 s P c) (hcd : c ≤ d) (hp : ∀ x, c ≤ x → x < d → P x = false) : pf bw b2 s P d := by
  refine ⟨h.1, fun s' c' hc' => ?_⟩
  rw [h.2 s' c' hc']
  congr 2
  by_cases a : c' < c
  · have e : c' < d := by omega
    simp [a, e]
  · by_cases b : c' < d
    · rw [hp c' (by omega) b]; simp
    · simp [a, b]
theorem pf_skip {bw b2 : Nat → Nat} {s c : Nat} {P : Nat → Bool} (h : pf bw b2 s P c) (hp : P c = false) : pf bw b2 s P (c + 1) := pf_to h (by omega) (fun x h1 h2 => by rw [show x = c by omega]; exact hp)
theorem pf_fill {bw b2 b3 : Nat → Nat} {s c d : Nat} {P : Nat → Bool} (h : pf bw b2 s P c) (hp : ∀ x, c ≤ x → x < d → P x = true) (hf : fl b2 b3 s c d) (hcd : c ≤ d) : pf bw b3 s P d := by
  refine ⟨hf.1, fun s' c' hc' => ?_⟩
  rw [hf.2 s' c' hc', h.2 s' c' hc', Bool.or_assoc]
  congr 1
  by_cases a : s' = s
  · by_cases b : c' < c
    · have e : c' < d := by omega
      have e2 : ¬ c ≤ c' := by omega
      simp [a, b, e, e2]
    · have e2 : c ≤ c' := by omega
      by_cases f : c' < d
      · simp [a, b, f, e2, hp c' e2 f]
      · simp [a, b, f]
  · simp [a]
theorem pf_chg {bw b2 : Nat → Nat} {s lim : Nat} {P : Nat → Bool} (h : pf bw b2 s P lim) (hl : lim ≤ 1114112) : chg bw b2 s lim (fun c => bt bw s c || P c) := by
  refine ⟨h.1, fun s' c' hc hs => ?_, fun c' hc => ?_⟩
  · rw [h.2 s' c' hc]; simp [hs]
  · rw [h.2 s c' (by omega)]; simp [hc]
noncomputable def pB (P : Int → Prop) (nt : Int) (c : Nat) : Bool := @decide (P ((c : Nat) : Int) ↔ nt = 0) (Classical.propDecidable _)
theorem pB_yt {P : Int → Prop} {nt : Int} {c : Nat} (h : P ((c : Nat) : Int)) (hn : nt = 0) : pB P nt c = true := @decide_eq_true _ (Classical.propDecidable _) ⟨fun _ => hn, fun _ => h⟩
theorem pB_nt {P : Int → Prop} {nt : Int} {c : Nat} (h : ¬ P ((c : Nat) : Int)) (hn : ¬ nt = 0) : pB P nt c = true := @decide_eq_true _ (Classical.propDecidable _) ⟨fun q => absurd q h, fun q => absurd q hn⟩
theorem pB_yf {P : Int → Prop} {nt : Int} {c : Nat} (h : P ((c : Nat) : Int)) (hn : ¬ nt = 0) : pB P nt c = false := @decide_eq_false _ (Classical.propDecidable _) (fun q => hn (q.mp h))
theorem pB_nf {P : Int → Prop} {nt : Int} {c : Nat} (h : ¬ P ((c : Nat) : Int)) (hn : nt = 0) : pB P nt c = false := @decide_eq_false _ (Classical.propDecidable _) (fun q => h (q.mpr hn))
theorem pB_c {P : Int → Prop} {nt : Int} {c d : Nat} (h : P ((c : Nat) : Int) ↔ P ((d : Nat) : Int)) : pB P nt c = pB P nt d := by
  unfold pB
  congr 1
  rw [h]
def whP (k cl : Int) : Int := if ¬ cl = 0 ∧ (k = 4 ∨ k = 6) then 45 else k
def whN (k cl : Int) : Int := if ¬ cl = 0 ∧ (k = 6 ∨ k = 7) then 5 else k
theorem hold_c {k x y : Int} (hc : catF x = catF y) (hs : scrF x = scrF y) (hx : 12544 ≤ x) (hy : 12544 ≤ y) : holdF k x ↔ holdF k y := by
  have n1 : ¬ x = 95 := by omega
  have n2 : ¬ y = 95 := by omega
  have n3 : ¬ (9 ≤ x ∧ x ≤ 13) := by omega
  have n4 : ¬ (9 ≤ y ∧ y ≤ 13) := by omega
  have n5 : ¬ x = 133 := by omega
  have n6 : ¬ y = 133 := by omega
  unfold holdF
  rw [hc, hs]
  simp only [n1, n2, n3, n4, n5, n6]
theorem plain_no {k x : Int} (hx : 12544 ≤ x) : ¬ plainF k x := by
  have a : ¬ alpF x := by unfold alpF; omega
  have d : ¬ digF x := by unfold digF; omega
  have b : ¬ blkF x := by unfold blkF; omega
  have c1 : ¬ x = 95 := by omega
  have c2 : ¬ (9 ≤ x ∧ x ≤ 13) := by omega
  have c3 : ¬ x = 32 := by omega
  have c4 : ¬ (10 ≤ x ∧ x ≤ 13) := by omega
  have c5 : ¬ x = 133 := by omega
  have c6 : ¬ x = 8232 := by omega
  have c7 : ¬ x = 8233 := by omega
  have c8 : ¬ x = 9 := by omega
  have c9 : ¬ x < 32 := by omega
  have e1 : ¬ x = 127 := by omega
  have e2 : ¬ (33 ≤ x ∧ x ≤ 126) := by omega
  have e3 : ¬ (65 ≤ x ∧ x ≤ 70) := by omega
  have e4 : ¬ (97 ≤ x ∧ x ≤ 102) := by omega
  have e5 : ¬ x < 128 := by omega
  unfold plainF
  simp only [a, d, b, c1, c2, c3, c4, c5, c6, c7, c8, c9, e1, e2, e3, e4, e5, or_self, false_and, ite_self, not_false_eq_true]
theorem name_c {uc k x y : Int} (hc : catF x = catF y) (hs : scrF x = scrF y) (hx : 12544 ≤ x) (hy : 12544 ≤ y) : nameF uc k x ↔ nameF uc k y := by
  have p1 : ¬ plainF k x := plain_no hx
  have p2 : ¬ plainF k y := plain_no hy
  have n1 : ¬ x < 128 := by omega
  have n2 : ¬ y < 128 := by omega
  have b1 : ¬ blkF x := by unfold blkF; omega
  have b2 : ¬ blkF y := by unfold blkF; omega
  unfold nameF wideF grpF
  rw [hc, hold_c (k := 46) hc hs hx hy, hold_c (k := 47) hc hs hx hy, hold_c (k := 48) hc hs hx hy]
  simp only [p1, p2, n1, n2, b1, b2]
theorem part_0 {x : Int} (h1 : 12544 ≤ x) (h2 : x < 19968) : catF x = 0 ∧ scrF x = 0 := by
  have kc : catF x = 0 := by unfold catF; repeat (first | rw [if_pos (by omega)] | rw [if_neg (by omega)])
  refine ⟨kc, ?_⟩
  unfold scrF scrG; rw [kc]; repeat (first | rw [if_pos (by omega)] | rw [if_neg (by omega)])
theorem part_1 {x : Int} (h1 : 19968 ≤ x) (h2 : x < 40960) : catF x = 5 ∧ scrF x = 9 := by
  have kc : catF x = 5 := by unfold catF; repeat (first | rw [if_pos (by omega)] | rw [if_neg (by omega)])
  refine ⟨kc, ?_⟩
  unfold scrF scrG; rw [kc]; repeat (first | rw [if_pos (by omega)] | rw [if_neg (by omega)])
theorem part_2 {x : Int} (h1 : 40960 ≤ x) (h2 : x < 44032) : catF x = 0 ∧ scrF x = 0 := by
  have kc : catF x = 0 := by unfold catF; repeat (first | rw [if_pos (by omega)] | rw [if_neg (by omega)])
  refine ⟨kc, ?_⟩
  unfold scrF scrG; rw [kc]; repeat (first | rw [if_pos (by omega)] | rw [if_neg (by omega)])
theorem part_3 {x : Int} (h1 : 44032 ≤ x) (h2 : x < 55204) : catF x = 5 ∧ scrF x = 10 := by
  have kc : catF x = 5 := by unfold catF; repeat (first | rw [if_pos (by omega)] | rw [if_neg (by omega)])
  refine ⟨kc, ?_⟩
  unfold scrF scrG; rw [kc]; repeat (first | rw [if_pos (by omega)] | rw [if_neg (by omega)])
theorem part_4 {x : Int} (h1 : 55204 ≤ x) (h2 : x < 57344) : catF x = 0 ∧ scrF x = 0 := by
  have kc : catF x = 0 := by unfold catF; repeat (first | rw [if_pos (by omega)] | rw [if_neg (by omega)])
  refine ⟨kc, ?_⟩
  unfold scrF scrG; rw [kc]; repeat (first | rw [if_pos (by omega)] | rw [if_neg (by omega)])
theorem part_5 {x : Int} (h1 : 57344 ≤ x) (h2 : x < 63744) : catF x = 3 ∧ scrF x = 0 := by
  have kc : catF x = 3 := by unfold catF; repeat (first | rw [if_pos (by omega)] | rw [if_neg (by omega)])
  refine ⟨kc, ?_⟩
  unfold scrF scrG; rw [kc]; repeat (first | rw [if_pos (by omega)] | rw [if_neg (by omega)])
theorem part_6 {x : Int} (h1 : 63744 ≤ x) (h2 : x < 65039) : catF x = 0 ∧ scrF x = 0 := by
  have kc : catF x = 0 := by unfold catF; repeat (first | rw [if_pos (by omega)] | rw [if_neg (by omega)])
  refine ⟨kc, ?_⟩
  unfold scrF scrG; rw [kc]; repeat (first | rw [if_pos (by omega)] | rw [if_neg (by omega)])
theorem part_7 {x : Int} (h1 : 65039 ≤ x) (h2 : x < 65040) : catF x = 7 ∧ scrF x = 11 := by
  have kc : catF x = 7 := by unfold catF; repeat (first | rw [if_pos (by omega)] | rw [if_neg (by omega)])
  refine ⟨kc, ?_⟩
  unfold scrF scrG; rw [kc]; repeat (first | rw [if_pos (by omega)] | rw [if_neg (by omega)])
theorem part_8 {x : Int} (h1 : 65040 ≤ x) (h2 : x < 65279) : catF x = 0 ∧ scrF x = 0 := by
  have kc : catF x = 0 := by unfold catF; repeat (first | rw [if_pos (by omega)] | rw [if_neg (by omega)])
  refine ⟨kc, ?_⟩
  unfold scrF scrG; rw [kc]; repeat (first | rw [if_pos (by omega)] | rw [if_neg (by omega)])
theorem part_9 {x : Int} (h1 : 65279 ≤ x) (h2 : x < 65280) : catF x = 2 ∧ scrF x = 1 := by
  have kc : catF x = 2 := by unfold catF; repeat (first | rw [if_pos (by omega)] | rw [if_neg (by omega)])
  refine ⟨kc, ?_⟩
  unfold scrF scrG; rw [kc]; repeat (first | rw [if_pos (by omega)] | rw [if_neg (by omega)])
theorem part_10 {x : Int} (h1 : 65280 ≤ x) (h2 : x < 127744) : catF x = 0 ∧ scrF x = 0 := by
  have kc : catF x = 0 := by unfold catF; repeat (first | rw [if_pos (by omega)] | rw [if_neg (by omega)])
  refine ⟨kc, ?_⟩
  unfold scrF scrG; rw [kc]; repeat (first | rw [if_pos (by omega)] | rw [if_neg (by omega)])
theorem part_11 {x : Int} (h1 : 127744 ≤ x) (h2 : x < 128592) : catF x = 21 ∧ scrF x = 1 := by
  have kc : catF x = 21 := by unfold catF; repeat (first | rw [if_pos (by omega)] | rw [if_neg (by omega)])
  refine ⟨kc, ?_⟩
  unfold scrF scrG; rw [kc]; repeat (first | rw [if_pos (by omega)] | rw [if_neg (by omega)])
theorem part_12 {x : Int} (h1 : 128592 ≤ x) (h2 : x < 1114112) : catF x = 0 ∧ scrF x = 0 := by
  have kc : catF x = 0 := by unfold catF; repeat (first | rw [if_pos (by omega)] | rw [if_neg (by omega)])
  refine ⟨kc, ?_⟩
  unfold scrF scrG; rw [kc]; repeat (first | rw [if_pos (by omega)] | rw [if_neg (by omega)])
theorem part_eq {p : Nat} (hp : p < 13) {x : Nat} (h1 : PTn p ≤ x) (h2 : x < PTn (p + 1)) : (catF ((x : Nat) : Int) = catF ((PTn p : Nat) : Int) ∧ scrF ((x : Nat) : Int) = scrF ((PTn p : Nat) : Int)) := by
  rcases (show p = 0 ∨ p = 1 ∨ p = 2 ∨ p = 3 ∨ p = 4 ∨ p = 5 ∨ p = 6 ∨ p = 7 ∨ p = 8 ∨ p = 9 ∨ p = 10 ∨ p = 11 ∨ p = 12 by omega) with rfl | rfl | rfl | rfl | rfl | rfl | rfl | rfl | rfl | rfl | rfl | rfl | rfl
  · have g1 : 12544 ≤ x := h1
    have g2 : x < 19968 := h2
    have q1 := part_0 (x := ((x : Nat) : Int)) (by omega) (by omega)
    have q2 := part_0 (x := ((12544 : Nat) : Int)) (by decide) (by decide)
    exact ⟨q1.1.trans q2.1.symm, q1.2.trans q2.2.symm⟩
  · have g1 : 19968 ≤ x := h1
    have g2 : x < 40960 := h2
    have q1 := part_1 (x := ((x : Nat) : Int)) (by omega) (by omega)
    have q2 := part_1 (x := ((19968 : Nat) : Int)) (by decide) (by decide)
    exact ⟨q1.1.trans q2.1.symm, q1.2.trans q2.2.symm⟩
  · have g1 : 40960 ≤ x := h1
    have g2 : x < 44032 := h2
    have q1 := part_2 (x := ((x : Nat) : Int)) (by omega) (by omega)
    have q2 := part_2 (x := ((40960 : Nat) : Int)) (by decide) (by decide)
    exact ⟨q1.1.trans q2.1.symm, q1.2.trans q2.2.symm⟩
  · have g1 : 44032 ≤ x := h1
    have g2 : x < 55204 := h2
    have q1 := part_3 (x := ((x : Nat) : Int)) (by omega) (by omega)
    have q2 := part_3 (x := ((44032 : Nat) : Int)) (by decide) (by decide)
    exact ⟨q1.1.trans q2.1.symm, q1.2.trans q2.2.symm⟩
  · have g1 : 55204 ≤ x := h1
    have g2 : x < 57344 := h2
    have q1 := part_4 (x := ((x : Nat) : Int)) (by omega) (by omega)
    have q2 := part_4 (x := ((55204 : Nat) : Int)) (by decide) (by decide)
    exact ⟨q1.1.trans q2.1.symm, q1.2.trans q2.2.symm⟩
  · have g1 : 57344 ≤ x := h1
    have g2 : x < 63744 := h2
    have q1 := part_5 (x := ((x : Nat) : Int)) (by omega) (by omega)
    have q2 := part_5 (x := ((57344 : Nat) : Int)) (by decide) (by decide)
    exact ⟨q1.1.trans q2.1.symm, q1.2.trans q2.2.symm⟩
  · have g1 : 63744 ≤ x := h1
    have g2 : x < 65039 := h2
    have q1 := part_6 (x := ((x : Nat) : Int)) (by omega) (by omega)
    have q2 := part_6 (x := ((63744 : Nat) : Int)) (by decide) (by decide)
    exact ⟨q1.1.trans q2.1.symm, q1.2.trans q2.2.symm⟩
  · have g1 : 65039 ≤ x := h1
    have g2 : x < 65040 := h2
    have q1 := part_7 (x := ((x : Nat) : Int)) (by omega) (by omega)
    have q2 := part_7 (x := ((65039 : Nat) : Int)) (by decide) (by decide)
    exact ⟨q1.1.trans q2.1.symm, q1.2.trans q2.2.symm⟩
  · have g1 : 65040 ≤ x := h1
    have g2 : x < 65279 := h2
    have q1 := part_8 (x := ((x : Nat) : Int)) (by omega) (by omega)
    have q2 := part_8 (x := ((65040 : Nat) : Int)) (by decide) (by decide)
    exact ⟨q1.1.trans q2.1.symm, q1.2.trans q2.2.symm⟩
  · have g1 : 65279 ≤ x := h1
    have g2 : x < 65280 := h2
    have q1 := part_9 (x := ((x : Nat) : Int)) (by omega) (by omega)
    have q2 := part_9 (x := ((65279 : Nat) : Int)) (by decide) (by decide)
    exact ⟨q1.1.trans q2.1.symm, q1.2.trans q2.2.symm⟩
  · have g1 : 65280 ≤ x := h1
    have g2 : x < 127744 := h2
    have q1 := part_10 (x := ((x : Nat) : Int)) (by omega) (by omega)
    have q2 := part_10 (x := ((65280 : Nat) : Int)) (by decide) (by decide)
    exact ⟨q1.1.trans q2.1.symm, q1.2.trans q2.2.symm⟩
  · have g1 : 127744 ≤ x := h1
    have g2 : x < 128592 := h2
    have q1 := part_11 (x := ((x : Nat) : Int)) (by omega) (by omega)
    have q2 := part_11 (x := ((127744 : Nat) : Int)) (by decide) (by decide)
    exact ⟨q1.1.trans q2.1.symm, q1.2.trans q2.2.symm⟩
  · have g1 : 128592 ≤ x := h1
    have g2 : x < 1114112 := h2
    have q1 := part_12 (x := ((x : Nat) : Int)) (by omega) (by omega)
    have q2 := part_12 (x := ((128592 : Nat) : Int)) (by decide) (by decide)
    exact ⟨q1.1.trans q2.1.symm, q1.2.trans q2.2.symm⟩
theorem hold_part {p : Nat} {k nt : Int} (hp : p < 13) {x : Nat} (h1 : PTn p ≤ x) (h2 : x < PTn (p + 1)) : pB (holdF k) nt x = pB (holdF k) nt (PTn p) := by
  have q := part_eq hp h1 h2
  have b := PT_bd p hp
  exact pB_c (hold_c q.1 q.2 (by omega) (by omega))
theorem name_part {p : Nat} {uc k nt : Int} (hp : p < 13) {x : Nat} (h1 : PTn p ≤ x) (h2 : x < PTn (p + 1)) : pB (nameF uc k) nt x = pB (nameF uc k) nt (PTn p) := by
  have q := part_eq hp h1 h2
  have b := PT_bd p hp
  exact pB_c (name_c q.1 q.2 (by omega) (by omega))
