/-! each character's ring in the class is its CASE in the reference -/
def uqG (f : Int → Int) (c : Int) (q : Int × Int) : Int × Int := (if (q.1 = c ∨ f q.2 < q.1) ∧ catF (f q.2) = 6 then f q.2 else q.1, f q.2)
def upG (f : Int → Int) (c : Int) : Int := if catF c = 4 then (uqG f c (uqG f c (c, c))).1 else c
def loG (f : Int → Int) (c : Int) : Int := if catF c = 6 then (if ¬ (f c = 383 ∨ f c = 181 ∨ f c = 962) ∧ catF (f c) = 4 then f c else if ¬ (f (f c) = 383 ∨ f (f c) = 181 ∨ f (f c) = 962) ∧ catF (f (f c)) = 4 then f (f c) else c) else c
theorem upC_G (NX : Nat → Int) (c : Int) : upC NX c = upG (nxF NX) c := rfl
theorem loC_G (NX : Nat → Int) (c : Int) : loC NX c = loG (nxF NX) c := rfl
def KR (ut uc la : Int) (f : Int → Int) (c : Int) : Prop := (f c = nxR c (kinL ut uc la c) ∧ upG f c = upF ut uc la c ∧ loG f c = lwF ut uc la c) ∧ (c ∈ kinL ut uc la c ∧ f c ∈ kinL ut uc la c ∧ f (f c) ∈ kinL ut uc la c) ∧ ∀ x ∈ kinL ut uc la c, kinL ut uc la x = kinL ut uc la c ∧ (x = c ∨ x = f c ∨ x = f (f c))
def krB (ut uc la : Int) (f : Int → Int) (c : Int) : Bool := (decide (f c = nxR c (kinL ut uc la c)) && (decide (upG f c = upF ut uc la c) && decide (loG f c = lwF ut uc la c))) && ((decide (c ∈ kinL ut uc la c) && (decide (f c ∈ kinL ut uc la c) && decide (f (f c) ∈ kinL ut uc la c))) && (kinL ut uc la c).all (fun x => decide (kinL ut uc la x = kinL ut uc la c) && decide (x = c ∨ x = f c ∨ x = f (f c))))
theorem krB_ok {ut uc la : Int} {f : Int → Int} {c : Int} (h : krB ut uc la f c = true) : KR ut uc la f c := by
  unfold krB at h
  simp only [Bool.and_eq_true, decide_eq_true_eq] at h
  obtain ⟨⟨a1, a2, a3⟩, ⟨b1, b2, b3⟩, d⟩ := h
  refine ⟨⟨a1, a2, a3⟩, ⟨b1, b2, b3⟩, fun x hx => ?_⟩
  have := List.all_eq_true.mp d x hx
  simp only [Bool.and_eq_true, decide_eq_true_eq] at this
  exact this
def krC (ut uc la : Int) (f : Int → Int) (a n : Nat) : Bool := (List.range n).all (fun i => krB ut uc la f ((a + i : Nat) : Int))
theorem krC_ok {ut uc la : Int} {f : Int → Int} {a n : Nat} (h : krC ut uc la f a n = true) {c : Nat} (h1 : a ≤ c) (h2 : c < a + n) : KR ut uc la f ((c : Nat) : Int) := by
  have := krB_ok (List.all_eq_true.mp h (c - a) (List.mem_range.mpr (by omega)))
  rw [show a + (c - a) = c by omega] at this
  exact this
theorem kr_triv {ut uc la : Int} {f : Int → Int} {c : Int} (hf : f c = c) (hk : kinL ut uc la c = [c]) : KR ut uc la f c := by
  have hn : nxR c [c] = c := by
    unfold nxR nxL nxs
    simp
  have hu : upG f c = upF ut uc la c := by
    unfold upG upF
    split
    · rename_i h
      have h6 : ¬ catF c = 6 := by omega
      unfold uqG upR
      rw [hk]
      simp [hf, h6, ups]
    · rfl
  have hlw : loG f c = lwF ut uc la c := by
    unfold loG lwF
    split
    · rename_i h
      have h4 : ¬ catF c = 4 := by omega
      rw [hk]
      simp [hf, h4, lwR]
    · rfl
  refine ⟨⟨by rw [hf, hk, hn], hu, hlw⟩, ⟨by rw [hk]; simp, by rw [hf, hk]; simp, by rw [hf, hf, hk]; simp⟩, fun x hx => ?_⟩
  rw [hk] at hx
  have e : x = c := by simpa using hx
  rw [e]
  exact ⟨rfl, Or.inl rfl⟩
theorem pair0 {x : Int} (h : 1072 ≤ x) : pairF x = 0 := by
  unfold pairF
  rw [if_neg (by omega), if_neg (by omega), if_neg (by omega)]
theorem pair80 {x : Int} (h : 1040 ≤ x) : ¬ pairF x = 80 := by
  unfold pairF
  by_cases a : x ≤ 1071
  · rw [if_pos (by omega)]; omega
  · rw [if_neg (by omega), if_neg (by omega), if_neg (by omega)]; omega
theorem kin_hi {ut uc la c : Int} (h : 1120 ≤ c) (h1 : ¬ c = 8490) (h2 : ¬ c = 8491) (hl : c ≤ la) : kinL ut uc la c = [c] := by
  have ha : aF c = c := by
    unfold aF
    split
    · rfl
    · unfold firstF
      have ht : thirdF c = -1 := by
        unfold thirdF
        rw [if_neg (by omega), if_neg (by omega), if_neg (by omega), if_neg (by omega), if_neg (by omega)]
      have p1 := pair0 (x := c) (by omega)
      have p2 := pair0 (x := c - 32) (by omega)
      have p3 := pair80 (x := c - 80) (by omega)
      have p4 := pair0 (x := c - 1) (by omega)
      rw [ht, p1, if_neg (by omega), if_neg (by omega), if_neg (by omega), if_neg (by omega), if_neg (by omega), if_neg (by omega)]
  have hw : wm la [] c = [c] := by rw [wm_yes [] hl]; rfl
  have p1 := pair0 (x := c) (by omega)
  have t : t1 la c [c] = [c] := by
    unfold t1 t2 t3 t4 t5
    rw [if_neg (show ¬ c = 83 by omega), if_neg (show ¬ c = 75 by omega), if_neg (show ¬ c = 197 by omega), if_neg (show ¬ c = 924 by omega), if_neg (show ¬ c = 931 by omega)]
  unfold kinL
  rw [ha, hw, p1, if_neg (show ¬ c = 376 by omega), if_neg (show ¬ (c ≤ 8704 ∧ (0 : Int) < 0) by omega), t]
  repeat' split
  all_goals rfl
