/-! upper, lower, next: over the list of one CASE -/
theorem wm_bd {la c : Int} {L : List Int} (h : ∀ x ∈ L, 0 ≤ x ∧ x ≤ la) (hc : 0 ≤ c) : ∀ x ∈ wm la L c, 0 ≤ x ∧ x ≤ la := by
  intro x hx
  unfold wm at hx
  split at hx
  · rcases List.mem_append.mp hx with q | q
    · exact h x q
    · rw [List.mem_singleton.mp q]; omega
  · exact h x hx
theorem nil_bd {la : Int} : ∀ x ∈ ([] : List Int), 0 ≤ x ∧ x ≤ la := fun x hx => absurd hx List.not_mem_nil
theorem t5_bd {la a : Int} {L : List Int} (h : ∀ x ∈ L, 0 ≤ x ∧ x ≤ la) : ∀ x ∈ t5 la a L, 0 ≤ x ∧ x ≤ la := by
  unfold t5; split
  · exact wm_bd h (by decide)
  · exact h
theorem t4_bd {la a : Int} {L : List Int} (h : ∀ x ∈ L, 0 ≤ x ∧ x ≤ la) : ∀ x ∈ t4 la a L, 0 ≤ x ∧ x ≤ la := by
  unfold t4; apply t5_bd; split
  · exact wm_bd h (by decide)
  · exact h
theorem t3_bd {la a : Int} {L : List Int} (h : ∀ x ∈ L, 0 ≤ x ∧ x ≤ la) : ∀ x ∈ t3 la a L, 0 ≤ x ∧ x ≤ la := by
  unfold t3; apply t4_bd; split
  · exact wm_bd h (by decide)
  · exact h
theorem t2_bd {la a : Int} {L : List Int} (h : ∀ x ∈ L, 0 ≤ x ∧ x ≤ la) : ∀ x ∈ t2 la a L, 0 ≤ x ∧ x ≤ la := by
  unfold t2; apply t3_bd; split
  · exact wm_bd h (by decide)
  · exact h
theorem t1_bd {la a : Int} {L : List Int} (h : ∀ x ∈ L, 0 ≤ x ∧ x ≤ la) : ∀ x ∈ t1 la a L, 0 ≤ x ∧ x ≤ la := by
  unfold t1; apply t2_bd; split
  · exact wm_bd h (by decide)
  · exact h
theorem kinL_bd (ut uc la c : Int) (hc : 0 ≤ c ∧ c ≤ 1114111) : ∀ x ∈ kinL ut uc la c, 0 ≤ x ∧ x ≤ la := by
  have ha : 0 ≤ aF c := by
    unfold aF; split
    · omega
    · exact (firstF_bd c hc).1
  have hp := pairF_bd (aF c)
  unfold kinL
  split
  · exact wm_bd nil_bd hc.1
  · split
    · split
      · exact wm_bd (wm_bd nil_bd ha) (by decide)
      · split
        · exact wm_bd (wm_bd nil_bd ha) (by omega)
        · exact wm_bd nil_bd ha
    · apply t1_bd
      split
      · exact wm_bd (wm_bd nil_bd ha) (by decide)
      · split
        · exact wm_bd (wm_bd nil_bd ha) (by omega)
        · exact wm_bd nil_bd ha
theorem t1_len (la a : Int) (L : List Int) : (t1 la a L).length ≤ L.length + 1 := by
  unfold t1 t2 t3 t4 t5
  by_cases h0 : a = 83
  · subst h0; simp; exact wm_len _ _ _
  · by_cases h1 : a = 75
    · subst h1; simp; exact wm_len _ _ _
    · by_cases h2 : a = 197
      · subst h2; simp; exact wm_len _ _ _
      · by_cases h3 : a = 924
        · subst h3; simp; exact wm_len _ _ _
        · by_cases h4 : a = 931
          · subst h4; simp; exact wm_len _ _ _
          · simp [h0, h1, h2, h3, h4]
theorem kinL_len (ut uc la c : Int) : (kinL ut uc la c).length ≤ 3 := by
  have e0 : ([] : List Int).length = 0 := rfl
  have a1 := wm_len la [] c
  have a2 := wm_len la [] (aF c)
  have a3 := wm_len la (wm la [] (aF c)) 255
  have a4 := wm_len la (wm la [] (aF c)) (aF c + pairF (aF c))
  have b1 := t1_len la (aF c) (wm la (wm la [] (aF c)) 255)
  have b2 := t1_len la (aF c) (wm la (wm la [] (aF c)) (aF c + pairF (aF c)))
  have b3 := t1_len la (aF c) (wm la [] (aF c))
  unfold kinL
  repeat' split
  all_goals omega
theorem gd_eq {L : List Int} {i : Nat} (h : i < L.length) : L.getD i 0 = L[i] := by simp [h]
theorem gd_in {L : List Int} {i : Nat} (h : i < L.length) : L.getD i 0 ∈ L := by
  rw [gd_eq h]
  exact List.getElem_mem h
theorem fold_take {α : Type} (f : α → Int → α) (s : α) {L : List Int} {i : Nat} (h : i < L.length) : (L.take (i + 1)).foldl f s = f ((L.take i).foldl f s) (L.getD i 0) := by
  rw [List.take_add_one, List.foldl_append, gd_eq h, List.getElem?_eq_getElem h]
  rfl
def nxs (c : Int) (q : Int × Int) (x : Int) : Int × Int := (if c < x ∧ (q.1 < 0 ∨ x < q.1) then x else q.1, if x < q.2 then x else q.2)
def nxL (c : Int) (L : List Int) : Int × Int := L.foldl (nxs c) (-1, c)
def nxR (c : Int) (L : List Int) : Int := if (nxL c L).1 < 0 then (nxL c L).2 else (nxL c L).1
def ups (c b x : Int) : Int := if catF x = 6 ∧ (b = c ∨ x < b) then x else b
def upR (c : Int) (L : List Int) : Int := L.foldl (ups c) c
def lwR (c : Int) : List Int → Int
  | [] => c
  | x :: L => if catF x = 4 ∧ thirdF x < 0 then x else lwR c L
theorem drop_get {L : List Int} {i : Nat} (h : i < L.length) : L.drop i = L.getD i 0 :: L.drop (i + 1) := by
  rw [gd_eq h, List.drop_eq_getElem_cons h]
def upF (ut uc la c : Int) : Int := if catF c = 4 then upR c (kinL ut uc la c) else c
def lwF (ut uc la c : Int) : Int := if catF c = 6 then lwR c (kinL ut uc la c) else c
