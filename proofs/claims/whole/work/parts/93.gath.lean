/-! what is gathered: pair 8 -/
section CW8
variable {g : zG} {q : Nat → Nat} {u la : Int} {NX : Nat → Int} {n : Nat → Nat} {es : Nat → Nat → Int} {H H1 : Heap} {locs : List Loc} {A : Nat → Prop} {m : Nat} {e : Nat → Int}
theorem cw_pr8 (hP : va_P g.1 classes (cw g q u la NX (va_up n 8 m) (va_up es 8 e)) H) : va_P g.1 classes (pr g (q 24) (q 25) m e) H := by
  have := cw_pr hP (k := 8) (by omega)
  rw [up_same, up_same] at this
  exact this
theorem cw_prD8 (hD : va_D A (cw g q u la NX (va_up n 8 m) (va_up es 8 e))) : va_D A (pr g (q 24) (q 25) m e) := by
  have := cw_prD hD (k := 8) (by omega)
  rw [up_same, up_same] at this
  exact this
theorem cw_prF8 {H0 : Heap} (hD : va_D A (cw g q u la NX (va_up n 8 m) (va_up es 8 e))) (hS : va_S A H0 H locs) (hA : ∀ x, H0.size ≤ x → A x) : ∀ x, va_A (pr g (q 24) (q 25) m e) H.size x → A x := by
  have := cw_prF hD hS hA (k := 8) (by omega)
  rw [up_same, up_same] at this
  exact this
theorem cw_put8 (hP : va_P g.1 classes (cw g q u la NX (va_up n 8 m) (va_up es 8 e)) H) (hD : va_D A (cw g q u la NX (va_up n 8 m) (va_up es 8 e))) {n1 : Nat} {e1 : Nat → Int} (hk1 : ∀ x : Nat, x < H.size → ¬ va_A (pr g (q 24) (q 25) m e) H.size x → H1[x]? = H[x]?) (hF : ∀ x, va_A (pr g (q 24) (q 25) m e) H.size x → A x) (hP1 : va_P g.1 classes (pr g (q 24) (q 25) n1 e1) H1) (hD1 : va_D (va_A (pr g (q 24) (q 25) m e) H.size) (pr g (q 24) (q 25) n1 e1)) :
    va_P g.1 classes (cw g q u la NX (va_up n 8 n1) (va_up es 8 e1)) H1 ∧ va_D A (cw g q u la NX (va_up n 8 n1) (va_up es 8 e1)) := by
  have := cw_put hP hD (k := 8) (n1 := n1) (e1 := e1) (by omega) (by rw [up_same, up_same]; exact hk1) (by rw [up_same, up_same]; exact hF) hP1 (by rw [up_same, up_same]; exact hD1)
  rw [bx_uu, bx_uu] at this
  exact this
theorem cw_tb (hP : va_P g.1 classes (cw g q u la NX n es) H) : va_P g.1 classes [(q 1, .inr (2, [.ref (q 2), .ref (q 3), .ref (q 4), .int (iI 253)])), (q 2, .inl (zI g, 512, .inl (ai LOf))), (q 3, .inl (zI g, 512, .inl (ai CAf))), (q 4, .inl (zI g, 512, .inl (ai SCf)))] H := hP.sub [1, 2, 3, 4] rfl
theorem cw_rn (hP : va_P g.1 classes (cw g q u la NX n es) H) : va_P g.1 classes [(q 5, .inr (3, [.int (iI la), .ref (q 6)])), (q 6, .inl (zI g, 1122, .inl (ai NX)))] H := hP.sub [5, 6] rfl
end CW8
def GI (la : Int) (es : Nat → Int) (n : Nat) (low high : Int) (e2 : Nat → Int) (n2 : Nat) : Prop := (low ≤ min high la ∧ Ins es n low (min high la) e2 n2) ∨ (min high la < low ∧ e2 = es ∧ n2 = n)
/-- the ranges of L, the last one first, are put in -/
def GG (la : Int) (es : Nat → Int) (n : Nat) : List (Int × Int) → (Nat → Int) → Nat → Prop
  | [], e, m => e = es ∧ m = n
  | r :: L, e, m => ∃ (e0 : Nat → Int) (m0 : Nat), GG la es n L e0 m0 ∧ GI la e0 m0 r.1 r.2 e m
def gok (Bs : List Int) (e : Nat → Int) (m : Nat) : Prop := asc e m ∧ (∀ i, i < m → 0 ≤ e i ∧ e i ≤ 1114112) ∧ ∀ i, i < m → e i ∈ Bs
theorem gok_len {Bs : List Int} {e : Nat → Int} {m : Nat} (h : gok Bs e m) : m ≤ Bs.length := asc_len h.1 Bs h.2.2
theorem gok_GI {Bs : List Int} {la : Int} {e e2 : Nat → Int} {m m2 : Nat} {low high : Int} (hla : 0 ≤ la ∧ la ≤ 1114111) (hlo : 0 ≤ low) (h : gok Bs e m) (hG : GI la e m low high e2 m2) (hB : low ≤ min high la → low ∈ Bs ∧ min high la + 1 ∈ Bs) : gok Bs e2 m2 := by
  rcases hG with ⟨h1, hI⟩ | ⟨-, rfl, rfl⟩
  · refine ⟨hI.1, fun i hi => ?_, Ins_B hI Bs h.2.2 (hB h1).1 (hB h1).2⟩
    rcases hI.2.2.2 i hi with q9 | q9 | ⟨j, hj, q9⟩
    · rw [q9]; omega
    · rw [q9]; omega
    · rw [q9]; exact h.2.1 j hj
  · exact h
def rlS (sc : Int) : Nat → List (Int × Int)
  | 0 => []
  | i + 1 => if SCf i = sc then (LOf i, hiE i - 1) :: rlS sc i else rlS sc i
def rlC (M : Nat) (en : Int) : Nat → List (Int × Int)
  | 0 => []
  | i + 1 => if M / 2 ^ CAn i % 2 = 1 then (LOf i, min (hiE i - 1) en) :: rlC M en i else rlC M en i
def rlL (L : List Int) : Nat → List (Int × Int)
  | 0 => []
  | i + 1 => (L.getD (2 * i) 0, L.getD (2 * i + 1) 0) :: rlL L i
theorem shr_bit : ∀ T, T < 25 → ((nI T &&& 31).toBitVec.smod 32).toNat = T := by decide +kernel
theorem cat_bit {M T : Nat} (hM : M < 33554432) (hT : T < 25) : ((iI ((M : Nat) : Int) >>> (iI ((T : Nat) : Int) &&& 31)) &&& iI 1 = 0) ↔ ¬ M / 2 ^ T % 2 = 1 := by
  rw [iI_nat, iI_nat, pk_shrN (by omega) _ T (shr_bit T hT)]
  have hlt : M / 2 ^ T < 2 ^ 32 := Nat.lt_of_le_of_lt (Nat.div_le_self _ _) (by omega)
  rw [show iI 1 = (1 : Int32) from rfl, pk_andN hlt 1 (by decide), ← nI_0, nI_eq (by omega) (by decide)]
  omega
