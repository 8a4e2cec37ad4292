/-! CLOSE of the reference: what of one CASE with a member is put in -/
def kK (ut uc la : Int) (d : Nat) : List Int := kinL ut uc la ((d : Nat) : Int)
def cSrc (bw : Nat → Nat) (s : Nat) (K : Nat → List Int) (tp c : Nat) : Prop := bt bw s c = true ∨ ∃ d, d ≤ tp ∧ bt bw s d = true ∧ ((c : Nat) : Int) ∈ K d
def clI (bw b2 : Nat → Nat) (s : Nat) (K : Nat → List Int) (tp c : Nat) : Prop := (∀ j, b2 j < 18446744073709551616) ∧ (∀ s' c', c' < 1114112 → s' ≠ s → bt b2 s' c' = bt bw s' c') ∧ (∀ x, x < 1114112 → bt bw s x = true → bt b2 s x = true) ∧ (∀ x, x < 1114112 → bt b2 s x = true → cSrc bw s K tp x) ∧ ∀ d, d < c → bt bw s d = true → ∀ x : Nat, x < 1114112 → ((x : Nat) : Int) ∈ K d → bt b2 s x = true
theorem clI_0 {bw : Nat → Nat} {s tp : Nat} {K : Nat → List Int} (h : ∀ j, bw j < 18446744073709551616) : clI bw bw s K tp 0 := ⟨h, fun _ _ _ _ => rfl, fun _ _ h => h, fun _ _ h => Or.inl h, fun d hd => absurd hd (by omega)⟩
theorem clI_src {bw b2 : Nat → Nat} {s tp c : Nat} {K : Nat → List Int} (h : clI bw b2 s K tp c) (hc : c < 1114112) (hb : bt b2 s c = true) : cSrc bw s K tp c := h.2.2.2.1 c hc hb
theorem clI_end {bw b2 : Nat → Nat} {s tp c : Nat} {K : Nat → List Int} (h : clI bw b2 s K tp c) (hall : bt bw s c = true → ∀ x : Nat, x < 1114112 → ((x : Nat) : Int) ∈ K c → bt b2 s x = true) : clI bw b2 s K tp (c + 1) :=
  ⟨h.1, h.2.1, h.2.2.1, h.2.2.2.1, fun d hd hb x hx hm => (Nat.lt_or_ge d c).elim (fun q => h.2.2.2.2 d q hb x hx hm) (fun q => by
    have e : d = c := by omega
    rw [e] at hb hm
    exact hall hb x hx hm)⟩
theorem clI_skip {bw b2 : Nat → Nat} {s tp c : Nat} {K : Nat → List Int} (h : clI bw b2 s K tp c) (hc : c < 1114112) (hn : ¬ bt b2 s c = true) : clI bw b2 s K tp (c + 1) := clI_end h (fun q => absurd (h.2.2.1 c hc q) hn)
theorem clI_all {bw b2 : Nat → Nat} {s tp c : Nat} {K : Nat → List Int} (h : clI bw b2 s K tp c) (hp : ∀ j, j < (K c).length → bt b2 s ((K c).getD j 0).toNat = true) : clI bw b2 s K tp (c + 1) := clI_end h (fun _ x _ hm => by
  obtain ⟨j, hj, e⟩ := List.getElem_of_mem hm
  have := hp j hj
  rw [gd_eq hj, e] at this
  exact this)
theorem put_mono {b2 : Nat → Nat} {s s' x y : Nat} (hx : x < 1114112) (hy : y < 1114112) (h : bt b2 s' y = true) : bt (va_up b2 (s * 17408 + x / 64) (b2 (s * 17408 + x / 64) ||| 2 ^ (x % 64))) s' y = true := by
  rw [bt_put hx hy, h]; rfl
theorem put_self {b2 : Nat → Nat} {s x : Nat} (hx : x < 1114112) : bt (va_up b2 (s * 17408 + x / 64) (b2 (s * 17408 + x / 64) ||| 2 ^ (x % 64))) s x = true := by
  rw [bt_put hx hx]; simp
theorem clI_put {bw b2 : Nat → Nat} {s tp c x : Nat} {K : Nat → List Int} (h : clI bw b2 s K tp c) (hs : cSrc bw s K tp c) (hKK : ∀ d, d ≤ tp → ∀ y : Nat, ((y : Nat) : Int) ∈ K d → K y = K d) (hc : c ≤ tp) (hx : ((x : Nat) : Int) ∈ K c) (hxl : x < 1114112) : clI bw (va_up b2 (s * 17408 + x / 64) (b2 (s * 17408 + x / 64) ||| 2 ^ (x % 64))) s K tp c := by
  refine ⟨up_lt h.1 (or_lt (h.1 _) (pow64 _ (by omega))), fun s' c' hc' hne => ?_, fun y hy hb => put_mono hxl hy (h.2.2.1 y hy hb), fun y hy hb => ?_, fun d hd hb y hy hm => put_mono hxl hy (h.2.2.2.2 d hd hb y hy hm)⟩
  · rw [bt_put hxl hc', h.2.1 s' c' hc' hne]; simp [hne]
  · rw [bt_put hxl hy, Bool.or_eq_true] at hb
    rcases hb with hb | hb
    · exact h.2.2.2.1 y hy hb
    · have e : y = x := by simpa using hb
      rw [e]
      rcases hs with q | ⟨d, hd, hbd, hcd⟩
      · exact Or.inr ⟨c, hc, q, hx⟩
      · exact Or.inr ⟨d, hd, hbd, by rw [← hKK d hd c hcd]; exact hx⟩
noncomputable def clB (K : Nat → List Int) (tp : Nat) (P : Nat → Bool) (x : Nat) : Bool := @decide (P x = true ∨ ∃ d, d ≤ tp ∧ P d = true ∧ ((x : Nat) : Int) ∈ K d) (Classical.propDecidable _)
theorem clB_t {K : Nat → List Int} {tp : Nat} {P : Nat → Bool} {x : Nat} : clB K tp P x = true ↔ (P x = true ∨ ∃ d, d ≤ tp ∧ P d = true ∧ ((x : Nat) : Int) ∈ K d) := @decide_eq_true_iff _ (Classical.propDecidable _)
theorem clI_chg {bw b2 : Nat → Nat} {s tp lim : Nat} {K : Nat → List Int} (h : clI bw b2 s K tp (tp + 1)) (hl : lim ≤ 1114112) : chg bw b2 s lim (clB K tp (bt bw s)) := by
  refine ⟨h.1, h.2.1, fun x hx => ?_⟩
  rw [Bool.eq_iff_iff, clB_t]
  constructor
  · intro q; exact h.2.2.2.1 x (by omega) q
  · intro q
    rcases q with q | ⟨d, hd, hb, hm⟩
    · exact h.2.2.1 x (by omega) q
    · exact h.2.2.2.2 d (by omega) hb x (by omega) hm
theorem pre_s {b3 : Nat → Nat} {s i x : Nat} {L : List Int} (hp : ∀ j, j < i → bt b3 s (L.getD j 0).toNat = true) (hi : i < L.length) (hb : ∀ y ∈ L, 0 ≤ y ∧ y ≤ 1114111) (hx : L.getD i 0 = ((x : Nat) : Int)) (hxl : x < 1114112) : ∀ j, j < i + 1 → bt (va_up b3 (s * 17408 + x / 64) (b3 (s * 17408 + x / 64) ||| 2 ^ (x % 64))) s (L.getD j 0).toNat = true := by
  intro j hj
  by_cases q : j = i
  · rw [q, hx]; exact put_self hxl
  · have := hb _ (gd_in (L := L) (i := j) (by omega))
    exact put_mono hxl (by omega) (hp j (by omega))
