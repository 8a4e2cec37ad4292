/-! BOTH SIDES: edges and members -/
theorem rep_congr {last : Nat} {es : Nat → Int} {n : Nat} {p q : Nat → Bool} (h : rep last es n p) (e : ∀ c, c ≤ last → p c = q c) : rep last es n q := ⟨h.1, h.2.1, h.2.2.1, fun c hc k hk => by rw [← e c hc]; exact h.2.2.2 c hc k hk⟩
theorem rep_nil {last : Nat} {es : Nat → Int} : rep last es 0 (fun _ => false) := ⟨fun i j _ hj => absurd hj (by omega), rfl, fun i hi => absurd hi (by omega), fun c _ k hk => by
  have : k = 0 := by have := hk.1; omega
  subst this
  simp⟩
noncomputable def dB (P : Prop) : Bool := @decide P (Classical.propDecidable _)
theorem dB_t {P : Prop} : dB P = true ↔ P := @decide_eq_true_iff _ (Classical.propDecidable _)
theorem dB_eq {P : Prop} {b : Bool} (h : b = true ↔ P) : dB P = b := by
  rw [Bool.eq_iff_iff, dB_t, h]
theorem IA_rep {last : Nat} {es es2 : Nat → Int} {n n2 : Nat} {p q : Nat → Bool} (h : rep last es n p) (h2 : rep last es2 n2 q) : ∀ {i : Nat} {e : Nat → Int} {m : Nat}, 2 * i ≤ n2 → IA es n es2 i e m → rep last e m (fun c => dB (p c = true ∨ ∃ j, j < i ∧ es2 (2 * j) ≤ ((c : Nat) : Int) ∧ ((c : Nat) : Int) < es2 (2 * j + 1))) := by
  intro i
  induction i with
  | zero =>
    intro e m _ hI
    obtain ⟨rfl, rfl⟩ := hI
    refine rep_congr h (fun c _ => (dB_eq ?_).symm)
    constructor
    · exact Or.inl
    · rintro (a | ⟨j, hj, -⟩)
      · exact a
      · exact absurd hj (by omega)
  | succ i ih =>
    intro e m hi hI
    obtain ⟨e0, m0, h0, hI⟩ := hI
    have hr := ih (by omega) h0
    have b1 := h2.2.2.1 (2 * i) (by omega)
    have b2 := h2.2.2.1 (2 * i + 1) (by omega)
    have b3 := h2.1 (2 * i) (2 * i + 1) (by omega) (by omega)
    have hx := Ins_rep hI hr b1.1 (by omega) (by omega)
    refine rep_congr hx (fun c _ => (dB_eq ?_).symm)
    rw [Bool.or_eq_true, dB_t, Bool.and_eq_true, decide_eq_true_iff, decide_eq_true_iff]
    constructor
    · rintro ((a | ⟨j, hj, a, b⟩) | ⟨a, b⟩)
      · exact Or.inl a
      · exact Or.inr ⟨j, by omega, a, b⟩
      · exact Or.inr ⟨i, by omega, a, by omega⟩
    · rintro (a | ⟨j, hj, a, b⟩)
      · exact Or.inl (Or.inl a)
      · by_cases w : j = i
        · subst w; exact Or.inr ⟨a, by omega⟩
        · exact Or.inl (Or.inr ⟨j, by omega, a, b⟩)
/-- a set put into another: both sides' member functions -/
theorem IA_join {last : Nat} {es es2 e : Nat → Int} {n n2 m : Nat} {p q : Nat → Bool} (h : rep last es n p) (h2 : rep last es2 n2 q) (hI : IA es n es2 (n2 / 2) e m) : rep last e m (fun c => p c || q c) := by
  refine rep_congr (IA_rep h h2 (by omega) hI) (fun c hc => dB_eq ?_)
  rw [Bool.or_eq_true, rep_in h2 hc]
  have := h2.2.1
  constructor
  · rintro (a | ⟨j, hj, a, b⟩)
    · exact Or.inl a
    · exact Or.inr ⟨j, by omega, a, b⟩
  · rintro (a | ⟨j, hj, a, b⟩)
    · exact Or.inl a
    · exact Or.inr ⟨j, by omega, a, b⟩
theorem GG_rep {last : Nat} {es : Nat → Int} {n : Nat} {p : Nat → Bool} (h : rep last es n p) : ∀ {L : List (Int × Int)} {e : Nat → Int} {m : Nat}, (∀ t ∈ L, 0 ≤ t.1) → GG ((last : Nat) : Int) es n L e m → rep last e m (fun c => dB (p c = true ∨ ∃ t ∈ L, t.1 ≤ ((c : Nat) : Int) ∧ ((c : Nat) : Int) ≤ t.2)) := by
  intro L
  induction L with
  | nil =>
    intro e m _ hG
    obtain ⟨rfl, rfl⟩ := hG
    refine rep_congr h (fun c _ => (dB_eq ?_).symm)
    simp
  | cons t L ih =>
    intro e m h0 hG
    obtain ⟨e0, m0, hG, hI⟩ := hG
    have hr := ih (fun x hx => h0 x (List.mem_cons_of_mem _ hx)) hG
    have z := h0 t (List.mem_cons_self)
    rcases hI with ⟨hle, hI⟩ | ⟨hlt, rfl, rfl⟩
    · have hx := Ins_rep hI hr z (by omega) hle
      refine rep_congr hx (fun c hc => (dB_eq ?_).symm)
      rw [Bool.or_eq_true, dB_t, Bool.and_eq_true, decide_eq_true_iff, decide_eq_true_iff]
      constructor
      · rintro ((a | ⟨x, hx, a⟩) | ⟨a, b⟩)
        · exact Or.inl a
        · exact Or.inr ⟨x, List.mem_cons_of_mem _ hx, a⟩
        · exact Or.inr ⟨t, List.mem_cons_self, a, by omega⟩
      · rintro (a | ⟨x, hx, a, b⟩)
        · exact Or.inl (Or.inl a)
        · rcases List.mem_cons.mp hx with w | w
          · subst w; exact Or.inr ⟨a, by omega⟩
          · exact Or.inl (Or.inr ⟨x, w, a, b⟩)
    · refine rep_congr hr (fun c hc => (dB_eq ?_).symm)
      rw [dB_t]
      constructor
      · rintro (a | ⟨x, hx, a⟩)
        · exact Or.inl a
        · exact Or.inr ⟨x, List.mem_cons_of_mem _ hx, a⟩
      · rintro (a | ⟨x, hx, a, b⟩)
        · exact Or.inl a
        · rcases List.mem_cons.mp hx with w | w
          · subst w; exact absurd a (by omega)
          · exact Or.inr ⟨x, w, a, b⟩
theorem Cmp_rep {last : Nat} {es e2 : Nat → Int} {n n2 : Nat} {p : Nat → Bool} (h : rep last es n p) (hC : Cmp ((last : Nat) : Int) es n e2 n2) : rep last e2 n2 (fun c => !p c) := by
  obtain ⟨e1, n1, h1, h2⟩ := hC
  exact rep_compl h h1 h2
/-- what a property or NAMED SET brings, turned round or not -/
theorem nt_rep {last : Nat} {eg e2 : Nat → Int} {mg n2 : Nat} {P : Int → Prop} {nt : Int} (h : rep last eg mg (fun c => dB (P ((c : Nat) : Int)))) (hG : (nt = 0 ∧ e2 = eg ∧ n2 = mg) ∨ (¬ nt = 0 ∧ Cmp ((last : Nat) : Int) eg mg e2 n2)) : rep last e2 n2 (fun c => pB P nt c) := by
  rcases hG with ⟨h0, rfl, rfl⟩ | ⟨h0, hC⟩
  · refine rep_congr h (fun c _ => dB_eq ?_)
    constructor
    · intro a; exact (@of_decide_eq_true _ (Classical.propDecidable _) a).mpr h0
    · intro a; exact pB_yt a h0
  · refine rep_congr (Cmp_rep h hC) (fun c _ => ?_)
    rw [Bool.eq_iff_iff, Bool.not_eq_true', ← Bool.not_eq_true, dB_t]
    constructor
    · intro a; exact pB_nt a h0
    · intro a b; exact h0 ((@of_decide_eq_true _ (Classical.propDecidable _) a).mp b)
theorem chg_rep {bw b2 : Nat → Nat} {s last : Nat} {p : Nat → Bool} {e : Nat → Int} {m : Nat} (h : chg bw b2 s (last + 1) p) (hr : rep last e m p) : rep last e m (bt b2 s) := rep_congr hr (fun c hc => (h.2.2 c (by omega)).symm)
/-- the sets after a change of set s -/
theorem sets_up {bw b2 : Nat → Nat} {s last m : Nat} {p : Nat → Bool} {n : Nat → Nat} {es : Nat → Nat → Int} {e : Nat → Int} (hl : last ≤ 1114111) (hall : ∀ k, k < 8 → rep last (es k) (n k) (bt bw k)) (h : chg bw b2 s (last + 1) p) (hr : rep last e m p) : ∀ k, k < 8 → rep last (va_up es s e k) (va_up n s m k) (bt b2 k) := by
  intro k hk
  by_cases q : k = s
  · subst q; rw [up_same, up_same]; exact chg_rep h hr
  · rw [up_ne _ _ q, up_ne _ _ q]
    exact rep_congr (hall k hk) (fun c hc => (h.2.1 k c (by omega) q).symm)
theorem rep_in0 {last : Nat} {es : Nat → Int} {n : Nat} {p : Nat → Bool} (h : rep last es n p) {c : Int} : inE es n c ↔ 0 ≤ c ∧ c ≤ ((last : Nat) : Int) ∧ p c.toNat = true := by
  constructor
  · rintro ⟨k, hk, ho⟩
    obtain ⟨a, b, d, -⟩ := rep_odd h hk ho
    exact ⟨a, b, d⟩
  · rintro ⟨a, b, d⟩
    obtain ⟨k, hk⟩ := Up_ex c h.1
    refine ⟨k, hk, ?_⟩
    have e : ((c.toNat : Nat) : Int) = c := by omega
    exact (h.2.2.2 c.toNat (by omega) k (by rw [e]; exact hk)).mp d
theorem FF_ex {es : Nat → Int} {n : Nat} (ha : asc es n) (c : Int) : ∃ m, FF es n c m := by
  obtain ⟨k, hk⟩ := Up_ex c ha
  by_cases o : k % 2 = 1
  · exact ⟨c, k, hk, Or.inl ⟨o, rfl⟩⟩
  · by_cases q : k < n
    · exact ⟨es k, k, hk, Or.inr (Or.inl ⟨by omega, q, rfl⟩)⟩
    · exact ⟨-1, k, hk, Or.inr (Or.inr ⟨by omega, by have := hk.1; omega, rfl⟩)⟩
theorem FF_lst {last : Nat} {es : Nat → Int} {n : Nat} {p : Nat → Bool} (h : rep last es n p) {c m : Int} (hF : FF es n c m) : Lst last p c m := by
  obtain ⟨k, hk, ⟨o, rfl⟩ | ⟨o, hn, rfl⟩ | ⟨o, hn, rfl⟩⟩ := hF
  · exact (rep_odd h hk o).2.2.2
  · exact (rep_even h hk o hn).2.2
  · subst hn; exact rep_end h hk
theorem hit_iff {last : Nat} {es es2 : Nat → Int} {n n2 : Nat} {p q : Nat → Bool} (h : rep last es n p) (h2 : rep last es2 n2 q) : (∃ i, 2 * i + 1 < n ∧ hit es es2 n2 i) ↔ ¬ ∀ c, c < last + 1 → (p c && q c) = false := by
  constructor
  · rintro ⟨i, hi, m, hF, hm0, hm1⟩ hall
    rcases FF_lst h2 hF with ⟨e, -⟩ | ⟨d, rfl, hd, hcd, hq, -⟩
    · omega
    · have hp : p d = true := (rep_in h hd).mpr ⟨i, hi, hcd, by omega⟩
      have := hall d (by omega)
      rw [hp, hq] at this
      cases this
  · intro hn
    have hex : ∃ c, c < last + 1 ∧ (p c && q c) = true := by
      refine Classical.byContradiction (fun hc => hn (fun c hcl => ?_))
      cases hb : (p c && q c) with
      | false => rfl
      | true => exact absurd ⟨c, hcl, hb⟩ hc
    obtain ⟨c, hcl, hb⟩ := hex
    rw [Bool.and_eq_true] at hb
    obtain ⟨i, hi, a, b⟩ := (rep_in h (show c ≤ last by omega)).mp hb.1
    obtain ⟨m, hF⟩ := FF_ex h2.1 (es (2 * i))
    refine ⟨i, hi, m, hF, ?_⟩
    rcases FF_lst h2 hF with ⟨-, hno⟩ | ⟨d, rfl, hd, hcd, -, hno⟩
    · have := hno c (by omega) a
      rw [hb.2] at this; cases this
    · refine ⟨by omega, ?_⟩
      rcases Nat.lt_or_ge c d with w | w
      · have := hno c a w
        rw [hb.2] at this; cases this
      · omega
theorem same_iff {last : Nat} {es es2 : Nat → Int} {n n2 : Nat} {p q : Nat → Bool} (h : rep last es n p) (h2 : rep last es2 n2 q) : (n = n2 ∧ ∀ i, i < n → es i = es2 i) ↔ ∀ c, c < last + 1 → (p c ^^ q c) = false := by
  constructor
  · rintro ⟨rfl, he⟩ c hc
    obtain ⟨k, hk⟩ := Up_ex (c : Int) h.1
    have hk2 : Up es2 n c k := ⟨hk.1, fun i hi => by rw [← he i (by have := hk.1; omega)]; exact hk.2.1 i hi, fun i h1 h3 => by rw [← he i h3]; exact hk.2.2 i h1 h3⟩
    have a := h.2.2.2 c (by omega) k hk
    have b := h2.2.2.2 c (by omega) k hk2
    have : p c = q c := by rw [Bool.eq_iff_iff, a, b]
    rw [this]; simp
  · intro hx
    exact rep_same h h2 (fun c hc => by
      have := hx c (by omega)
      cases hp : p c <;> cases hq : q c <;> simp_all)
