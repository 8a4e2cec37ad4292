/-! ONE CALL on both sides: what holds between the class and the reference -/
def INV (last k : Nat) (n : Nat → Nat) (es : Nat → Nat → Int) (bw : Nat → Nat) : Prop := (∀ j, bw j < 18446744073709551616) ∧ (∀ s, s < 8 → rep last (es s) (n s) (bt bw s)) ∧ ∃ E : List Int, E.length ≤ 2 * k ∧ ∀ s, s < 9 → gok (B0 ++ E) (es s) (n s)
def MODE (last nw : Nat) (u ut uc la wo : Int) (NX : Nat → Int) : Prop := (la = ((last : Nat) : Int) ∧ wo = ((nw : Nat) : Int) ∧ 64 * nw = last + 1 ∧ nw ≤ 17408 ∧ u = uc) ∧ ((ut = 0 ∧ uc = 0 ∧ last = 255 ∧ NX = NXa 255) ∨ (ut = 0 ∧ uc = 1 ∧ last = 255 ∧ NX = NXb 255) ∨ (ut = 1 ∧ uc = 0 ∧ last = 1114111 ∧ NX = NXb 1114111) ∨ (ut = 1 ∧ uc = 1 ∧ last = 1114111 ∧ NX = NXb 1114111))
theorem gok_mono {Bs Bs' : List Int} {e : Nat → Int} {m : Nat} (h : gok Bs e m) (hs : ∀ x ∈ Bs, x ∈ Bs') : gok Bs' e m := ⟨h.1, h.2.1, fun i hi => hs _ (h.2.2 i hi)⟩
theorem app_mono {E E' : List Int} (h : ∀ x ∈ E, x ∈ E') : ∀ x ∈ B0 ++ E, x ∈ B0 ++ E' := fun x hx => by
  rcases List.mem_append.mp hx with w | w
  · exact List.mem_append_left _ w
  · exact List.mem_append_right _ (h x w)
theorem gok_rep {last m : Nat} {e : Nat → Int} {p : Nat → Bool} {Bs : List Int} (hl : last ≤ 1114111) (h : rep last e m p) (hB : ∀ i, i < m → e i ∈ Bs) : gok Bs e m := ⟨h.1, fun i hi => ⟨(h.2.2.1 i hi).1, by have := (h.2.2.1 i hi).2; omega⟩, hB⟩
theorem INV_up {last k s m : Nat} {n : Nat → Nat} {es : Nat → Nat → Int} {bw b2 : Nat → Nat} {E E' : List Int} {p : Nat → Bool} {e : Nat → Int} (hl : last ≤ 1114111) (hrep : ∀ s, s < 8 → rep last (es s) (n s) (bt bw s)) (hgk : ∀ s, s < 9 → gok (B0 ++ E) (es s) (n s)) (hsub : ∀ x ∈ E, x ∈ E') (hE : E'.length ≤ 2 * k) (hc : chg bw b2 s (last + 1) p) (hr : rep last e m p) (hg : gok (B0 ++ E') e m) : INV last k (va_up n s m) (va_up es s e) b2 := by
  refine ⟨hc.1, sets_up hl hrep hc hr, E', hE, fun j hj => ?_⟩
  by_cases q : j = s
  · subst q; rw [up_same, up_same]; exact hg
  · rw [up_ne _ _ q, up_ne _ _ q]; exact gok_mono (hgk j hj) (app_mono hsub)
theorem INV_S {last k : Nat} {n : Nat → Nat} {es : Nat → Nat → Int} {bw : Nat → Nat} (h : INV last k n es bw) : INV last (k + 1) n es bw := by
  obtain ⟨h1, h2, E, hE, h3⟩ := h
  exact ⟨h1, h2, E, by omega, h3⟩
theorem rep8 {last n2 : Nat} {n : Nat → Nat} {es : Nat → Nat → Int} {bw : Nat → Nat} {e2 : Nat → Int} (h : ∀ s, s < 8 → rep last (es s) (n s) (bt bw s)) : ∀ s, s < 8 → rep last (va_up es 8 e2 s) (va_up n 8 n2 s) (bt bw s) := fun s hs => by
  rw [up_ne _ _ (by omega), up_ne _ _ (by omega)]; exact h s hs
theorem gok8 {Bs : List Int} {n2 : Nat} {n : Nat → Nat} {es : Nat → Nat → Int} {e2 : Nat → Int} (h : ∀ s, s < 9 → gok Bs (es s) (n s)) (h2 : gok Bs e2 n2) : ∀ s, s < 9 → gok Bs (va_up es 8 e2 s) (va_up n 8 n2 s) := fun s hs => by
  by_cases q : s = 8
  · subst q; rw [up_same, up_same]; exact h2
  · rw [up_ne _ _ q, up_ne _ _ q]; exact h s hs
theorem rc_eq {last n : Nat} {es : Nat → Int} {p : Nat → Bool} (h : rep last es n p) : iI ((n / 2 : Nat) : Int) = iI ((cnt (rst p) (last + 1) : Nat) : Int) := by rw [rep_rc h]
theorem rep_range {last n n2 : Nat} {es e2 : Nat → Int} {p : Nat → Bool} {low high : Int} (h : rep last es n p) (hI : Ins es n low high e2 n2) (h0 : 0 ≤ low) (h1 : low ≤ high) (h2 : high ≤ ((last : Nat) : Int)) : rep last e2 n2 (fun c => p c || (decide (low.toNat ≤ c) && decide (c ≤ high.toNat))) := by
  refine rep_congr (Ins_rep hI h h0 h2 h1) (fun c hc => ?_)
  have a : (low ≤ ((c : Nat) : Int)) ↔ (low.toNat ≤ c) := by omega
  have b : (((c : Nat) : Int) ≤ high) ↔ (c ≤ high.toNat) := by omega
  rw [decide_eq_decide.mpr a, decide_eq_decide.mpr b]
theorem rlP_pos {la : Int} {k : Nat} : ∀ t ∈ rlP la k, 0 ≤ t.1 := by
  have hS : ∀ {sc : Int}, ∀ t ∈ rlS sc 253, 0 ≤ t.1 := fun t ht => by
    obtain ⟨i, hi, -, rfl⟩ := mem_rlS.mp ht; exact (PL_in i hi).1.1
  have hC : ∀ {M : Nat} {en : Int}, ∀ t ∈ rlC M en 253, 0 ≤ t.1 := fun t ht => by
    obtain ⟨i, hi, -, rfl⟩ := mem_rlC.mp ht; exact (PL_in i hi).1.1
  intro t ht
  unfold rlP at ht
  split at ht
  · exact hS t ht
  · split at ht
    · rcases List.mem_cons.mp ht with rfl | ht
      · decide
      · rcases List.mem_cons.mp ht with rfl | ht
        · decide
        · exact hC t ht
    · split at ht
      · rcases List.mem_cons.mp ht with rfl | ht
        · decide
        · exact hC t ht
      · exact hC t ht
theorem rlL_pos {L : List Int} (h : ∀ j, j < L.length → 0 ≤ L.getD j 0) : ∀ {n : Nat}, 2 * n ≤ L.length → ∀ t ∈ rlL L n, 0 ≤ t.1 := by
  intro n
  induction n with
  | zero => intro _ t ht; exact absurd ht (by unfold rlL; exact List.not_mem_nil)
  | succ n ih =>
    intro hn t ht
    unfold rlL at ht
    rcases List.mem_cons.mp ht with rfl | ht
    · exact h _ (by omega)
    · exact ih (by omega) t ht
theorem rlN_pos {u la : Int} {k : Nat} (hk : k ≤ 18) : ∀ t ∈ rlN u la k, 0 ≤ t.1 := by
  have hC : ∀ {M : Nat} {en : Int}, ∀ t ∈ rlC M en 253, 0 ≤ t.1 := fun t ht => by
    obtain ⟨i, hi, -, rfl⟩ := mem_rlC.mp ht; exact (PL_in i hi).1.1
  have hL := rlL_pos (L := stE (lisF k)) (fun j hj => ((lis_ok k (by omega)).2.2 j hj).1) (n := (stE (lisF k)).length / 2) (by omega)
  have hH := rlL_pos (L := stE 17) (fun j hj => (hor_ok.2 j hj).1) (n := (stE 17).length / 2) (by omega)
  intro t ht
  unfold rlN at ht
  split at ht
  · exact hL t ht
  · split at ht
    · exact rlP_pos t ht
    · split at ht
      · exact hH t ht
      · split at ht
        · exact hC t ht
        · split at ht
          · exact hC t ht
          · split at ht
            · rcases List.mem_append.mp ht with w | w
              · exact hC t w
              · exact hC t w
            · exact hL t ht
theorem GG_set {last mg : Nat} {e0 eg : Nat → Int} {L : List (Int × Int)} {P : Int → Prop} (hp : ∀ t ∈ L, 0 ≤ t.1) (hG : GG ((last : Nat) : Int) e0 0 L eg mg) (hL : ∀ c : Nat, c ≤ last → (inL L ((c : Nat) : Int) ↔ P ((c : Nat) : Int))) : rep last eg mg (fun c => dB (P ((c : Nat) : Int))) := by
  refine rep_congr (GG_rep rep_nil hp hG) (fun c hc => dB_eq ?_)
  rw [dB_t, ← hL c hc]
  constructor
  · intro h; exact Or.inr h
  · rintro (h | h)
    · cases h
    · exact h
theorem rep_add {last n mg n2 n3 : Nat} {es e0 eg e2 e3 : Nat → Int} {p : Nat → Bool} {L : List (Int × Int)} {P : Int → Prop} {nt : Int} (h : rep last es n p) (hp : ∀ t ∈ L, 0 ≤ t.1) (hG : GG ((last : Nat) : Int) e0 0 L eg mg) (hL : ∀ c : Nat, c ≤ last → (inL L ((c : Nat) : Int) ↔ P ((c : Nat) : Int))) (h2 : (nt = 0 ∧ e2 = eg ∧ n2 = mg) ∨ (¬ nt = 0 ∧ Cmp ((last : Nat) : Int) eg mg e2 n2)) (hI : IA es n e2 (n2 / 2) e3 n3) : rep last e2 n2 (fun c => pB P nt c) ∧ rep last e3 n3 (fun c => p c || pB P nt c) := by
  have a := nt_rep (GG_set hp hG hL) h2
  exact ⟨a, IA_join h a hI⟩
theorem Bs_nt {last mg n2 : Nat} {eg e2 : Nat → Int} {nt : Int} {Bs : List Int} (hg : gok Bs eg mg) (h2 : (nt = 0 ∧ e2 = eg ∧ n2 = mg) ∨ (¬ nt = 0 ∧ Cmp ((last : Nat) : Int) eg mg e2 n2)) (h0 : 0 ∈ Bs) (hl : ((last : Nat) : Int) + 1 ∈ Bs) : ∀ i, i < n2 → e2 i ∈ Bs := by
  rcases h2 with ⟨-, rfl, rfl⟩ | ⟨-, hC⟩
  · exact hg.2.2
  · exact Cmp_B hC Bs hg.2.2 h0 hl
theorem mode_last {last nw : Nat} {u ut uc la wo : Int} {NX : Nat → Int} (h : MODE last nw u ut uc la wo NX) : la = ((last : Nat) : Int) ∧ (last = 255 ∨ last = 1114111) ∧ (la = 255 ∨ la = 1114111) ∧ (uc = 0 ∨ uc = 1) ∧ (ut = 0 ∨ ut = 1) ∧ ((ut = 0 ∧ last = 255) ∨ (ut = 1 ∧ last = 1114111)) := by
  obtain ⟨⟨a, b, c, d, e⟩, h⟩ := h
  rcases h with ⟨h1, h2, h3, -⟩ | ⟨h1, h2, h3, -⟩ | ⟨h1, h2, h3, -⟩ | ⟨h1, h2, h3, -⟩ <;> subst h3 <;> omega
theorem mode_ring {last nw : Nat} {u ut uc la wo : Int} {NX : Nat → Int} (h : MODE last nw u ut uc la wo NX) : (∀ c : Int, 0 ≤ c → c ≤ la → KR ut uc la (nxF NX) c) ∧ (∀ i, i < 1122 → la < chA i → nxF NX (chA i) = chA i) ∧ (∀ j, j < 1122 → 0 ≤ NX j ∧ NX j ≤ 1114111) ∧ ∀ E : List Int, ∀ i, i < 1122 → ¬ nxF NX (chA i) = chA i → chA i ∈ B0 ++ E ∧ chA i + 1 ∈ B0 ++ E := by
  obtain ⟨⟨a, -, -, -, -⟩, h⟩ := h
  rcases h with ⟨h1, h2, h3, h4⟩ | ⟨h1, h2, h3, h4⟩ | ⟨h1, h2, h3, h4⟩ | ⟨h1, h2, h3, h4⟩
  · have e : la = 255 := by omega
    rw [h1, h2, h4, e]
    exact ⟨fun c h1 h2 => by rw [nxa_f]; exact ring_a ⟨h1, h2⟩, out_a, nbd_a, fun E => B0_BKa⟩
  · have e : la = 255 := by omega
    rw [h1, h2, h4, e]
    exact ⟨fun c h1 h2 => by rw [nxb_f]; exact ring_b ⟨h1, h2⟩, out_b, nbd_b, fun E => B0_BKb⟩
  · have e : la = 1114111 := by omega
    rw [h1, h2, h4, e]
    exact ⟨fun c h1 h2 => by rw [nxc_f]; exact ring_c ⟨h1, h2⟩, out_c, nbd_c, fun E => B0_BKc⟩
  · have e : la = 1114111 := by omega
    rw [h1, h2, h4, e]
    exact ⟨fun c h1 h2 => by rw [nxc_f]; exact ring_d ⟨h1, h2⟩, out_c, nbd_c, fun E => B0_BKc⟩
theorem about_eq {last nw : Nat} {u ut uc la wo : Int} {NX : Nat → Int} (h : MODE last nw u ut uc la wo NX) (c w : Int) : abC NX la c w = abF ut uc la c w := by
  have hr := (mode_ring h).1
  unfold abC abF
  by_cases h1 : c < 0 ∨ 1114111 < c ∨ w < 0 ∨ 4 < w
  · rw [if_pos h1, if_pos h1]
  · rw [if_neg h1, if_neg h1]
    by_cases h2 : la < c
    · rw [if_pos h2, if_pos h2]
    · rw [if_neg h2, if_neg h2]
      obtain ⟨⟨k1, k2, k3⟩, -⟩ := hr c (by omega) (by omega)
      rw [upC_G, loC_G, k2, k3, k1]
