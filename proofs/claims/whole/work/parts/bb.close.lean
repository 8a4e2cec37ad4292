/-! CLOSE: both sides put in the same characters -/
theorem cnt_ins {q : Nat → Bool} {c : Nat} (hq : q c = false) : ∀ N, cnt (fun x => q x || (decide (((c : Nat) : Int) ≤ ((x : Nat) : Int)) && decide (((x : Nat) : Int) ≤ ((c : Nat) : Int)))) N = cnt q N + (if c < N then 1 else 0) := by
  intro N
  induction N with
  | zero => rfl
  | succ N ih =>
    show cnt (fun x => q x || (decide (((c : Nat) : Int) ≤ ((x : Nat) : Int)) && decide (((x : Nat) : Int) ≤ ((c : Nat) : Int)))) N + (if (q N || (decide (((c : Nat) : Int) ≤ ((N : Nat) : Int)) && decide (((N : Nat) : Int) ≤ ((c : Nat) : Int)))) = true then 1 else 0) = cnt q N + (if q N = true then 1 else 0) + (if c < N + 1 then 1 else 0)
    rw [ih]
    by_cases h : N = c
    · subst h
      have e : (q N || (decide (((N : Nat) : Int) ≤ ((N : Nat) : Int)) && decide (((N : Nat) : Int) ≤ ((N : Nat) : Int)))) = true := by simp
      have f : ¬ q N = true := by rw [hq]; decide
      rw [if_pos e, if_neg f, if_neg (show ¬ N < N by omega), if_pos (show N < N + 1 by omega)]
    · have e : (q N || (decide (((c : Nat) : Int) ≤ ((N : Nat) : Int)) && decide (((N : Nat) : Int) ≤ ((c : Nat) : Int)))) = q N := by
        have : ¬ (((c : Nat) : Int) ≤ ((N : Nat) : Int) ∧ ((N : Nat) : Int) ≤ ((c : Nat) : Int)) := by omega
        rw [← Bool.decide_and, decide_eq_false this, Bool.or_false]
      rw [e]
      by_cases w : c < N
      · rw [if_pos w, if_pos (show c < N + 1 by omega)]; omega
      · rw [if_neg w, if_neg (show ¬ c < N + 1 by omega)]; omega
def Cls (ut uc la : Int) (last : Nat) (p : Nat → Bool) (x : Int) : Prop := (0 ≤ x ∧ x ≤ la ∧ p x.toNat = true) ∨ ∃ d : Nat, d ≤ last ∧ p d = true ∧ x ∈ kinL ut uc la ((d : Nat) : Int)
section CL
variable {ut uc la : Int} {last : Nat} {NX : Nat → Int} {p : Nat → Bool}
theorem cls_kin (hla : la = ((last : Nat) : Int)) (hKR : ∀ c : Int, 0 ≤ c → c ≤ la → KR ut uc la (nxF NX) c) {c y : Int} (hc : 0 ≤ c ∧ c ≤ la) (hy : y ∈ kinL ut uc la c) (hb : 0 ≤ y ∧ y ≤ la) (h : Cls ut uc la last p y) : Cls ut uc la last p c := by
  have k1 := ((hKR c hc.1 hc.2).2.2 y hy).1
  have kc := (hKR c hc.1 hc.2).2.1.1
  rcases h with ⟨a, b, d⟩ | ⟨d, hd, hp, hm⟩
  · refine Or.inr ⟨y.toNat, by omega, d, ?_⟩
    rw [show ((y.toNat : Nat) : Int) = y by omega, k1]
    exact kc
  · refine Or.inr ⟨d, hd, hp, ?_⟩
    have k2 := ((hKR ((d : Nat) : Int) (by omega) (by omega)).2.2 y hm).1
    rw [← k2, k1]
    exact kc
theorem CC_rep {es : Nat → Int} {n : Nat} (hl : last ≤ 1114111) (hla : la = ((last : Nat) : Int)) (hKR : ∀ c : Int, 0 ≤ c → c ≤ la → KR ut uc la (nxF NX) c) (hout : ∀ i, i < 1122 → la < chA i → nxF NX (chA i) = chA i) (h : rep last es n p) : ∀ {i : Nat} {e : Nat → Int} {m k : Nat}, i ≤ 1122 → CC NX es n i e m k → ∃ q : Nat → Bool, rep last e m q ∧ (∀ x, x ≤ last → p x = true → q x = true) ∧ (∀ x : Nat, x ≤ last → q x = true → Cls ut uc la last p ((x : Nat) : Int)) ∧ (∀ j, j < i → chA j ≤ la → Cls ut uc la last p (chA j) → q (chA j).toNat = true) ∧ k + cnt p (last + 1) = cnt q (last + 1) := by
  intro i
  induction i with
  | zero =>
    intro e m k _ hC
    obtain ⟨rfl, rfl, rfl⟩ := hC
    exact ⟨p, h, fun _ _ a => a, fun x hx a => Or.inl ⟨by omega, by omega, a⟩, fun j hj => absurd hj (by omega), by omega⟩
  | succ i ih =>
    intro e m k hi hC
    obtain ⟨e0, m0, k0, hC, hstep⟩ := hC
    obtain ⟨q, hq, hsub, hsnd, hcmp, hcnt⟩ := ih (by omega) hC
    have hcb := chA_bd (i := i) (by omega)
    have inq : ∀ y : Int, inE e0 m0 y ↔ 0 ≤ y ∧ y ≤ ((last : Nat) : Int) ∧ q y.toNat = true := fun y => rep_in0 hq
    rcases hstep with ⟨⟨⟨n1, n2⟩, n3⟩, hI, rfl⟩ | ⟨hn, rfl, rfl, rfl⟩
    · have hc : chA i ≤ la := by
        rcases Int.lt_or_le la (chA i) with w | w
        · exact absurd (hout i (by omega) w) n1
        · exact w
      have hkr := hKR (chA i) hcb.1 hc
      obtain ⟨c, hcc⟩ : ∃ c : Nat, chA i = ((c : Nat) : Int) := ⟨(chA i).toNat, by omega⟩
      rw [hcc] at n1 n2 n3 hI hc hkr hcb
      have hqc : q c = false := by
        cases w : q c with
        | false => rfl
        | true => exact absurd ((inq ((c : Nat) : Int)).mpr ⟨by omega, by omega, w⟩) n2
      have hx := Ins_rep hI hq (by omega) (by omega) (by omega)
      have hcl : Cls ut uc la last p ((c : Nat) : Int) := by
        rcases n3 with w | w
        · obtain ⟨a, b, d⟩ := (inq _).mp w
          have := hsnd _ (by omega) d
          rw [show (((nxF NX ((c : Nat) : Int)).toNat : Nat) : Int) = nxF NX ((c : Nat) : Int) by omega] at this
          exact cls_kin hla hKR ⟨by omega, by omega⟩ hkr.2.1.2.1 ⟨a, by omega⟩ this
        · obtain ⟨a, b, d⟩ := (inq _).mp w
          have := hsnd _ (by omega) d
          rw [show (((nxF NX (nxF NX ((c : Nat) : Int))).toNat : Nat) : Int) = nxF NX (nxF NX ((c : Nat) : Int)) by omega] at this
          exact cls_kin hla hKR ⟨by omega, by omega⟩ hkr.2.1.2.2 ⟨a, by omega⟩ this
      refine ⟨_, hx, fun x hx1 a => ?_, fun x hx1 a => ?_, fun j hj hjl hcl2 => ?_, ?_⟩
      · rw [hsub x hx1 a]; rfl
      · rw [Bool.or_eq_true] at a
        rcases a with a | a
        · exact hsnd x hx1 a
        · rw [Bool.and_eq_true, decide_eq_true_iff, decide_eq_true_iff] at a
          rw [show ((x : Nat) : Int) = ((c : Nat) : Int) by omega]
          exact hcl
      · by_cases w : j = i
        · subst w
          rw [hcc]
          show (q c || _) = true
          simp
        · rw [hcmp j (by omega) hjl hcl2]; rfl
      · rw [cnt_ins hqc, if_pos (by omega)]; omega
    · refine ⟨q, hq, hsub, hsnd, fun j hj hjl hcl => ?_, hcnt⟩
      by_cases w : j = i
      · subst w
        have hkr := hKR (chA j) hcb.1 hjl
        refine Classical.byContradiction (fun hno => hn ?_)
        have hnin : ¬ inE e (m) (chA j) := fun a => hno ((inq _).mp a).2.2
        have hnp : ¬ p (chA j).toNat = true := fun a => hno (hsub _ (by omega) a)
        rcases hcl with ⟨-, -, a⟩ | ⟨d, hd, hp, hm⟩
        · exact absurd a hnp
        · have kd := hKR ((d : Nat) : Int) (by omega) (by omega)
          have k1 := (kd.2.2 _ hm).1
          have hdk : ((d : Nat) : Int) ∈ kinL ut uc la (chA j) := by rw [k1]; exact kd.2.1.1
          have hdc : ¬ ((d : Nat) : Int) = chA j := fun a => hnp (by rw [← a]; exact hp)
          have hin : inE e m ((d : Nat) : Int) := (inq _).mpr ⟨by omega, by omega, hsub d hd hp⟩
          rcases (hkr.2.2 _ hdk).2 with a | a | a
          · exact absurd a hdc
          · exact ⟨⟨fun b => hdc (by rw [a, b]), hnin⟩, Or.inl (by rw [← a]; exact hin)⟩
          · exact ⟨⟨fun b => hdc (by rw [a, b, b]), hnin⟩, Or.inr (by rw [← a]; exact hin)⟩
      · exact hcmp j (by omega) hjl hcl
theorem CC_close {es e : Nat → Int} {n m k : Nat} (hl : last ≤ 1114111) (hla : la = ((last : Nat) : Int)) (hKR : ∀ c : Int, 0 ≤ c → c ≤ la → KR ut uc la (nxF NX) c) (hout : ∀ i, i < 1122 → la < chA i → nxF NX (chA i) = chA i) (h : rep last es n p) (hC : CC NX es n 1122 e m k) : rep last e m (clB (kK ut uc la) (min last 8704) p) ∧ k + cnt p (last + 1) = cnt (clB (kK ut uc la) (min last 8704) p) (last + 1) := by
  obtain ⟨q, hq, hsub, hsnd, hcmp, hcnt⟩ := CC_rep hl hla hKR hout h (Nat.le_refl _) hC
  have hall : ∀ x, x ≤ last → q x = clB (kK ut uc la) (min last 8704) p x := by
    intro x hx
    rw [Bool.eq_iff_iff, clB_t]
    constructor
    · intro a
      rcases hsnd x hx a with ⟨-, -, b⟩ | ⟨d, hd, hp, hm⟩
      · exact Or.inl b
      · by_cases w : d ≤ 8704
        · exact Or.inr ⟨d, by omega, hp, hm⟩
        · have := kin_hi (ut := ut) (uc := uc) (la := la) (c := ((d : Nat) : Int)) (by omega) (by omega) (by omega) (by omega)
          rw [this, List.mem_singleton] at hm
          exact Or.inl (by rw [show x = d by omega]; exact hp)
    · rintro (a | ⟨d, hd, hp, hm⟩)
      · exact hsub x hx a
      · have hm : ((x : Nat) : Int) ∈ kinL ut uc la ((d : Nat) : Int) := hm
        have hcl : Cls ut uc la last p ((x : Nat) : Int) := Or.inr ⟨d, by omega, hp, hm⟩
        by_cases s1 : x < 1120
        · have e1 : chA x = ((x : Nat) : Int) := by unfold chA; rw [if_pos s1]
          have := hcmp x (by omega) (by omega) (by rw [e1]; exact hcl)
          rw [e1] at this
          exact this
        · by_cases s2 : x = 8490 ∨ x = 8491
          · have e1 : chA (x - 7370) = ((x : Nat) : Int) := by unfold chA; rw [if_neg (by omega)]; omega
            have := hcmp (x - 7370) (by omega) (by omega) (by rw [e1]; exact hcl)
            rw [e1] at this
            exact this
          · have kd := hKR ((d : Nat) : Int) (by omega) (by omega)
            have k1 := (kd.2.2 _ hm).1
            have := kin_hi (ut := ut) (uc := uc) (la := la) (c := ((x : Nat) : Int)) (by omega) (by omega) (by omega) (by omega)
            have hdk := kd.2.1.1
            rw [← k1, this, List.mem_singleton] at hdk
            exact hsub x hx (by rw [show x = d by omega]; exact hp)
  exact ⟨rep_congr hq hall, by rw [hcnt]; exact cnt_congr (fun c hc => hall c (by omega))⟩
/-- the reference's premise about CASES -/
theorem kin_same (hla : la = ((last : Nat) : Int)) (hKR : ∀ c : Int, 0 ≤ c → c ≤ la → KR ut uc la (nxF NX) c) : ∀ tp : Nat, tp ≤ last → tp ≤ 8704 → ∀ d, d ≤ tp → ∀ y : Nat, ((y : Nat) : Int) ∈ kK ut uc la d → kK ut uc la y = kK ut uc la d := fun tp h1 _ d hd y hy => ((hKR ((d : Nat) : Int) (by omega) (by omega)).2.2 _ hy).1
end CL
