/-! INSERT: what an insert does to the edges, and to the set -/
def Ins (es : Nat → Int) (n : Nat) (low high : Int) (es' : Nat → Int) (n' : Nat) : Prop :=
  asc es' n' ∧ n' % 2 = n % 2 ∧ (∀ (c : Int) (k : Nat), Up es n c k → ∃ k', Up es' n' c k' ∧ (k' % 2 = 1 ↔ (k % 2 = 1 ∨ (low ≤ c ∧ c ≤ high)))) ∧ ∀ j, j < n' → es' j = low ∨ es' j = high + 1 ∨ ∃ i, i < n ∧ es' j = es i
def insE (es : Nat → Int) (n f t nl nh : Nat) (low hi : Int) : Nat → Int :=
  (if nh = 1 then (fun g => va_up g (f + nl + nh - 1) hi) else id) ((if nl = 1 then (fun g => va_up g f low) else id) (va_cpy es es t (f + nl + nh) (n - t)))
theorem Ins_of {es : Nat → Int} {n f t nl nh : Nat} {low high : Int} (ha : asc es n) (hf : Up es n (low - 1) f) (ht : Up es n (high + 1) t) (hlh : low ≤ high) (hnl : nl + f % 2 = 1) (hnh : nh + t % 2 = 1) :
    Ins es n low high (insE es n f t nl nh low (high + 1)) (f + nl + nh + (n - t)) := by
  obtain ⟨zA, zB, zC, zD⟩ := ins_zones es (n := n) (f := f) (t := t) (nl := nl) (nh := nh) low (high + 1) (by omega) (by omega) (insE es n f t nl nh low (high + 1)) rfl
  have hft : f ≤ t := Up_mono hf ht (by omega)
  refine ⟨ins_asc ha hf ht hlh hnl hnh zA zB zC zD, ?_, fun c k hk => ins_up hf ht hlh hnl hnh zA zB zC zD hk, fun j hj => ins_mem ht.1 zA zB zC zD (by omega) (by omega) hft hj⟩
  have := ht.1
  omega
theorem Ins_B {es es' : Nat → Int} {n n' : Nat} {low high : Int} (h : Ins es n low high es' n') (B : List Int) (hB : ∀ i, i < n → es i ∈ B) (hl : low ∈ B) (hh : high + 1 ∈ B) : ∀ j, j < n' → es' j ∈ B := by
  intro j hj
  rcases h.2.2.2 j hj with e | e | ⟨i, hi, e⟩
  · rw [e]; exact hl
  · rw [e]; exact hh
  · rw [e]; exact hB i hi
theorem Ins_len {es es' : Nat → Int} {n n' : Nat} {low high : Int} (h : Ins es n low high es' n') (B : List Int) (hB : ∀ i, i < n → es i ∈ B) (hl : low ∈ B) (hh : high + 1 ∈ B) : n' ≤ B.length := asc_len h.1 B (Ins_B h B hB hl hh)
theorem Ins_rep {last : Nat} {es es' : Nat → Int} {n n' : Nat} {low high : Int} {p : Nat → Bool} (h : Ins es n low high es' n') (hr : rep last es n p) (h0 : 0 ≤ low) (hl : high ≤ last) (hlh : low ≤ high) :
    rep last es' n' (fun c => p c || (decide (low ≤ c) && decide ((c : Int) ≤ high))) := by
  obtain ⟨ha, hev, hb, hp⟩ := hr
  obtain ⟨h1, h2, h3, h4⟩ := h
  refine ⟨h1, by omega, fun i hi => ?_, fun c hc k' hk' => ?_⟩
  · rcases h4 i hi with e | e | ⟨j, hj, e⟩
    · rw [e]; omega
    · rw [e]; omega
    · rw [e]; exact hb j hj
  · obtain ⟨k, hk⟩ := Up_ex (c : Int) ha
    obtain ⟨k2, hk2, hpar⟩ := h3 c k hk
    have e := Up_eq hk' hk2
    rw [e, hpar, ← hp c hc k hk]
    simp
