set_option maxHeartbeats 4000000 in
theorem st_clear {g : zG} {q r : Nat → Nat} {last nw : Nat} {u ut uc la wo : Int} {NX : Nat → Int} {n : Nat → Nat} {es : Nat → Nat → Int} {bw : Nat → Nat} {mt : Nat → Int} {ms : Int} {kc : Nat} {s9 : Int} (hM : MODE last nw u ut uc la wo NX) (hrep : ∀ s, s < 8 → rep last (es s) (n s) (bt bw s)) (hbw : ∀ j, bw j < 18446744073709551616) {E E2 : List Int} (hE : E.length ≤ 2 * kc) (hE2 : E2.length ≤ 2 * (kc + 1)) (hsub : ∀ x ∈ E, x ∈ E2) (hgk : ∀ s, s < 9 → gok (B0 ++ E) (es s) (n s))  {z1 z2 : Int32} {w1 w2 : va_W} (h1 : (fun z w => ((¬ (0 ≤ s9 ∧ s9 ≤ 7)) ∧ z = iI (-2) ∧ w = cw g q u la NX n es) ∨ (¬ (¬ (0 ≤ s9 ∧ s9 ≤ 7)) ∧ z = iI 0 ∧ w = cw g q u la NX (va_up n s9.toNat (0)) (va_up es s9.toNat (es s9.toNat)))) z1 w1) (h2 : (fun z w => (¬ (0 ≤ s9 ∧ s9 ≤ 7) ∧ z = iI (-2) ∧ w = [(r 0, .inr (4, [.int (iI ut), .int (iI uc), .int (iI la), .int (iI wo), .ref (r 1), .ref (r 2), .ref (r 3), .int (iI ms), .ref (r 4)])), (r 1, .inl (zJ g, 139264, .inr (.inl (lA bw)))), (r 2, .inl (zBt g, 12544, .inl (ai kF))), (r 3, .inl (zI g, 4, .inl (ai mt))), (r 4, .inl (zI g, 14, .inl (ai PT)))]) ∨ (0 ≤ s9 ∧ s9 ≤ 7 ∧ ∃ b2 : Nat → Nat, w = [(r 0, .inr (4, [.int (iI ut), .int (iI uc), .int (iI la), .int (iI wo), .ref (r 1), .ref (r 2), .ref (r 3), .int (iI ms), .ref (r 4)])), (r 1, .inl (zJ g, 139264, .inr (.inl (lA b2)))), (r 2, .inl (zBt g, 12544, .inl (ai kF))), (r 3, .inl (zI g, 4, .inl (ai mt))), (r 4, .inl (zI g, 14, .inl (ai PT)))] ∧ chg bw b2 s9.toNat (last + 1) (fun _ => false) ∧ z = iI (0))) z2 w2) : z1 = z2 ∧ ∃ (n2 : Nat → Nat) (es2 : Nat → Nat → Int) (b2 : Nat → Nat) (mt2 : Nat → Int) (ms2 : Int), w1 = cw g q u la NX n2 es2 ∧ w2 = rwW g r ut uc la wo b2 mt2 ms2 ∧ INV last (kc + 1) n2 es2 b2 := by
  obtain ⟨hla, hl2, hl3, huc, hut1, hut⟩ := mode_last hM
  have hl : last ≤ 1114111 := by omega
  have hInv : INV last (kc + 1) n es bw := ⟨hbw, hrep, E, by omega, hgk⟩
  rcases h1 with ⟨f1, rfl, rfl⟩ | ⟨g1, rfl, rfl⟩ <;> rcases h2 with ⟨f2, rfl, rfl⟩ | ⟨g2, g3, b2, rfl, hc, rfl⟩
  · exact ⟨rfl, n, es, bw, mt, ms, rfl, rfl, hInv⟩
  · exfalso; omega
  · exfalso; omega
  · exact ⟨rfl, _, _, b2, mt, ms, rfl, rfl, INV_up hl hrep hgk hsub hE2 hc rep_nil gok_nil⟩
set_option maxHeartbeats 4000000 in
theorem st_range {g : zG} {q r : Nat → Nat} {last nw : Nat} {u ut uc la wo : Int} {NX : Nat → Int} {n : Nat → Nat} {es : Nat → Nat → Int} {bw : Nat → Nat} {mt : Nat → Int} {ms : Int} {kc : Nat} {s9 low high : Int} (hM : MODE last nw u ut uc la wo NX) (hrep : ∀ s, s < 8 → rep last (es s) (n s) (bt bw s)) (hbw : ∀ j, bw j < 18446744073709551616) {E E2 : List Int} (hE : E.length ≤ 2 * kc) (hE2 : E2.length ≤ 2 * (kc + 1)) (hsub : ∀ x ∈ E, x ∈ E2) (hgk : ∀ s, s < 9 → gok (B0 ++ E) (es s) (n s)) (hB1 : low ∈ B0 ++ E2) (hB2 : high + 1 ∈ B0 ++ E2)  {z1 z2 : Int32} {w1 w2 : va_W} (h1 : (fun z w => ((¬ (0 ≤ s9 ∧ s9 ≤ 7) ∨ low < 0 ∨ high < low ∨ la < high) ∧ z = iI (-2) ∧ w = cw g q u la NX n es) ∨ (¬ (¬ (0 ≤ s9 ∧ s9 ≤ 7) ∨ low < 0 ∨ high < low ∨ la < high) ∧ ∃ (e2 : Nat → Int) (n2 : Nat), Ins (es s9.toNat) (n s9.toNat) low high e2 n2 ∧ z = iI ((n2 / 2 : Nat) : Int) ∧ w = cw g q u la NX (va_up n s9.toNat (n2)) (va_up es s9.toNat (e2)))) z1 w1) (h2 : (fun z w => ((¬ (0 ≤ s9 ∧ s9 ≤ 7) ∨ low < 0 ∨ high < low ∨ la < high) ∧ z = iI (-2) ∧ w = [(r 0, .inr (4, [.int (iI ut), .int (iI uc), .int (iI la), .int (iI wo), .ref (r 1), .ref (r 2), .ref (r 3), .int (iI ms), .ref (r 4)])), (r 1, .inl (zJ g, 139264, .inr (.inl (lA bw)))), (r 2, .inl (zBt g, 12544, .inl (ai kF))), (r 3, .inl (zI g, 4, .inl (ai mt))), (r 4, .inl (zI g, 14, .inl (ai PT)))]) ∨ (¬ (¬ (0 ≤ s9 ∧ s9 ≤ 7) ∨ low < 0 ∨ high < low ∨ la < high) ∧ ∃ b2 : Nat → Nat, w = [(r 0, .inr (4, [.int (iI ut), .int (iI uc), .int (iI la), .int (iI wo), .ref (r 1), .ref (r 2), .ref (r 3), .int (iI ms), .ref (r 4)])), (r 1, .inl (zJ g, 139264, .inr (.inl (lA b2)))), (r 2, .inl (zBt g, 12544, .inl (ai kF))), (r 3, .inl (zI g, 4, .inl (ai mt))), (r 4, .inl (zI g, 14, .inl (ai PT)))] ∧ chg bw b2 s9.toNat (last + 1) (fun c => bt bw s9.toNat c || (decide (low.toNat ≤ c) && decide (c ≤ high.toNat))) ∧ z = iI ((cnt (rst (fun c => bt bw s9.toNat c || (decide (low.toNat ≤ c) && decide (c ≤ high.toNat)))) (last + 1) : Nat) : Int))) z2 w2) : z1 = z2 ∧ ∃ (n2 : Nat → Nat) (es2 : Nat → Nat → Int) (b2 : Nat → Nat) (mt2 : Nat → Int) (ms2 : Int), w1 = cw g q u la NX n2 es2 ∧ w2 = rwW g r ut uc la wo b2 mt2 ms2 ∧ INV last (kc + 1) n2 es2 b2 := by
  obtain ⟨hla, hl2, hl3, huc, hut1, hut⟩ := mode_last hM
  have hl : last ≤ 1114111 := by omega
  have hInv : INV last (kc + 1) n es bw := ⟨hbw, hrep, E, by omega, hgk⟩
  rcases h1 with ⟨f1, rfl, rfl⟩ | ⟨g1, e2, n2, hI, rfl, rfl⟩ <;> rcases h2 with ⟨f2, rfl, rfl⟩ | ⟨g2, b2, rfl, hc, rfl⟩
  · exact ⟨rfl, n, es, bw, mt, ms, rfl, rfl, hInv⟩
  · exfalso; omega
  · exfalso; omega
  · have hr := rep_range (hrep s9.toNat (by omega)) hI (by omega) (by omega) (by omega)
    have hB : ∀ i, i < n2 → e2 i ∈ B0 ++ E2 := Ins_B hI _ (fun i hi => app_mono hsub _ ((hgk s9.toNat (by omega)).2.2 i hi)) hB1 hB2
    exact ⟨rc_eq hr, _, _, b2, mt, ms, rfl, rfl, INV_up hl hrep hgk hsub hE2 hc hr (gok_rep hl hr hB)⟩
set_option maxHeartbeats 4000000 in
theorem st_property {g : zG} {q r : Nat → Nat} {last nw : Nat} {u ut uc la wo : Int} {NX : Nat → Int} {n : Nat → Nat} {es : Nat → Nat → Int} {bw : Nat → Nat} {mt : Nat → Int} {ms : Int} {kc : Nat} {s9 k nt cl : Int} (hM : MODE last nw u ut uc la wo NX) (hrep : ∀ s, s < 8 → rep last (es s) (n s) (bt bw s)) (hbw : ∀ j, bw j < 18446744073709551616) {E E2 : List Int} (hE : E.length ≤ 2 * kc) (hE2 : E2.length ≤ 2 * (kc + 1)) (hsub : ∀ x ∈ E, x ∈ E2) (hgk : ∀ s, s < 9 → gok (B0 ++ E) (es s) (n s)) (hnt : nt = 0 ∨ nt = 1) (hcl : cl = 0 ∨ cl = 1) {z1 z2 : Int32} {w1 w2 : va_W} (h1 : (fun z w => ((¬ (0 ≤ s9 ∧ s9 ≤ 7) ∨ k < 0 ∨ 48 < k) ∧ z = iI (-2) ∧ w = cw g q u la NX n es) ∨ (¬ (¬ (0 ≤ s9 ∧ s9 ≤ 7) ∨ k < 0 ∨ 48 < k) ∧ ∃ (eg : Nat → Int) (mg : Nat) (e2 : Nat → Int) (n2 : Nat) (e3 : Nat → Int) (n3 : Nat), GG la (es 8) 0 (rlP la (whP k cl).toNat) eg mg ∧ gok (B0 ++ E2) eg mg ∧ ((nt = 0 ∧ e2 = eg ∧ n2 = mg) ∨ (¬ nt = 0 ∧ Cmp la eg mg e2 n2)) ∧ IA (es s9.toNat) (n s9.toNat) e2 (n2 / 2) e3 n3 ∧ z = iI ((n3 / 2 : Nat) : Int) ∧ w = cw g q u la NX (va_up (va_up n 8 n2) s9.toNat n3) (va_up (va_up es 8 e2) s9.toNat e3))) z1 w1) (h2 : (fun z w => ((¬ (0 ≤ s9 ∧ s9 ≤ 7) ∨ k < 0 ∨ 48 < k) ∧ z = iI (-2) ∧ w = [(r 0, .inr (4, [.int (iI ut), .int (iI uc), .int (iI la), .int (iI wo), .ref (r 1), .ref (r 2), .ref (r 3), .int (iI ms), .ref (r 4)])), (r 1, .inl (zJ g, 139264, .inr (.inl (lA bw)))), (r 2, .inl (zBt g, 12544, .inl (ai kF))), (r 3, .inl (zI g, 4, .inl (ai mt))), (r 4, .inl (zI g, 14, .inl (ai PT)))]) ∨ (¬ (¬ (0 ≤ s9 ∧ s9 ≤ 7) ∨ k < 0 ∨ 48 < k) ∧ ∃ b2 : Nat → Nat, w = [(r 0, .inr (4, [.int (iI ut), .int (iI uc), .int (iI la), .int (iI wo), .ref (r 1), .ref (r 2), .ref (r 3), .int (iI ms), .ref (r 4)])), (r 1, .inl (zJ g, 139264, .inr (.inl (lA b2)))), (r 2, .inl (zBt g, 12544, .inl (ai kF))), (r 3, .inl (zI g, 4, .inl (ai mt))), (r 4, .inl (zI g, 14, .inl (ai PT)))] ∧ chg bw b2 s9.toNat (last + 1) (fun c => bt bw s9.toNat c || pB (holdF (whP k cl)) nt c) ∧ z = iI ((cnt (rst (fun c => bt bw s9.toNat c || pB (holdF (whP k cl)) nt c)) (last + 1) : Nat) : Int))) z2 w2) : z1 = z2 ∧ ∃ (n2 : Nat → Nat) (es2 : Nat → Nat → Int) (b2 : Nat → Nat) (mt2 : Nat → Int) (ms2 : Int), w1 = cw g q u la NX n2 es2 ∧ w2 = rwW g r ut uc la wo b2 mt2 ms2 ∧ INV last (kc + 1) n2 es2 b2 := by
  obtain ⟨hla, hl2, hl3, huc, hut1, hut⟩ := mode_last hM
  have hl : last ≤ 1114111 := by omega
  have hInv : INV last (kc + 1) n es bw := ⟨hbw, hrep, E, by omega, hgk⟩
  rcases h1 with ⟨f1, rfl, rfl⟩ | ⟨g1, eg, mg, e2, n2, e3, n3, hG, hgg, hnt2, hIA, rfl, rfl⟩ <;> rcases h2 with ⟨f2, rfl, rfl⟩ | ⟨g2, b2, rfl, hc, rfl⟩
  · exact ⟨rfl, n, es, bw, mt, ms, rfl, rfl, hInv⟩
  · exfalso; omega
  · exfalso; omega
  · have hwk : (whP k cl).toNat ≤ 48 := by unfold whP; split <;> omega
    have hwz : (((whP k cl).toNat : Nat) : Int) = whP k cl := by unfold whP; split <;> omega
    rw [hla] at hG hnt2
    obtain ⟨ha, hr⟩ := rep_add (P := holdF (whP k cl)) (hrep s9.toNat (by omega)) rlP_pos hG (fun c hc9 => by
        have := inL_P (k := (whP k cl).toNat) (la := ((last : Nat) : Int)) (c := ((c : Nat) : Int)) hwk (by omega) (by omega)
        rw [hwz] at this
        exact this) hnt2 hIA
    have h0 : (0 : Int) ∈ B0 ++ E2 := B0_0
    have hl1 : ((last : Nat) : Int) + 1 ∈ B0 ++ E2 := by have := B0_last hl3; rw [hla] at this; exact List.mem_append_left _ this
    have hB2 := Bs_nt hgg hnt2 h0 hl1
    have hev : n2 % 2 = 0 := ha.2.1
    have hB3 : ∀ i, i < n3 → e3 i ∈ B0 ++ E2 := IA_B _ (fun i hi => app_mono hsub _ ((hgk s9.toNat (by omega)).2.2 i hi)) hB2 hIA (by omega)
    have hg2 := gok8 (fun s hs => gok_mono (hgk s hs) (app_mono hsub)) (gok_rep hl ha hB2)
    exact ⟨rc_eq hr, _, _, b2, mt, ms, rfl, rfl, INV_up hl (rep8 hrep) hg2 (fun x hx => hx) hE2 hc hr (gok_rep hl hr hB3)⟩
set_option maxHeartbeats 4000000 in
theorem st_named {g : zG} {q r : Nat → Nat} {last nw : Nat} {u ut uc la wo : Int} {NX : Nat → Int} {n : Nat → Nat} {es : Nat → Nat → Int} {bw : Nat → Nat} {mt : Nat → Int} {ms : Int} {kc : Nat} {s9 k nt cl : Int} (hM : MODE last nw u ut uc la wo NX) (hrep : ∀ s, s < 8 → rep last (es s) (n s) (bt bw s)) (hbw : ∀ j, bw j < 18446744073709551616) {E E2 : List Int} (hE : E.length ≤ 2 * kc) (hE2 : E2.length ≤ 2 * (kc + 1)) (hsub : ∀ x ∈ E, x ∈ E2) (hgk : ∀ s, s < 9 → gok (B0 ++ E) (es s) (n s)) (hnt : nt = 0 ∨ nt = 1) (hcl : cl = 0 ∨ cl = 1) {z1 z2 : Int32} {w1 w2 : va_W} (h1 : (fun z w => ((¬ (0 ≤ s9 ∧ s9 ≤ 7) ∨ k < 0 ∨ 18 < k) ∧ z = iI (-2) ∧ w = cw g q u la NX n es) ∨ (¬ (¬ (0 ≤ s9 ∧ s9 ≤ 7) ∨ k < 0 ∨ 18 < k) ∧ ∃ (eg : Nat → Int) (mg : Nat) (e2 : Nat → Int) (n2 : Nat) (e3 : Nat → Int) (n3 : Nat), GG la (es 8) 0 (rlN u la (whN k cl).toNat) eg mg ∧ gok (B0 ++ E2) eg mg ∧ ((nt = 0 ∧ e2 = eg ∧ n2 = mg) ∨ (¬ nt = 0 ∧ Cmp la eg mg e2 n2)) ∧ IA (es s9.toNat) (n s9.toNat) e2 (n2 / 2) e3 n3 ∧ z = iI ((n3 / 2 : Nat) : Int) ∧ w = cw g q u la NX (va_up (va_up n 8 n2) s9.toNat n3) (va_up (va_up es 8 e2) s9.toNat e3))) z1 w1) (h2 : (fun z w => ((¬ (0 ≤ s9 ∧ s9 ≤ 7) ∨ k < 0 ∨ 18 < k) ∧ z = iI (-2) ∧ w = [(r 0, .inr (4, [.int (iI ut), .int (iI uc), .int (iI la), .int (iI wo), .ref (r 1), .ref (r 2), .ref (r 3), .int (iI ms), .ref (r 4)])), (r 1, .inl (zJ g, 139264, .inr (.inl (lA bw)))), (r 2, .inl (zBt g, 12544, .inl (ai kF))), (r 3, .inl (zI g, 4, .inl (ai mt))), (r 4, .inl (zI g, 14, .inl (ai PT)))]) ∨ (¬ (¬ (0 ≤ s9 ∧ s9 ≤ 7) ∨ k < 0 ∨ 18 < k) ∧ ∃ b2 : Nat → Nat, w = [(r 0, .inr (4, [.int (iI ut), .int (iI uc), .int (iI la), .int (iI wo), .ref (r 1), .ref (r 2), .ref (r 3), .int (iI ms), .ref (r 4)])), (r 1, .inl (zJ g, 139264, .inr (.inl (lA b2)))), (r 2, .inl (zBt g, 12544, .inl (ai kF))), (r 3, .inl (zI g, 4, .inl (ai mt))), (r 4, .inl (zI g, 14, .inl (ai PT)))] ∧ chg bw b2 s9.toNat (last + 1) (fun c => bt bw s9.toNat c || pB (nameF uc (whN k cl)) nt c) ∧ z = iI ((cnt (rst (fun c => bt bw s9.toNat c || pB (nameF uc (whN k cl)) nt c)) (last + 1) : Nat) : Int))) z2 w2) : z1 = z2 ∧ ∃ (n2 : Nat → Nat) (es2 : Nat → Nat → Int) (b2 : Nat → Nat) (mt2 : Nat → Int) (ms2 : Int), w1 = cw g q u la NX n2 es2 ∧ w2 = rwW g r ut uc la wo b2 mt2 ms2 ∧ INV last (kc + 1) n2 es2 b2 := by
  obtain ⟨hla, hl2, hl3, huc, hut1, hut⟩ := mode_last hM
  have hl : last ≤ 1114111 := by omega
  have hInv : INV last (kc + 1) n es bw := ⟨hbw, hrep, E, by omega, hgk⟩
  rcases h1 with ⟨f1, rfl, rfl⟩ | ⟨g1, eg, mg, e2, n2, e3, n3, hG, hgg, hnt2, hIA, rfl, rfl⟩ <;> rcases h2 with ⟨f2, rfl, rfl⟩ | ⟨g2, b2, rfl, hc, rfl⟩
  · exact ⟨rfl, n, es, bw, mt, ms, rfl, rfl, hInv⟩
  · exfalso; omega
  · exfalso; omega
  · have hwk : (whN k cl).toNat ≤ 18 := by unfold whN; split <;> omega
    have hwz : (((whN k cl).toNat : Nat) : Int) = whN k cl := by unfold whN; split <;> omega
    rw [hla] at hG hnt2
    have huu : u = uc := hM.1.2.2.2.2
    subst huu
    obtain ⟨ha, hr⟩ := rep_add (P := nameF u (whN k cl)) (hrep s9.toNat (by omega)) (rlN_pos hwk) hG (fun c hc9 => by
        have := inL_N (u := u) (k := (whN k cl).toNat) (la := ((last : Nat) : Int)) (c := ((c : Nat) : Int)) hwk (by omega) (by omega)
        rw [hwz] at this
        exact this) hnt2 hIA
    have h0 : (0 : Int) ∈ B0 ++ E2 := B0_0
    have hl1 : ((last : Nat) : Int) + 1 ∈ B0 ++ E2 := by have := B0_last hl3; rw [hla] at this; exact List.mem_append_left _ this
    have hB2 := Bs_nt hgg hnt2 h0 hl1
    have hev : n2 % 2 = 0 := ha.2.1
    have hB3 : ∀ i, i < n3 → e3 i ∈ B0 ++ E2 := IA_B _ (fun i hi => app_mono hsub _ ((hgk s9.toNat (by omega)).2.2 i hi)) hB2 hIA (by omega)
    have hg2 := gok8 (fun s hs => gok_mono (hgk s hs) (app_mono hsub)) (gok_rep hl ha hB2)
    exact ⟨rc_eq hr, _, _, b2, mt, ms, rfl, rfl, INV_up hl (rep8 hrep) hg2 (fun x hx => hx) hE2 hc hr (gok_rep hl hr hB3)⟩
set_option maxHeartbeats 4000000 in
theorem st_close {g : zG} {q r : Nat → Nat} {last nw : Nat} {u ut uc la wo : Int} {NX : Nat → Int} {n : Nat → Nat} {es : Nat → Nat → Int} {bw : Nat → Nat} {mt : Nat → Int} {ms : Int} {kc : Nat} {s9 : Int} (hM : MODE last nw u ut uc la wo NX) (hrep : ∀ s, s < 8 → rep last (es s) (n s) (bt bw s)) (hbw : ∀ j, bw j < 18446744073709551616) {E E2 : List Int} (hE : E.length ≤ 2 * kc) (hE2 : E2.length ≤ 2 * (kc + 1)) (hsub : ∀ x ∈ E, x ∈ E2) (hgk : ∀ s, s < 9 → gok (B0 ++ E) (es s) (n s))  {z1 z2 : Int32} {w1 w2 : va_W} (h1 : (fun z w => ((¬ (0 ≤ s9 ∧ s9 ≤ 7)) ∧ z = iI (-2) ∧ w = cw g q u la NX n es) ∨ (¬ (¬ (0 ≤ s9 ∧ s9 ≤ 7)) ∧ ∃ (e2 : Nat → Int) (m2 k9 : Nat), CC NX (es s9.toNat) (n s9.toNat) 1122 e2 m2 k9 ∧ gok (B0 ++ E2) e2 m2 ∧ z = iI ((k9 : Nat) : Int) ∧ w = cw g q u la NX (va_up n s9.toNat m2) (va_up es s9.toNat e2))) z1 w1) (h2 : (fun z w => ((¬ (0 ≤ s9 ∧ s9 ≤ 7)) ∧ z = iI (-2) ∧ w = [(r 0, .inr (4, [.int (iI ut), .int (iI uc), .int (iI la), .int (iI wo), .ref (r 1), .ref (r 2), .ref (r 3), .int (iI ms), .ref (r 4)])), (r 1, .inl (zJ g, 139264, .inr (.inl (lA bw)))), (r 2, .inl (zBt g, 12544, .inl (ai kF))), (r 3, .inl (zI g, 4, .inl (ai mt))), (r 4, .inl (zI g, 14, .inl (ai PT)))]) ∨ (¬ (¬ (0 ≤ s9 ∧ s9 ≤ 7)) ∧ ∃ (b2 : Nat → Nat) (mt2 : Nat → Int) (ms2 : Int) (tp : Nat), tp = min last 8704 ∧ w = [(r 0, .inr (4, [.int (iI ut), .int (iI uc), .int (iI la), .int (iI wo), .ref (r 1), .ref (r 2), .ref (r 3), .int (iI ms2), .ref (r 4)])), (r 1, .inl (zJ g, 139264, .inr (.inl (lA b2)))), (r 2, .inl (zBt g, 12544, .inl (ai kF))), (r 3, .inl (zI g, 4, .inl (ai mt2))), (r 4, .inl (zI g, 14, .inl (ai PT)))] ∧ chg bw b2 s9.toNat (last + 1) (clB (kK ut uc la) tp (bt bw s9.toNat)) ∧ z = iI (((cnt (clB (kK ut uc la) tp (bt bw s9.toNat)) (last + 1) : Nat) : Int) - ((cnt (bt bw s9.toNat) (last + 1) : Nat) : Int)))) z2 w2) : z1 = z2 ∧ ∃ (n2 : Nat → Nat) (es2 : Nat → Nat → Int) (b2 : Nat → Nat) (mt2 : Nat → Int) (ms2 : Int), w1 = cw g q u la NX n2 es2 ∧ w2 = rwW g r ut uc la wo b2 mt2 ms2 ∧ INV last (kc + 1) n2 es2 b2 := by
  obtain ⟨hla, hl2, hl3, huc, hut1, hut⟩ := mode_last hM
  have hl : last ≤ 1114111 := by omega
  have hInv : INV last (kc + 1) n es bw := ⟨hbw, hrep, E, by omega, hgk⟩
  rcases h1 with ⟨f1, rfl, rfl⟩ | ⟨g1, e2, m2, k9, hC, hgg, rfl, rfl⟩ <;> rcases h2 with ⟨f2, rfl, rfl⟩ | ⟨g2, b2, mt2, ms2, tp, rfl, rfl, hc, rfl⟩
  · exact ⟨rfl, n, es, bw, mt, ms, rfl, rfl, hInv⟩
  · exfalso; omega
  · exfalso; omega
  · obtain ⟨hkr, hout, -, -⟩ := mode_ring hM
    obtain ⟨hr, hcn⟩ := CC_close hl hla hkr hout (hrep s9.toNat (by omega)) hC
    refine ⟨congrArg iI ?_, _, _, b2, mt2, ms2, rfl, rfl, INV_up hl hrep hgk hsub hE2 hc hr hgg⟩
    omega
set_option maxHeartbeats 4000000 in
theorem st_invert {g : zG} {q r : Nat → Nat} {last nw : Nat} {u ut uc la wo : Int} {NX : Nat → Int} {n : Nat → Nat} {es : Nat → Nat → Int} {bw : Nat → Nat} {mt : Nat → Int} {ms : Int} {kc : Nat} {s9 : Int} (hM : MODE last nw u ut uc la wo NX) (hrep : ∀ s, s < 8 → rep last (es s) (n s) (bt bw s)) (hbw : ∀ j, bw j < 18446744073709551616) {E E2 : List Int} (hE : E.length ≤ 2 * kc) (hE2 : E2.length ≤ 2 * (kc + 1)) (hsub : ∀ x ∈ E, x ∈ E2) (hgk : ∀ s, s < 9 → gok (B0 ++ E) (es s) (n s))  {z1 z2 : Int32} {w1 w2 : va_W} (h1 : (fun z w => ((¬ (0 ≤ s9 ∧ s9 ≤ 7)) ∧ z = iI (-2) ∧ w = cw g q u la NX n es) ∨ (¬ (¬ (0 ≤ s9 ∧ s9 ≤ 7)) ∧ ∃ (e2 : Nat → Int) (n2 : Nat), Cmp ((last : Nat) : Int) (es s9.toNat) (n s9.toNat) e2 n2 ∧ z = iI ((n2 / 2 : Nat) : Int) ∧ w = cw g q u la NX (va_up n s9.toNat (n2)) (va_up es s9.toNat (e2)))) z1 w1) (h2 : (fun z w => (¬ (0 ≤ s9 ∧ s9 ≤ 7) ∧ z = iI (-2) ∧ w = [(r 0, .inr (4, [.int (iI ut), .int (iI uc), .int (iI la), .int (iI wo), .ref (r 1), .ref (r 2), .ref (r 3), .int (iI ms), .ref (r 4)])), (r 1, .inl (zJ g, 139264, .inr (.inl (lA bw)))), (r 2, .inl (zBt g, 12544, .inl (ai kF))), (r 3, .inl (zI g, 4, .inl (ai mt))), (r 4, .inl (zI g, 14, .inl (ai PT)))]) ∨ (0 ≤ s9 ∧ s9 ≤ 7 ∧ ∃ b2 : Nat → Nat, w = [(r 0, .inr (4, [.int (iI ut), .int (iI uc), .int (iI la), .int (iI wo), .ref (r 1), .ref (r 2), .ref (r 3), .int (iI ms), .ref (r 4)])), (r 1, .inl (zJ g, 139264, .inr (.inl (lA b2)))), (r 2, .inl (zBt g, 12544, .inl (ai kF))), (r 3, .inl (zI g, 4, .inl (ai mt))), (r 4, .inl (zI g, 14, .inl (ai PT)))] ∧ chg bw b2 s9.toNat (last + 1) (fun c => !bt bw s9.toNat c) ∧ z = iI (((cnt (rst (fun c => !bt bw s9.toNat c)) (last + 1) : Nat) : Int)))) z2 w2) : z1 = z2 ∧ ∃ (n2 : Nat → Nat) (es2 : Nat → Nat → Int) (b2 : Nat → Nat) (mt2 : Nat → Int) (ms2 : Int), w1 = cw g q u la NX n2 es2 ∧ w2 = rwW g r ut uc la wo b2 mt2 ms2 ∧ INV last (kc + 1) n2 es2 b2 := by
  obtain ⟨hla, hl2, hl3, huc, hut1, hut⟩ := mode_last hM
  have hl : last ≤ 1114111 := by omega
  have hInv : INV last (kc + 1) n es bw := ⟨hbw, hrep, E, by omega, hgk⟩
  rcases h1 with ⟨f1, rfl, rfl⟩ | ⟨g1, e2, n2, hI, rfl, rfl⟩ <;> rcases h2 with ⟨f2, rfl, rfl⟩ | ⟨g2, g3, b2, rfl, hc, rfl⟩
  · exact ⟨rfl, n, es, bw, mt, ms, rfl, rfl, hInv⟩
  · exfalso; omega
  · exfalso; omega
  · have hr := Cmp_rep (hrep s9.toNat (by omega)) hI
    have hB : ∀ i, i < n2 → e2 i ∈ B0 ++ E2 := Cmp_B hI _ (fun i hi => app_mono hsub _ ((hgk s9.toNat (by omega)).2.2 i hi)) B0_0 (by have := B0_last hl3; rw [hla] at this; exact List.mem_append_left _ this)
    exact ⟨rc_eq hr, _, _, b2, mt, ms, rfl, rfl, INV_up hl hrep hgk hsub hE2 hc hr (gok_rep hl hr hB)⟩
set_option maxHeartbeats 4000000 in
theorem st_join {g : zG} {q r : Nat → Nat} {last nw : Nat} {u ut uc la wo : Int} {NX : Nat → Int} {n : Nat → Nat} {es : Nat → Nat → Int} {bw : Nat → Nat} {mt : Nat → Int} {ms : Int} {kc : Nat} {s9 t9 : Int} (hM : MODE last nw u ut uc la wo NX) (hrep : ∀ s, s < 8 → rep last (es s) (n s) (bt bw s)) (hbw : ∀ j, bw j < 18446744073709551616) {E E2 : List Int} (hE : E.length ≤ 2 * kc) (hE2 : E2.length ≤ 2 * (kc + 1)) (hsub : ∀ x ∈ E, x ∈ E2) (hgk : ∀ s, s < 9 → gok (B0 ++ E) (es s) (n s))  {z1 z2 : Int32} {w1 w2 : va_W} (h1 : (fun z w => ((¬ (0 ≤ s9 ∧ s9 ≤ 7) ∨ ¬ (0 ≤ t9 ∧ t9 ≤ 7)) ∧ z = iI (-2) ∧ w = cw g q u la NX n es) ∨ (¬ (¬ (0 ≤ s9 ∧ s9 ≤ 7) ∨ ¬ (0 ≤ t9 ∧ t9 ≤ 7)) ∧ ∃ (e2 : Nat → Int) (n2 : Nat), ((s9 = t9 ∧ e2 = es s9.toNat ∧ n2 = n s9.toNat) ∨ (¬ s9 = t9 ∧ IA (es s9.toNat) (n s9.toNat) (es t9.toNat) (n t9.toNat / 2) e2 n2)) ∧ z = iI ((n2 / 2 : Nat) : Int) ∧ w = cw g q u la NX (va_up n s9.toNat (n2)) (va_up es s9.toNat (e2)))) z1 w1) (h2 : (fun z w => ((¬ (0 ≤ s9 ∧ s9 ≤ 7) ∨ ¬ (0 ≤ t9 ∧ t9 ≤ 7)) ∧ z = iI (-2) ∧ w = [(r 0, .inr (4, [.int (iI ut), .int (iI uc), .int (iI la), .int (iI wo), .ref (r 1), .ref (r 2), .ref (r 3), .int (iI ms), .ref (r 4)])), (r 1, .inl (zJ g, 139264, .inr (.inl (lA bw)))), (r 2, .inl (zBt g, 12544, .inl (ai kF))), (r 3, .inl (zI g, 4, .inl (ai mt))), (r 4, .inl (zI g, 14, .inl (ai PT)))]) ∨ (¬ (¬ (0 ≤ s9 ∧ s9 ≤ 7) ∨ ¬ (0 ≤ t9 ∧ t9 ≤ 7)) ∧ ∃ b2 : Nat → Nat, w = [(r 0, .inr (4, [.int (iI ut), .int (iI uc), .int (iI la), .int (iI wo), .ref (r 1), .ref (r 2), .ref (r 3), .int (iI ms), .ref (r 4)])), (r 1, .inl (zJ g, 139264, .inr (.inl (lA b2)))), (r 2, .inl (zBt g, 12544, .inl (ai kF))), (r 3, .inl (zI g, 4, .inl (ai mt))), (r 4, .inl (zI g, 14, .inl (ai PT)))] ∧ chg bw b2 s9.toNat (last + 1) (fun c => bt bw s9.toNat c || bt bw t9.toNat c) ∧ z = iI ((cnt (rst (fun c => bt bw s9.toNat c || bt bw t9.toNat c)) (last + 1) : Nat) : Int))) z2 w2) : z1 = z2 ∧ ∃ (n2 : Nat → Nat) (es2 : Nat → Nat → Int) (b2 : Nat → Nat) (mt2 : Nat → Int) (ms2 : Int), w1 = cw g q u la NX n2 es2 ∧ w2 = rwW g r ut uc la wo b2 mt2 ms2 ∧ INV last (kc + 1) n2 es2 b2 := by
  obtain ⟨hla, hl2, hl3, huc, hut1, hut⟩ := mode_last hM
  have hl : last ≤ 1114111 := by omega
  have hInv : INV last (kc + 1) n es bw := ⟨hbw, hrep, E, by omega, hgk⟩
  rcases h1 with ⟨f1, rfl, rfl⟩ | ⟨g1, e2, n2, hI, rfl, rfl⟩ <;> rcases h2 with ⟨f2, rfl, rfl⟩ | ⟨g2, b2, rfl, hc, rfl⟩
  · exact ⟨rfl, n, es, bw, mt, ms, rfl, rfl, hInv⟩
  · exfalso; omega
  · exfalso; omega
  · have hr : rep last e2 n2 (fun c => bt bw s9.toNat c || bt bw t9.toNat c) := by
      rcases hI with ⟨e9, rfl, rfl⟩ | ⟨e9, hI⟩
      · refine rep_congr (hrep s9.toNat (by omega)) (fun c _ => ?_)
        rw [e9, Bool.or_self]
      · exact IA_join (hrep s9.toNat (by omega)) (hrep t9.toNat (by omega)) hI
    have hB : ∀ i, i < n2 → e2 i ∈ B0 ++ E2 := by
      rcases hI with ⟨e9, rfl, rfl⟩ | ⟨e9, hI⟩
      · exact fun i hi => app_mono hsub _ ((hgk s9.toNat (by omega)).2.2 i hi)
      · exact IA_B _ (fun i hi => app_mono hsub _ ((hgk s9.toNat (by omega)).2.2 i hi)) (fun i hi => app_mono hsub _ ((hgk t9.toNat (by omega)).2.2 i hi)) hI (by omega)
    exact ⟨rc_eq hr, _, _, b2, mt, ms, rfl, rfl, INV_up hl hrep hgk hsub hE2 hc hr (gok_rep hl hr hB)⟩
set_option maxHeartbeats 4000000 in
theorem st_meets {g : zG} {q r : Nat → Nat} {last nw : Nat} {u ut uc la wo : Int} {NX : Nat → Int} {n : Nat → Nat} {es : Nat → Nat → Int} {bw : Nat → Nat} {mt : Nat → Int} {ms : Int} {kc : Nat} {s9 t9 : Int} (hM : MODE last nw u ut uc la wo NX) (hrep : ∀ s, s < 8 → rep last (es s) (n s) (bt bw s)) (hbw : ∀ j, bw j < 18446744073709551616) {E E2 : List Int} (hE : E.length ≤ 2 * kc) (hE2 : E2.length ≤ 2 * (kc + 1)) (hsub : ∀ x ∈ E, x ∈ E2) (hgk : ∀ s, s < 9 → gok (B0 ++ E) (es s) (n s))  {z1 z2 : Int32} (h1 : (fun z => ((¬ (0 ≤ s9 ∧ s9 ≤ 7) ∨ ¬ (0 ≤ t9 ∧ t9 ≤ 7)) ∧ z = iI (-2)) ∨ (¬ (¬ (0 ≤ s9 ∧ s9 ≤ 7) ∨ ¬ (0 ≤ t9 ∧ t9 ≤ 7)) ∧ (((∃ i, 2 * i + 1 < n s9.toNat ∧ hit (es s9.toNat) (es t9.toNat) (n t9.toNat) i) ∧ z = iI 1) ∨ (¬ (∃ i, 2 * i + 1 < n s9.toNat ∧ hit (es s9.toNat) (es t9.toNat) (n t9.toNat) i) ∧ z = iI 0)))) z1) (h2 : (fun z => ((¬ (0 ≤ s9 ∧ s9 ≤ 7) ∨ ¬ (0 ≤ t9 ∧ t9 ≤ 7)) ∧ z = iI (-2)) ∨ (¬ (¬ (0 ≤ s9 ∧ s9 ≤ 7) ∨ ¬ (0 ≤ t9 ∧ t9 ≤ 7)) ∧ (((∀ c, c < last + 1 → (bt bw s9.toNat c && bt bw t9.toNat c) = false) ∧ z = iI 0) ∨ (¬ (∀ c, c < last + 1 → (bt bw s9.toNat c && bt bw t9.toNat c) = false) ∧ z = iI 1)))) z2) : z1 = z2 := by
  obtain ⟨hla, hl2, hl3, huc, hut1, hut⟩ := mode_last hM
  have hl : last ≤ 1114111 := by omega
  have hInv : INV last (kc + 1) n es bw := ⟨hbw, hrep, E, by omega, hgk⟩
  rcases h1 with ⟨f1, rfl⟩ | ⟨g1, h1⟩ <;> rcases h2 with ⟨f2, rfl⟩ | ⟨g2, h2⟩
  · rfl
  · exfalso; omega
  · exfalso; omega
  · have hi := hit_iff (hrep s9.toNat (by omega)) (hrep t9.toNat (by omega))
    rcases h1 with ⟨a1, rfl⟩ | ⟨a1, rfl⟩ <;> rcases h2 with ⟨a2, rfl⟩ | ⟨a2, rfl⟩
    · exact absurd a2 (hi.mp a1)
    · rfl
    · rfl
    · exact absurd (hi.mpr a2) a1
set_option maxHeartbeats 4000000 in
theorem st_same {g : zG} {q r : Nat → Nat} {last nw : Nat} {u ut uc la wo : Int} {NX : Nat → Int} {n : Nat → Nat} {es : Nat → Nat → Int} {bw : Nat → Nat} {mt : Nat → Int} {ms : Int} {kc : Nat} {s9 t9 : Int} (hM : MODE last nw u ut uc la wo NX) (hrep : ∀ s, s < 8 → rep last (es s) (n s) (bt bw s)) (hbw : ∀ j, bw j < 18446744073709551616) {E E2 : List Int} (hE : E.length ≤ 2 * kc) (hE2 : E2.length ≤ 2 * (kc + 1)) (hsub : ∀ x ∈ E, x ∈ E2) (hgk : ∀ s, s < 9 → gok (B0 ++ E) (es s) (n s))  {z1 z2 : Int32} (h1 : (fun z => ((¬ (0 ≤ s9 ∧ s9 ≤ 7) ∨ ¬ (0 ≤ t9 ∧ t9 ≤ 7)) ∧ z = iI (-2)) ∨ (¬ (¬ (0 ≤ s9 ∧ s9 ≤ 7) ∨ ¬ (0 ≤ t9 ∧ t9 ≤ 7)) ∧ (((n s9.toNat = n t9.toNat ∧ ∀ i, i < n s9.toNat → es s9.toNat i = es t9.toNat i) ∧ z = iI 1) ∨ (¬ (n s9.toNat = n t9.toNat ∧ ∀ i, i < n s9.toNat → es s9.toNat i = es t9.toNat i) ∧ z = iI 0)))) z1) (h2 : (fun z => ((¬ (0 ≤ s9 ∧ s9 ≤ 7) ∨ ¬ (0 ≤ t9 ∧ t9 ≤ 7)) ∧ z = iI (-2)) ∨ (¬ (¬ (0 ≤ s9 ∧ s9 ≤ 7) ∨ ¬ (0 ≤ t9 ∧ t9 ≤ 7)) ∧ (((∀ c, c < last + 1 → (bt bw s9.toNat c ^^ bt bw t9.toNat c) = false) ∧ z = iI 1) ∨ (¬ (∀ c, c < last + 1 → (bt bw s9.toNat c ^^ bt bw t9.toNat c) = false) ∧ z = iI 0)))) z2) : z1 = z2 := by
  obtain ⟨hla, hl2, hl3, huc, hut1, hut⟩ := mode_last hM
  have hl : last ≤ 1114111 := by omega
  have hInv : INV last (kc + 1) n es bw := ⟨hbw, hrep, E, by omega, hgk⟩
  rcases h1 with ⟨f1, rfl⟩ | ⟨g1, h1⟩ <;> rcases h2 with ⟨f2, rfl⟩ | ⟨g2, h2⟩
  · rfl
  · exfalso; omega
  · exfalso; omega
  · have hi := same_iff (hrep s9.toNat (by omega)) (hrep t9.toNat (by omega))
    rcases h1 with ⟨a1, rfl⟩ | ⟨a1, rfl⟩ <;> rcases h2 with ⟨a2, rfl⟩ | ⟨a2, rfl⟩
    · rfl
    · exact absurd (hi.mp a1) a2
    · exact absurd (hi.mpr a2) a1
    · rfl
set_option maxHeartbeats 4000000 in
theorem st_has {g : zG} {q r : Nat → Nat} {last nw : Nat} {u ut uc la wo : Int} {NX : Nat → Int} {n : Nat → Nat} {es : Nat → Nat → Int} {bw : Nat → Nat} {mt : Nat → Int} {ms : Int} {kc : Nat} {s9 c : Int} (hM : MODE last nw u ut uc la wo NX) (hrep : ∀ s, s < 8 → rep last (es s) (n s) (bt bw s)) (hbw : ∀ j, bw j < 18446744073709551616) {E E2 : List Int} (hE : E.length ≤ 2 * kc) (hE2 : E2.length ≤ 2 * (kc + 1)) (hsub : ∀ x ∈ E, x ∈ E2) (hgk : ∀ s, s < 9 → gok (B0 ++ E) (es s) (n s))  {z1 z2 : Int32} (h1 : (fun z => ((¬ (0 ≤ s9 ∧ s9 ≤ 7)) ∧ z = iI (-2)) ∨ (¬ (¬ (0 ≤ s9 ∧ s9 ≤ 7)) ∧ (((∃ k, Up (es s9.toNat) (n s9.toNat) c k ∧ k % 2 = 1) ∧ z = iI 1) ∨ (¬ (∃ k, Up (es s9.toNat) (n s9.toNat) c k ∧ k % 2 = 1) ∧ z = iI 0)))) z1) (h2 : (fun z => ((¬ (0 ≤ s9 ∧ s9 ≤ 7)) ∧ z = iI (-2)) ∨ (¬ (¬ (0 ≤ s9 ∧ s9 ≤ 7)) ∧ (((0 ≤ c ∧ c ≤ la ∧ bt bw s9.toNat c.toNat = true) ∧ z = iI 1) ∨ (¬ (0 ≤ c ∧ c ≤ la ∧ bt bw s9.toNat c.toNat = true) ∧ z = iI 0)))) z2) : z1 = z2 := by
  obtain ⟨hla, hl2, hl3, huc, hut1, hut⟩ := mode_last hM
  have hl : last ≤ 1114111 := by omega
  have hInv : INV last (kc + 1) n es bw := ⟨hbw, hrep, E, by omega, hgk⟩
  rcases h1 with ⟨f1, rfl⟩ | ⟨g1, h1⟩ <;> rcases h2 with ⟨f2, rfl⟩ | ⟨g2, h2⟩
  · rfl
  · exfalso; omega
  · exfalso; omega
  · have hi := rep_in0 (hrep s9.toNat (by omega)) (c := c)
    rw [← hla] at hi
    rcases h1 with ⟨a1, rfl⟩ | ⟨a1, rfl⟩ <;> rcases h2 with ⟨a2, rfl⟩ | ⟨a2, rfl⟩
    · rfl
    · exact absurd (hi.mp a1) a2
    · exact absurd (hi.mpr a2) a1
    · rfl
set_option maxHeartbeats 4000000 in
theorem st_size {g : zG} {q r : Nat → Nat} {last nw : Nat} {u ut uc la wo : Int} {NX : Nat → Int} {n : Nat → Nat} {es : Nat → Nat → Int} {bw : Nat → Nat} {mt : Nat → Int} {ms : Int} {kc : Nat} {s9 : Int} (hM : MODE last nw u ut uc la wo NX) (hrep : ∀ s, s < 8 → rep last (es s) (n s) (bt bw s)) (hbw : ∀ j, bw j < 18446744073709551616) {E E2 : List Int} (hE : E.length ≤ 2 * kc) (hE2 : E2.length ≤ 2 * (kc + 1)) (hsub : ∀ x ∈ E, x ∈ E2) (hgk : ∀ s, s < 9 → gok (B0 ++ E) (es s) (n s))  {z1 z2 : Int32} (h1 : (fun z => ((¬ (0 ≤ s9 ∧ s9 ≤ 7)) ∧ z = iI (-2)) ∨ (¬ (¬ (0 ≤ s9 ∧ s9 ≤ 7)) ∧ z = iI (msum (es s9.toNat) (n s9.toNat / 2)))) z1) (h2 : (fun z => ((¬ (0 ≤ s9 ∧ s9 ≤ 7)) ∧ z = iI (-2)) ∨ (¬ (¬ (0 ≤ s9 ∧ s9 ≤ 7)) ∧ z = iI ((cnt (bt bw s9.toNat) (last + 1) : Nat) : Int))) z2) : z1 = z2 := by
  obtain ⟨hla, hl2, hl3, huc, hut1, hut⟩ := mode_last hM
  have hl : last ≤ 1114111 := by omega
  have hInv : INV last (kc + 1) n es bw := ⟨hbw, hrep, E, by omega, hgk⟩
  rcases h1 with ⟨f1, rfl⟩ | ⟨g1, rfl⟩ <;> rcases h2 with ⟨f2, rfl⟩ | ⟨g2, rfl⟩
  · rfl
  · exfalso; omega
  · exfalso; omega
  · rw [rep_mc (hrep s9.toNat (by omega))]
set_option maxHeartbeats 4000000 in
theorem st_least {g : zG} {q r : Nat → Nat} {last nw : Nat} {u ut uc la wo : Int} {NX : Nat → Int} {n : Nat → Nat} {es : Nat → Nat → Int} {bw : Nat → Nat} {mt : Nat → Int} {ms : Int} {kc : Nat} {s9 c : Int} (hM : MODE last nw u ut uc la wo NX) (hrep : ∀ s, s < 8 → rep last (es s) (n s) (bt bw s)) (hbw : ∀ j, bw j < 18446744073709551616) {E E2 : List Int} (hE : E.length ≤ 2 * kc) (hE2 : E2.length ≤ 2 * (kc + 1)) (hsub : ∀ x ∈ E, x ∈ E2) (hgk : ∀ s, s < 9 → gok (B0 ++ E) (es s) (n s))  {z1 z2 : Int32} (h1 : (fun z => ((¬ (0 ≤ s9 ∧ s9 ≤ 7)) ∧ z = iI (-2)) ∨ (¬ (¬ (0 ≤ s9 ∧ s9 ≤ 7)) ∧ ∃ m9 : Int, z = iI m9 ∧ FF (es s9.toNat) (n s9.toNat) c m9)) z1) (h2 : (fun z => ((¬ (0 ≤ s9 ∧ s9 ≤ 7)) ∧ z = iI (-2)) ∨ (¬ (¬ (0 ≤ s9 ∧ s9 ≤ 7)) ∧ ∃ m9 : Int, z = iI m9 ∧ Lst last (bt bw s9.toNat) c m9)) z2) : z1 = z2 := by
  obtain ⟨hla, hl2, hl3, huc, hut1, hut⟩ := mode_last hM
  have hl : last ≤ 1114111 := by omega
  have hInv : INV last (kc + 1) n es bw := ⟨hbw, hrep, E, by omega, hgk⟩
  rcases h1 with ⟨f1, rfl⟩ | ⟨g1, m1, rfl, a1⟩ <;> rcases h2 with ⟨f2, rfl⟩ | ⟨g2, m2, rfl, a2⟩
  · rfl
  · exfalso; omega
  · exfalso; omega
  · rw [Lst_eq (FF_lst (hrep s9.toNat (by omega)) a1) a2]
set_option maxHeartbeats 4000000 in
theorem st_bound {g : zG} {q r : Nat → Nat} {last nw : Nat} {u ut uc la wo : Int} {NX : Nat → Int} {n : Nat → Nat} {es : Nat → Nat → Int} {bw : Nat → Nat} {mt : Nat → Int} {ms : Int} {kc : Nat} {s9 k en : Int} (hM : MODE last nw u ut uc la wo NX) (hrep : ∀ s, s < 8 → rep last (es s) (n s) (bt bw s)) (hbw : ∀ j, bw j < 18446744073709551616) {E E2 : List Int} (hE : E.length ≤ 2 * kc) (hE2 : E2.length ≤ 2 * (kc + 1)) (hsub : ∀ x ∈ E, x ∈ E2) (hgk : ∀ s, s < 9 → gok (B0 ++ E) (es s) (n s)) (hen : en = 0 ∨ en = 1) {z1 z2 : Int32} (h1 : (fun z => ((¬ (0 ≤ s9 ∧ s9 ≤ 7) ∨ k < 0 ∨ ((n s9.toNat / 2 : Nat) : Int) ≤ k) ∧ z = iI (-2)) ∨ (¬ (¬ (0 ≤ s9 ∧ s9 ≤ 7) ∨ k < 0 ∨ ((n s9.toNat / 2 : Nat) : Int) ≤ k) ∧ ((en = 0 ∧ z = iI (es s9.toNat (2 * k.toNat))) ∨ (¬ en = 0 ∧ z = iI (es s9.toNat (2 * k.toNat + 1) - 1))))) z1) (h2 : (fun z => ((¬ (0 ≤ s9 ∧ s9 ≤ 7) ∨ k < 0 ∨ ((n s9.toNat : Nat) : Int) ≤ 2 * k) ∧ z = iI (-2)) ∨ (¬ (¬ (0 ≤ s9 ∧ s9 ≤ 7) ∨ k < 0 ∨ ((n s9.toNat : Nat) : Int) ≤ 2 * k) ∧ ((en = 0 ∧ z = iI (es s9.toNat (2 * k.toNat))) ∨ (¬ en = 0 ∧ z = iI (es s9.toNat (2 * k.toNat + 1) - 1))))) z2) : z1 = z2 := by
  obtain ⟨hla, hl2, hl3, huc, hut1, hut⟩ := mode_last hM
  have hl : last ≤ 1114111 := by omega
  have hInv : INV last (kc + 1) n es bw := ⟨hbw, hrep, E, by omega, hgk⟩
  have hev : 0 ≤ s9 ∧ s9 ≤ 7 → n s9.toNat % 2 = 0 := fun h9 => (hrep s9.toNat (by omega)).2.1
  rcases h1 with ⟨f1, rfl⟩ | ⟨g1, h1⟩ <;> rcases h2 with ⟨f2, rfl⟩ | ⟨g2, h2⟩
  · rfl
  · exfalso; omega
  · exfalso; omega
  · rcases h1 with ⟨a1, rfl⟩ | ⟨a1, rfl⟩ <;> rcases h2 with ⟨a2, rfl⟩ | ⟨a2, rfl⟩
    · rfl
    · exact absurd a1 a2
    · exact absurd a2 a1
    · rfl
set_option maxHeartbeats 4000000 in
theorem st_about {g : zG} {q r : Nat → Nat} {last nw : Nat} {u ut uc la wo : Int} {NX : Nat → Int} {n : Nat → Nat} {es : Nat → Nat → Int} {bw : Nat → Nat} {mt : Nat → Int} {ms : Int} {kc : Nat} {c w9 : Int} (hM : MODE last nw u ut uc la wo NX) (hrep : ∀ s, s < 8 → rep last (es s) (n s) (bt bw s)) (hbw : ∀ j, bw j < 18446744073709551616) {E E2 : List Int} (hE : E.length ≤ 2 * kc) (hE2 : E2.length ≤ 2 * (kc + 1)) (hsub : ∀ x ∈ E, x ∈ E2) (hgk : ∀ s, s < 9 → gok (B0 ++ E) (es s) (n s))  {z1 z2 : Int32} {w2 : va_W} (h1 : (fun z => z = iI (abC NX la c w9)) z1) (h2 : (fun z w => ∃ (m9 : Nat → Int) (n9 : Int), w = [(r 0, .inr (4, [.int (iI ut), .int (iI uc), .int (iI la), .int (iI wo), .ref (r 1), .ref (r 2), .ref (r 3), .int (iI n9), .ref (r 4)])), (r 1, .inl (zJ g, 139264, .inr (.inl (lA bw)))), (r 2, .inl (zBt g, 12544, .inl (ai kF))), (r 3, .inl (zI g, 4, .inl (ai m9))), (r 4, .inl (zI g, 14, .inl (ai PT)))] ∧ z = iI (abF ut uc la c w9)) z2 w2) : z1 = z2 ∧ ∃ (mt2 : Nat → Int) (ms2 : Int), w2 = rwW g r ut uc la wo bw mt2 ms2 := by
  obtain ⟨hla, hl2, hl3, huc, hut1, hut⟩ := mode_last hM
  have hl : last ≤ 1114111 := by omega
  have hInv : INV last (kc + 1) n es bw := ⟨hbw, hrep, E, by omega, hgk⟩
  obtain ⟨m9, n9, rfl, rfl⟩ := h2
  exact ⟨by rw [h1, about_eq hM], m9, n9, rfl⟩
