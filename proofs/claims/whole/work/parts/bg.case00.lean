set_option maxHeartbeats 4000000 in
set_option maxRecDepth 100000 in
theorem law_clear {p : Program} {l : Launch} {e : Env} {s : State} {m : MethodId} {below : List Frame} {meth : Method} {c : Code} {g : zG} {b L : Nat} {xs : Nat → Int32} (hL : L ≤ 2561) (C0 : lw_At p s m meth c b L xs) (hK : va_K g.1 classes (tz g) s) (hZ : stz g (fun x : Nat => s.heap.size ≤ x) s s.heap) {q r : Nat → Nat} (hZD : ZD (fun x : Nat => s.heap.size ≤ x) q r) {last nw : Nat} {u ut uc la wo : Int} {NX : Nat → Int} (hM : MODE last nw u ut uc la wo NX) {i kc : Nat} (hi : i + 5 ≤ L) (hkc : kc < 512) {n : Nat → Nat} {es : Nat → Nat → Int} {bw : Nat → Nat} {mt : Nat → Int} {ms : Int} (hI : INV last kc n es bw) {H : Heap} {locs : List Loc} (hPc : va_P g.1 classes (cw g q u la NX n es) H) (hPr : va_P g.1 classes (rwW g r ut uc la wo bw mt ms) H) (hS : va_S (fun x : Nat => s.heap.size ≤ x) s.heap H locs) {ls : Array Slot} (hl : lv_has ls 4 [(0, .ref b), (1, .ref (q 0)), (2, .ref (r 0)), (3, .int (iI ((i : Nat) : Int)))]) (K : ∀ (n : Nat → Nat) (es : Nat → Nat → Int) (bw : Nat → Nat) (mt : Nat → Int) (ms : Int) (H : Heap) (locs : List Loc), INV last (kc + 1) n es bw → va_P g.1 classes (cw g q u la NX n es) H → va_P g.1 classes (rwW g r ut uc la wo bw mt ms) H → va_S (fun x : Nat => s.heap.size ≤ x) s.heap H locs → W p l e room_1 s m #[Value.ref b] below meth c H locs 31 172963 (lw_Z below #[Value.ref b] s) (F0 m 674 ls [])) : W p l e room_1 s m #[Value.ref b] below meth c H locs 31 172963 (lw_Z below #[Value.ref b] s) (F0 m 112 ls []) := by
  obtain ⟨hx, hb, hr, hml, hown, hts, hX, hbl, hlocks, hgv⟩ := C0
  have ht : ∀ w ∈ lw_ok, w.before #[Value.ref b] s = true := fun w h => hts w (List.mem_filter.mp h).1
  have hA : ∀ x : Nat, s.heap.size ≤ x → (fun x : Nat => s.heap.size ≤ x) x := fun _ h => h
  have hbA : ¬ (fun x : Nat => s.heap.size ≤ x) b := Nat.not_le.mpr hbl
  obtain ⟨hbw, hrep, E, hE, hgk⟩ := id hI
  obtain ⟨hla, hl2, hl3, huc, hut1, hut⟩ := mode_last hM
  have hring := mode_ring hM
  have huu : u = uc := hM.1.2.2.2.2
  have hbl0 := B0_len
  obtain ⟨z1, hz1, hzb1⟩ := iI_of (xs (i + 1))
  obtain ⟨E2, hE2e⟩ : ∃ E2 : List Int, E2 = E := ⟨_, rfl⟩
  have hsub : ∀ x ∈ E, x ∈ E2 := fun x hx9 => by rw [hE2e]; exact hx9
  have hE2 : E2.length ≤ 2 * (kc + 1) := by rw [hE2e]; omega
  have hgk2 : ∀ s, s < 9 → gok (B0 ++ E2) (es s) (n s) := fun s hs => gok_mono (hgk s hs) (app_mono hsub)
  have hBl : (B0 ++ E2).length ≤ 2046 := by rw [List.length_append, hbl0]; omega
  refine lv_aload_n hx hb d_LA_law_112 rfl (lv_at hl 1 rfl) ?_
  refine lv_aload_n hx hb d_LA_law_113 rfl (lv_at hl 0 rfl) ?_
  refine lv_iload_n hx hb d_LA_law_114 rfl (lv_at hl 3 rfl) ?_
  refine lv_iconst (v := iI 1) hx hb d_LA_law_115 rfl ?_
  refine ix_iadd hx hb d_LA_law_116 ?_
  refine ix_sld hx hb hX hbl hbA hS (z := ((i : Nat) : Int) + 1) (i + 1) (by omega) d_LA_law_117 ?_
  rw [hz1]
  have hF1 := zf_c hZD hS hA (g := g) (u := u) (la := la) (NX := NX) (n := n) (es := es)
  refine zcVi (ci := 0) (q0 := 0) (As := [.int (iI z1)]) (rest := []) ⟨hx, hb, hml, hown, ht⟩ v_LA_21 (c_CS_clear l g H.size q u la NX n es z1 (by omega)) ⟨Nat.le_of_ble_eq_true rfl, Nat.le_of_ble_eq_true rfl⟩ ⟨Nat.le_of_ble_eq_true rfl, Nat.le_of_ble_eq_true rfl⟩ hK hZ hS hPc ((zd_c hZD).weaken (fun _ _ _ _ => trivial)) hF1 zP_nil zAp_nil rfl rfl rfl rfl hl.1 rfl (Nat.le_of_ble_eq_true rfl) d_LA_law_118 (fun a1 w1 H1 locs1 g1 pp1 dd1 zz1 kk1 hS => ?_)
  have hlt1 := fun (k : Nat) (x : Nat × va_E) (hx9 : (rwW g r ut uc la wo bw mt ms)[k]? = some x) => (hPr k x hx9).lt
  have hPr0 := hPr
  have hPr := zk_r hZD hPr kk1
  refine lv_aload_n hx hb d_LA_law_121 rfl (lv_at hl 2 rfl) ?_
  refine lv_aload_n hx hb d_LA_law_122 rfl (lv_at hl 0 rfl) ?_
  refine lv_iload_n hx hb d_LA_law_123 rfl (lv_at hl 3 rfl) ?_
  refine lv_iconst (v := iI 1) hx hb d_LA_law_124 rfl ?_
  refine ix_iadd hx hb d_LA_law_125 ?_
  refine ix_sld hx hb hX hbl hbA hS (z := ((i : Nat) : Int) + 1) (i + 1) (by omega) d_LA_law_126 ?_
  rw [hz1]
  have hF2 := zf_r hZD hS hA (g := g) (ut := ut) (uc := uc) (la := la) (wo := wo) (bw := bw) (mt := mt) (ms := ms)
  have hlt := fun (k : Nat) (x : Nat × va_E) (hx9 : (rwW g r ut uc la wo bw mt ms)[k]? = some x) => (hPr k x hx9).lt
  refine zcVi (ci := 4) (q0 := 0) (As := [.int (iI z1)]) (rest := [.int a1]) ⟨hx, hb, hml, hown, ht⟩ v_LA_25 (c_MO_clear l g H1.size r ut uc la wo bw mt ms z1 (by omega) nw last hM.1.2.1 hM.1.2.2.2.1 hla hM.1.2.2.1 hbw) ⟨Nat.le_of_ble_eq_true rfl, Nat.le_of_ble_eq_true rfl⟩ ⟨Nat.le_of_ble_eq_true rfl, Nat.le_of_ble_eq_true rfl⟩ hK hZ hS hPr ((zd_r hZD).weaken (fun _ _ _ _ => trivial)) hF2 zP_nil zAp_nil rfl rfl rfl rfl hl.1 rfl (Nat.le_of_ble_eq_true rfl) d_LA_law_127 (fun a2 w2 H2 locs2 g2 pp2 dd2 zz2 kk2 hS => ?_)
  have pp1 := zk_w hZD hPr0 hlt1 zz1 dd1 pp1 kk2
  obtain ⟨rfl, n2, es2, b2, mt2, ms2, rfl, rfl, hI2⟩ := st_clear (g := g) (q := q) (r := r) (mt := mt) (ms := ms) hM hrep hbw hE hE2 hsub hgk  g1 g2
  exact lv_icmp_eq (tgt := 674) hx hb d_LA_law_130 (by decide) (fun _ => K n2 es2 b2 mt2 ms2 _ _ hI2 pp1 pp2 hS) (fun c9 => absurd rfl c9)
