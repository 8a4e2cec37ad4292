set_option maxHeartbeats 4000000 in
set_option maxRecDepth 100000 in
theorem law_loop {p : Program} {l : Launch} {e : Env} {s : State} {m : MethodId} {below : List Frame} {meth : Method} {c : Code} {g : zG} {b L : Nat} {xs : Nat → Int32} (hL : L ≤ 2561) (C0 : lw_At p s m meth c b L xs) (hK : va_K g.1 classes (tz g) s) (hZ : stz g (fun x : Nat => s.heap.size ≤ x) s s.heap) {q r : Nat → Nat} (hZD : ZD (fun x : Nat => s.heap.size ≤ x) q r) {last nw : Nat} {u ut uc la wo : Int} {NX : Nat → Int} (hM : MODE last nw u ut uc la wo NX) : ∀ (fu kc : Nat) (n : Nat → Nat) (es : Nat → Nat → Int) (bw : Nat → Nat) (mt : Nat → Int) (ms : Int) (H : Heap) (locs : List Loc) (ls : Array Slot), L - 5 * kc < fu → 5 * kc ≤ L → INV last kc n es bw → va_P g.1 classes (cw g q u la NX n es) H → va_P g.1 classes (rwW g r ut uc la wo bw mt ms) H → va_S (fun x : Nat => s.heap.size ≤ x) s.heap H locs → lv_has ls 4 [(0, .ref b), (1, .ref (q 0)), (2, .ref (r 0)), (3, .int (iI ((1 + 5 * kc : Nat) : Int)))] → W p l e room_1 s m #[Value.ref b] below meth c H locs 31 172963 (lw_Z below #[Value.ref b] s) (F0 m 28 ls []) := by
  obtain ⟨hx, hb, hr, hml, hown, hts, hX, hbl, hlocks, hgv⟩ := id C0
  have hbA : ¬ (fun x : Nat => s.heap.size ≤ x) b := Nat.not_le.mpr hbl
  intro fu
  induction fu with
  | zero => exact fun _ _ _ _ _ _ _ _ _ hfu _ _ _ _ _ _ => absurd hfu (Nat.not_lt_zero _)
  | succ fu ih =>
    intro kc n es bw mt ms H locs ls hfu hkc hI hPc hPr hS hl
    refine lv_iload_n hx hb d_LA_law_28 rfl (lv_at hl 3 rfl) ?_
    refine lv_aload_n hx hb d_LA_law_29 rfl (lv_at hl 0 rfl) ?_
    refine ix_slen hx hb hX hbl hbA hS d_LA_law_30 ?_
    refine lv_iconst (v := iI 5) hx hb d_LA_law_31 rfl ?_
    refine ix_isub hx hb d_LA_law_32 ?_
    refine ix_icmp_gt (tgt := 680) hx hb d_LA_law_33 (by decide) (by omega) (fun c33 => ?_) (fun c33 => ?_)
    · refine lv_iconst (v := 1) hx hb d_LA_law_680 (by decide) ?_
      refine va_forget (fun x hx9 => hS.2.2 x hx9) ?_
      refine W.widen (k := 600000) (n := 7302250) (by omega) (by omega) ?_
      exact lw_ret hx hb hr hlocks d_LA_law_681
    · have hi : 1 + 5 * kc + 5 ≤ L := by omega
      have hk5 : kc < 512 := by omega
      have K : ∀ (n : Nat → Nat) (es : Nat → Nat → Int) (bw : Nat → Nat) (mt : Nat → Int) (ms : Int) (H : Heap) (locs : List Loc), INV last (kc + 1) n es bw → va_P g.1 classes (cw g q u la NX n es) H → va_P g.1 classes (rwW g r ut uc la wo bw mt ms) H → va_S (fun x : Nat => s.heap.size ≤ x) s.heap H locs → W p l e room_1 s m #[Value.ref b] below meth c H locs 31 172963 (lw_Z below #[Value.ref b] s) (F0 m 674 ls []) := by
        intro n es bw mt ms H locs hI hPc hPr hS
        refine lv_iinc (v := iI (((1 + 5 * kc : Nat) : Int) + 5)) (lv' := [(3, .int (iI (((1 + 5 * kc : Nat) : Int) + 5))), (0, .ref b), (1, .ref (q 0)), (2, .ref (r 0))]) hx hb d_LA_law_674 hl (k := 3) rfl (iI_add _ _) (by decide) rfl (fun ls hl => ?_)
        refine lv_goto (tgt := 28) hx hb d_LA_law_677 (by decide) ?_
        exact ih (kc + 1) n es bw mt ms H locs ls (by omega) (by omega) hI hPc hPr hS (lv_sub hl [1, 2, 3, 0] rfl)
      refine lv_aload_n hx hb d_LA_law_36 rfl (lv_at hl 0 rfl) ?_
      refine lv_iload_n hx hb d_LA_law_37 rfl (lv_at hl 3 rfl) ?_
      refine ix_sld hx hb hX hbl hbA hS (z := ((1 + 5 * kc : Nat) : Int)) (1 + 5 * kc) (by omega) d_LA_law_38 ?_
      refine lv_bipush (v := iI 15) hx hb d_LA_law_39 (by decide) ?_
      refine lv_iand hx hb d_LA_law_41 ?_
      obtain ⟨w, hw, ew⟩ := and15 (xs (1 + 5 * kc))
      rw [ew]
      rcases (show w = 0 ∨ w = 1 ∨ w = 2 ∨ w = 3 ∨ w = 4 ∨ w = 5 ∨ w = 6 ∨ w = 7 ∨ w = 8 ∨ w = 9 ∨ w = 10 ∨ w = 11 ∨ w = 12 ∨ w = 13 ∨ 14 ≤ w by omega) with rfl | rfl | rfl | rfl | rfl | rfl | rfl | rfl | rfl | rfl | rfl | rfl | rfl | rfl | hw14
      · refine ix_table (tgt := 112) hx hb d_LA_law_42 (by omega) 70 (by omega) rfl (by decide) ?_
        exact law_clear hL C0 hK hZ hZD hM hi hk5 hI hPc hPr hS hl K
      · refine ix_table (tgt := 135) hx hb d_LA_law_42 (by omega) 93 (by omega) rfl (by decide) ?_
        exact law_range hL C0 hK hZ hZD hM hi hk5 hI hPc hPr hS hl K
      · refine ix_table (tgt := 178) hx hb d_LA_law_42 (by omega) 136 (by omega) rfl (by decide) ?_
        exact law_property hL C0 hK hZ hZD hM hi hk5 hI hPc hPr hS hl K
      · refine ix_table (tgt := 263) hx hb d_LA_law_42 (by omega) 221 (by omega) rfl (by decide) ?_
        exact law_named hL C0 hK hZ hZD hM hi hk5 hI hPc hPr hS hl K
      · refine ix_table (tgt := 348) hx hb d_LA_law_42 (by omega) 306 (by omega) rfl (by decide) ?_
        exact law_close hL C0 hK hZ hZD hM hi hk5 hI hPc hPr hS hl K
      · refine ix_table (tgt := 371) hx hb d_LA_law_42 (by omega) 329 (by omega) rfl (by decide) ?_
        exact law_invert hL C0 hK hZ hZD hM hi hk5 hI hPc hPr hS hl K
      · refine ix_table (tgt := 394) hx hb d_LA_law_42 (by omega) 352 (by omega) rfl (by decide) ?_
        exact law_join hL C0 hK hZ hZD hM hi hk5 hI hPc hPr hS hl K
      · refine ix_table (tgt := 427) hx hb d_LA_law_42 (by omega) 385 (by omega) rfl (by decide) ?_
        exact law_meets hL C0 hK hZ hZD hM hi hk5 hI hPc hPr hS hl K
      · refine ix_table (tgt := 460) hx hb d_LA_law_42 (by omega) 418 (by omega) rfl (by decide) ?_
        exact law_same hL C0 hK hZ hZD hM hi hk5 hI hPc hPr hS hl K
      · refine ix_table (tgt := 493) hx hb d_LA_law_42 (by omega) 451 (by omega) rfl (by decide) ?_
        exact law_has hL C0 hK hZ hZD hM hi hk5 hI hPc hPr hS hl K
      · refine ix_table (tgt := 526) hx hb d_LA_law_42 (by omega) 484 (by omega) rfl (by decide) ?_
        exact law_size hL C0 hK hZ hZD hM hi hk5 hI hPc hPr hS hl K
      · refine ix_table (tgt := 549) hx hb d_LA_law_42 (by omega) 507 (by omega) rfl (by decide) ?_
        exact law_least hL C0 hK hZ hZD hM hi hk5 hI hPc hPr hS hl K
      · refine ix_table (tgt := 582) hx hb d_LA_law_42 (by omega) 540 (by omega) rfl (by decide) ?_
        exact law_bound hL C0 hK hZ hZD hM hi hk5 hI hPc hPr hS hl K
      · refine ix_table (tgt := 641) hx hb d_LA_law_42 (by omega) 599 (by omega) rfl (by decide) ?_
        exact law_about hL C0 hK hZ hZD hM hi hk5 hI hPc hPr hS hl K
      · refine ix_tableO (tgt := 674) hx hb d_LA_law_42 (by omega) (by omega) (by decide) ?_
        exact K n es bw mt ms H locs (INV_S hI) hPc hPr hS
