set_option maxHeartbeats 4000000 in
set_option maxRecDepth 100000 in
theorem c_MO_count (l : Launch) (g : zG) (r : Nat → Nat) (ut uc la wo : Int) (bw : Nat → Nat) (mt : Nat → Int) (ms : Int) (s9 : Nat) (nw : Nat) (hwo : wo = ((nw : Nat) : Int)) (hnw : nw ≤ 17408) (hs9 : s9 < 8) (hbw : ∀ j, bw j < 18446744073709551616) : Met l y_MO_count w_MO_count (zr 1 24) (zP g [.ref (r 0), .int (iI (((s9 : Nat) : Int)))] [(r 0, .inr (4, [.int (iI ut), .int (iI uc), .int (iI la), .int (iI wo), .ref (r 1), .ref (r 2), .ref (r 3), .int (iI ms), .ref (r 4)])), (r 1, .inl (zJ g, 139264, .inr (.inl (lA bw)))), (r 2, .inl (zBt g, 12544, .inl (ai kF))), (r 3, .inl (zI g, 4, .inl (ai mt))), (r 4, .inl (zI g, 14, .inl (ai PT)))]) (vp_Si (fun z => z = iI ((cnt (bt bw s9) (64 * nw) : Nat) : Int))) 0 0 (fun _ => False) := by
  refine Met.ofW (cc := b_MO_count) (maxL := 4) (ret := (some .int)) (by decide) rfl ?_
  intro p e s m args below meth cd s₁ B hml hv
  obtain ⟨hargs, hP, hK, hZ⟩ := hv
  have hx := B.exec
  have hb := B.bytes
  have hr := B.returns
  have ht : ∀ w ∈ lw_ok, w.before args s = true := fun w h => atoms_spec (ws := w_MO_count) B.pre w (List.mem_cons_of_mem _ h)
  have hown : s.vm.findClass R_MO = some m.cls := findClass_of_methodNamed B.named
  have hlocks := B.notSynchronized
  have hS : va_S (fun _ => False) s.heap s.heap [] := va_S.rf
  generalize hQ : MQ below _ args s 0 0 _ = Q
  have hl := lv_entry ([.ref (r 0), .int (iI (((s9 : Nat) : Int)))]) (n := 4) (Nat.le_of_ble_eq_true rfl)
  rw [show entryFrame m args 4 = entryFrame m ([.ref (r 0), .int (iI (((s9 : Nat) : Int)))] : List Value).toArray 4 by rw [hargs], lg_entry_eq]
  generalize (lg_sl ([.ref (r 0), .int (iI (((s9 : Nat) : Int)))]) ++ List.replicate (4 - (lg_sl ([.ref (r 0), .int (iI (((s9 : Nat) : Int)))])).length) Slot.unset).toArray = ls at hl ⊢
  have hl : lv_has ls 4 [(0, .ref (r 0)), (1, .int (iI (((s9 : Nat) : Int))))] := hl
  have J4 : ∀ fu : Nat, ∀ (w : Nat) (ls : Array Slot), nw - w < fu → lv_has ls 4 [(0, .ref (r 0)), (1, .int (iI (((s9 : Nat) : Int)))), (2, .int (iI ((((cnt (bt bw s9) (64 * w)) : Nat) : Int)))), (3, .int (iI (((w : Nat) : Int))))] → (w ≤ nw) → W p l e (headSpec w_MO_count (zr 1 24)).room s m args below meth cd s.heap [] 0 0 Q (F0 m 4 ls []) := by
    intro fu
    induction fu with
    | zero => exact fun _ _ hfu _ _ => absurd hfu (Nat.not_lt_zero _)
    | succ fu ih =>
      intro w ls hfu hl h1
      refine lv_iload_n hx hb d_MO_count_4 rfl (lv_at hl 3 rfl) ?_
      refine lv_aload_n hx hb d_MO_count_5 rfl (lv_at hl 0 rfl) ?_
      refine va_get (D := g.1) (ci := 4) (v := .int (iI wo)) (C := R_MO) (T := F_MO) (N := 9) hx hb ht i_MO hown hK hP 0 rfl rfl 3 (by decide) (ht _ k_421) (fun _ h9 => h9) rfl d_MO_count_6 ?_
      refine ix_icmp_ge (tgt := 37) hx hb d_MO_count_9 (by decide) (by omega) (fun c_9 => ?_) (fun c_9 => ?_)
      · obtain rfl : w = nw := by omega
        refine lv_iload_n hx hb d_MO_count_37 rfl (lv_at hl 2 rfl) ?_
        subst hQ
        exact W.iret (v := iI ((((cnt (bt bw s9) (64 * w)) : Nat) : Int))) hx hb hr (fun t h9 hW => ⟨_, rfl, rfl, h9⟩) (fun _ h9 => by cases h9) d_MO_count_38
      · refine lv_iload_n hx hb d_MO_count_12 rfl (lv_at hl 2 rfl) ?_
        refine lv_aload_n hx hb d_MO_count_13 rfl (lv_at hl 0 rfl) ?_
        refine lv_aload_n hx hb d_MO_count_14 rfl (lv_at hl 0 rfl) ?_
        refine va_get (D := g.1) (ci := 4) (v := .ref (r 1)) (C := R_MO) (T := F_MO) (N := 9) hx hb ht i_MO hown hK hP 0 rfl rfl 4 (by decide) (ht _ k_422) (fun _ h9 => h9) rfl d_MO_count_15 ?_
        refine lv_iload_n hx hb d_MO_count_18 rfl (lv_at hl 1 rfl) ?_
        refine lv_sipush (v := iI 17408) hx hb d_MO_count_19 (by decide) ?_
        refine ix_imul hx hb d_MO_count_22 ?_
        refine lv_iload_n hx hb d_MO_count_23 rfl (lv_at hl 3 rfl) ?_
        refine ix_iadd hx hb d_MO_count_24 ?_
        refine ix_lald hx hb hK hP 1 1 rfl rfl (i := (((((s9 : Nat) : Int)) * 17408) + (((w : Nat) : Int)))) ((s9 * 17408) + w) (by omega) d_MO_count_25 ?_
        refine zcV (ci := 4) (q0 := 0) (As := [.long ((lA bw) ((s9 * 17408) + w))]) (rest := [.int (iI ((((cnt (bt bw s9) (64 * w)) : Nat) : Int)))]) ⟨hx, hb, hml, hown, ht⟩ v_MO_113 (c_MO_ones l g r ut uc la wo bw mt ms (bw (s9 * 17408 + w)) (hbw _)) ⟨Nat.le_of_ble_eq_true rfl, Nat.le_of_ble_eq_true rfl⟩ ⟨Nat.zero_le _, Nat.zero_le _⟩ hK hZ hS hP rfl rfl rfl rfl hl.1 rfl (Nat.le_of_ble_eq_true rfl) d_MO_count_26 (fun r_26 h_26 => ?_)
        subst h_26
        refine ix_iadd hx hb d_MO_count_29 ?_
        refine lv_istore_n (lv' := [(2, .int (iI (((((cnt (bt bw s9) (64 * w)) : Nat) : Int)) + ((((cnt (fun i => (bw (s9 * 17408 + w)).testBit i) 64) : Nat) : Int))))), (0, .ref (r 0)), (1, .int (iI (((s9 : Nat) : Int)))), (3, .int (iI (((w : Nat) : Int))))]) hx hb d_MO_count_30 rfl hl (by decide) rfl (fun ls hl => ?_)
        refine lv_iinc (v := iI ((((w : Nat) : Int)) + 1)) (lv' := [(3, .int (iI ((((w : Nat) : Int)) + 1))), (2, .int (iI (((((cnt (bt bw s9) (64 * w)) : Nat) : Int)) + ((((cnt (fun i => (bw (s9 * 17408 + w)).testBit i) 64) : Nat) : Int))))), (0, .ref (r 0)), (1, .int (iI (((s9 : Nat) : Int))))]) hx hb d_MO_count_31 hl (k := 3) rfl (iI_add _ _) (by decide) rfl (fun ls hl => ?_)
        refine lv_goto (tgt := 4) hx hb d_MO_count_34 (by decide) ?_
        have e9 : ((cnt (bt bw s9) (64 * w) : Nat) : Int) + ((cnt (fun i => (bw (s9 * 17408 + w)).testBit i) 64 : Nat) : Int) = ((cnt (bt bw s9) (64 * (w + 1)) : Nat) : Int) := by rw [cnt_w]; omega
        rw [e9] at hl
        exact ih (w + 1) ls (by omega) (lv_sub hl [2, 3, 1, 0] rfl) (by omega)
  refine lv_iconst (v := iI 0) hx hb d_MO_count_0 rfl ?_
  refine lv_istore_n (lv' := [(2, .int (iI 0)), (0, .ref (r 0)), (1, .int (iI (((s9 : Nat) : Int))))]) hx hb d_MO_count_1 rfl hl (by decide) rfl (fun ls hl => ?_)
  refine lv_iconst (v := iI 0) hx hb d_MO_count_2 rfl ?_
  refine lv_istore_n (lv' := [(3, .int (iI 0)), (2, .int (iI 0)), (0, .ref (r 0)), (1, .int (iI (((s9 : Nat) : Int))))]) hx hb d_MO_count_3 rfl hl (by decide) rfl (fun ls hl => ?_)
  exact J4 (_ + 1) 0 ls (Nat.lt_succ_self _) (lv_sub hl [2, 3, 1, 0] rfl) (by omega)
set_option maxHeartbeats 4000000 in
set_option maxRecDepth 100000 in
theorem c_MO_ranges (l : Launch) (g : zG) (r : Nat → Nat) (ut uc la wo : Int) (bw : Nat → Nat) (mt : Nat → Int) (ms : Int) (s9 : Nat) (nw : Nat) (hwo : wo = ((nw : Nat) : Int)) (hnw : nw ≤ 17408) (hs9 : s9 < 8) (hbw : ∀ j, bw j < 18446744073709551616) : Met l y_MO_ranges w_MO_ranges (zr 1 24) (zP g [.ref (r 0), .int (iI (((s9 : Nat) : Int)))] [(r 0, .inr (4, [.int (iI ut), .int (iI uc), .int (iI la), .int (iI wo), .ref (r 1), .ref (r 2), .ref (r 3), .int (iI ms), .ref (r 4)])), (r 1, .inl (zJ g, 139264, .inr (.inl (lA bw)))), (r 2, .inl (zBt g, 12544, .inl (ai kF))), (r 3, .inl (zI g, 4, .inl (ai mt))), (r 4, .inl (zI g, 14, .inl (ai PT)))]) (vp_Si (fun z => z = iI ((cnt (rst (bt bw s9)) (64 * nw) : Nat) : Int))) 0 0 (fun _ => False) := by
  refine Met.ofW (cc := b_MO_ranges) (maxL := 8) (ret := (some .int)) (by decide) rfl ?_
  intro p e s m args below meth cd s₁ B hml hv
  obtain ⟨hargs, hP, hK, hZ⟩ := hv
  have hx := B.exec
  have hb := B.bytes
  have hr := B.returns
  have ht : ∀ w ∈ lw_ok, w.before args s = true := fun w h => atoms_spec (ws := w_MO_ranges) B.pre w (List.mem_cons_of_mem _ h)
  have hown : s.vm.findClass R_MO = some m.cls := findClass_of_methodNamed B.named
  have hlocks := B.notSynchronized
  have hS : va_S (fun _ => False) s.heap s.heap [] := va_S.rf
  generalize hQ : MQ below _ args s 0 0 _ = Q
  have hl := lv_entry ([.ref (r 0), .int (iI (((s9 : Nat) : Int)))]) (n := 8) (Nat.le_of_ble_eq_true rfl)
  rw [show entryFrame m args 8 = entryFrame m ([.ref (r 0), .int (iI (((s9 : Nat) : Int)))] : List Value).toArray 8 by rw [hargs], lg_entry_eq]
  generalize (lg_sl ([.ref (r 0), .int (iI (((s9 : Nat) : Int)))]) ++ List.replicate (8 - (lg_sl ([.ref (r 0), .int (iI (((s9 : Nat) : Int)))])).length) Slot.unset).toArray = ls at hl ⊢
  have hl : lv_has ls 8 [(0, .ref (r 0)), (1, .int (iI (((s9 : Nat) : Int))))] := hl
  have J7 : ∀ fu : Nat, ∀ (w : Nat) (ls : Array Slot), nw - w < fu → lv_has ls 8 [(0, .ref (r 0)), (1, .int (iI (((s9 : Nat) : Int)))), (2, .int (iI ((((cnt (rst (bt bw s9)) (64 * w)) : Nat) : Int)))), (3, .long (lN (bfw bw s9 w))), (5, .int (iI (((w : Nat) : Int))))] → (w ≤ nw) → W p l e (headSpec w_MO_ranges (zr 1 24)).room s m args below meth cd s.heap [] 0 0 Q (F0 m 7 ls []) := by
    intro fu
    induction fu with
    | zero => exact fun _ _ hfu _ _ => absurd hfu (Nat.not_lt_zero _)
    | succ fu ih =>
      intro w ls hfu hl h1
      refine lv_iload hx hb d_MO_ranges_7 (lv_at hl 4 rfl) ?_
      refine lv_aload_n hx hb d_MO_ranges_9 rfl (lv_at hl 0 rfl) ?_
      refine va_get (D := g.1) (ci := 4) (v := .int (iI wo)) (C := R_MO) (T := F_MO) (N := 9) hx hb ht i_MO hown hK hP 0 rfl rfl 3 (by decide) (ht _ k_421) (fun _ h9 => h9) rfl d_MO_ranges_10 ?_
      refine ix_icmp_ge (tgt := 63) hx hb d_MO_ranges_13 (by decide) (by omega) (fun c_13 => ?_) (fun c_13 => ?_)
      · obtain rfl : w = nw := by omega
        refine lv_iload_n hx hb d_MO_ranges_63 rfl (lv_at hl 2 rfl) ?_
        subst hQ
        exact W.iret (v := iI ((((cnt (rst (bt bw s9)) (64 * w)) : Nat) : Int))) hx hb hr (fun t h9 hW => ⟨_, rfl, rfl, h9⟩) (fun _ h9 => by cases h9) d_MO_ranges_64
      · refine lv_aload_n hx hb d_MO_ranges_16 rfl (lv_at hl 0 rfl) ?_
        refine va_get (D := g.1) (ci := 4) (v := .ref (r 1)) (C := R_MO) (T := F_MO) (N := 9) hx hb ht i_MO hown hK hP 0 rfl rfl 4 (by decide) (ht _ k_422) (fun _ h9 => h9) rfl d_MO_ranges_17 ?_
        refine lv_iload_n hx hb d_MO_ranges_20 rfl (lv_at hl 1 rfl) ?_
        refine lv_sipush (v := iI 17408) hx hb d_MO_ranges_21 (by decide) ?_
        refine ix_imul hx hb d_MO_ranges_24 ?_
        refine lv_iload hx hb d_MO_ranges_25 (lv_at hl 4 rfl) ?_
        refine ix_iadd hx hb d_MO_ranges_27 ?_
        refine ix_lald hx hb hK hP 1 1 rfl rfl (i := (((((s9 : Nat) : Int)) * 17408) + (((w : Nat) : Int)))) ((s9 * 17408) + w) (by omega) d_MO_ranges_28 ?_
        refine lv_lstore (lv' := [(6, .long ((lA bw) ((s9 * 17408) + w))), (0, .ref (r 0)), (1, .int (iI (((s9 : Nat) : Int)))), (2, .int (iI ((((cnt (rst (bt bw s9)) (64 * w)) : Nat) : Int)))), (3, .long (lN (bfw bw s9 w))), (5, .int (iI (((w : Nat) : Int))))]) hx hb d_MO_ranges_29 hl (by decide) rfl (fun ls hl => ?_)
        refine lv_iload_n hx hb d_MO_ranges_31 rfl (lv_at hl 3 rfl) ?_
        refine lv_aload_n hx hb d_MO_ranges_32 rfl (lv_at hl 1 rfl) ?_
        refine lv_lload hx hb d_MO_ranges_33 (lv_at hl 0 rfl) ?_
        refine lv_lload hx hb d_MO_ranges_35 (lv_at hl 0 rfl) ?_
        refine lv_iconst (v := iI 1) hx hb d_MO_ranges_37 rfl ?_
        refine lv_lshl (v := lN (bw (s9 * 17408 + w) * 2 % 18446744073709551616)) hx hb d_MO_ranges_38 (wb_shl1) ?_
        refine lv_lload_n hx hb d_MO_ranges_39 rfl (lv_at hl 4 rfl) ?_
        refine lv_lor hx hb d_MO_ranges_40 ?_
        rw [show (lN (bw (s9 * 17408 + w) * 2 % 18446744073709551616)) ||| (lN (bfw bw s9 w)) = lN (bw (s9 * 17408 + w) * 2 % 18446744073709551616 ||| bfw bw s9 w) from wb_or (Nat.mod_lt _ (by decide)) (bfw_lt hbw)]
        refine lv_ldc2 (v := (-1 : Int64)) hx hb hown (ht _ k_464) d_MO_ranges_41 ?_
        rw [show (-1 : Int64) = lN 18446744073709551615 by decide]
        refine lv_lxor hx hb d_MO_ranges_44 ?_
        rw [show (lN (bw (s9 * 17408 + w) * 2 % 18446744073709551616 ||| bfw bw s9 w)) ^^^ (lN 18446744073709551615) = lN ((bw (s9 * 17408 + w) * 2 % 18446744073709551616 ||| bfw bw s9 w) ^^^ 18446744073709551615) from wb_xorN]
        refine lv_land hx hb d_MO_ranges_45 ?_
        rw [show ((lA bw) ((s9 * 17408) + w)) &&& (lN ((bw (s9 * 17408 + w) * 2 % 18446744073709551616 ||| bfw bw s9 w) ^^^ 18446744073709551615)) = lN (rw64 (bw (s9 * 17408 + w)) (bfw bw s9 w)) from wb_and (hbw _) (xor_lt (or_lt (Nat.mod_lt _ (by decide)) (bfw_lt hbw)) (by decide))]
        refine zcV (ci := 4) (q0 := 0) (As := [.long (lN (rw64 (bw (s9 * 17408 + w)) (bfw bw s9 w)))]) (rest := [.int (iI ((((cnt (rst (bt bw s9)) (64 * w)) : Nat) : Int)))]) ⟨hx, hb, hml, hown, ht⟩ v_MO_113 (c_MO_ones l g r ut uc la wo bw mt ms (rw64 (bw (s9 * 17408 + w)) (bfw bw s9 w)) (and_lt (hbw _))) ⟨Nat.le_of_ble_eq_true rfl, Nat.le_of_ble_eq_true rfl⟩ ⟨Nat.zero_le _, Nat.zero_le _⟩ hK hZ hS hP rfl rfl rfl rfl hl.1 rfl (Nat.le_of_ble_eq_true rfl) d_MO_ranges_46 (fun r_46 h_46 => ?_)
        subst h_46
        refine ix_iadd hx hb d_MO_ranges_49 ?_
        refine lv_istore_n (lv' := [(2, .int (iI (((((cnt (rst (bt bw s9)) (64 * w)) : Nat) : Int)) + ((((cnt (fun i => (rw64 (bw (s9 * 17408 + w)) (bfw bw s9 w)).testBit i) 64) : Nat) : Int))))), (6, .long ((lA bw) ((s9 * 17408) + w))), (0, .ref (r 0)), (1, .int (iI (((s9 : Nat) : Int)))), (3, .long (lN (bfw bw s9 w))), (5, .int (iI (((w : Nat) : Int))))]) hx hb d_MO_ranges_50 rfl hl (by decide) rfl (fun ls hl => ?_)
        refine lv_lload hx hb d_MO_ranges_51 (lv_at hl 1 rfl) ?_
        refine lv_bipush (v := iI 63) hx hb d_MO_ranges_53 (by decide) ?_
        refine lv_lushr (v := lN (bfw bw s9 (w + 1))) hx hb d_MO_ranges_55 ((mo_ushr (hbw _) 63 (by decide)).trans (congrArg lN (bfw_s bw s9 w))) ?_
        refine lv_lstore_n (lv' := [(3, .long (lN (bfw bw s9 (w + 1)))), (2, .int (iI (((((cnt (rst (bt bw s9)) (64 * w)) : Nat) : Int)) + ((((cnt (fun i => (rw64 (bw (s9 * 17408 + w)) (bfw bw s9 w)).testBit i) 64) : Nat) : Int))))), (6, .long ((lA bw) ((s9 * 17408) + w))), (0, .ref (r 0)), (1, .int (iI (((s9 : Nat) : Int)))), (5, .int (iI (((w : Nat) : Int))))]) hx hb d_MO_ranges_56 rfl hl (by decide) rfl (fun ls hl => ?_)
        refine lv_iinc (v := iI ((((w : Nat) : Int)) + 1)) (lv' := [(5, .int (iI ((((w : Nat) : Int)) + 1))), (3, .long (lN (bfw bw s9 (w + 1)))), (2, .int (iI (((((cnt (rst (bt bw s9)) (64 * w)) : Nat) : Int)) + ((((cnt (fun i => (rw64 (bw (s9 * 17408 + w)) (bfw bw s9 w)).testBit i) 64) : Nat) : Int))))), (6, .long ((lA bw) ((s9 * 17408) + w))), (0, .ref (r 0)), (1, .int (iI (((s9 : Nat) : Int))))]) hx hb d_MO_ranges_57 hl (k := 5) rfl (iI_add _ _) (by decide) rfl (fun ls hl => ?_)
        refine lv_goto (tgt := 7) hx hb d_MO_ranges_60 (by decide) ?_
        have e9 : ((cnt (rst (bt bw s9)) (64 * w) : Nat) : Int) + ((cnt (fun i => (rw64 (bw (s9 * 17408 + w)) (bfw bw s9 w)).testBit i) 64 : Nat) : Int) = ((cnt (rst (bt bw s9)) (64 * (w + 1)) : Nat) : Int) := by rw [cnt_r hbw]; omega
        rw [e9] at hl
        exact ih (w + 1) ls (by omega) (lv_sub hl [4, 5, 2, 1, 0] rfl) (by omega)
  refine lv_iconst (v := iI 0) hx hb d_MO_ranges_0 rfl ?_
  refine lv_istore_n (lv' := [(2, .int (iI 0)), (0, .ref (r 0)), (1, .int (iI (((s9 : Nat) : Int))))]) hx hb d_MO_ranges_1 rfl hl (by decide) rfl (fun ls hl => ?_)
  refine lv_lconst (v := lN 0) hx hb d_MO_ranges_2 (by decide) ?_
  refine lv_lstore_n (lv' := [(3, .long (lN 0)), (2, .int (iI 0)), (0, .ref (r 0)), (1, .int (iI (((s9 : Nat) : Int))))]) hx hb d_MO_ranges_3 rfl hl (by decide) rfl (fun ls hl => ?_)
  refine lv_iconst (v := iI 0) hx hb d_MO_ranges_4 rfl ?_
  refine lv_istore (lv' := [(5, .int (iI 0)), (3, .long (lN 0)), (2, .int (iI 0)), (0, .ref (r 0)), (1, .int (iI (((s9 : Nat) : Int))))]) hx hb d_MO_ranges_5 hl (by decide) rfl (fun ls hl => ?_)
  exact J7 (_ + 1) 0 ls (Nat.lt_succ_self _) (lv_sub hl [3, 4, 2, 1, 0] rfl) (by omega)
