set_option maxHeartbeats 4000000 in
set_option maxRecDepth 100000 in
theorem c_MO_meets (l : Launch) (g : zG) (r : Nat → Nat) (ut uc la wo : Int) (bw : Nat → Nat) (mt : Nat → Int) (ms : Int) (s9 t9 : Int) (hs9 : -2147483648 ≤ s9 ∧ s9 ≤ 2147483647)(ht9 : -2147483648 ≤ t9 ∧ t9 ≤ 2147483647)(nw last : Nat) (hwo : wo = ((nw : Nat) : Int)) (hnw : nw ≤ 17408) (hla : la = ((last : Nat) : Int)) (hlw : 64 * nw = last + 1) (hbw : ∀ j, bw j < 18446744073709551616) : Met l y_MO_meets w_MO_meets (zr 1 21) (zP g [.ref (r 0), .int (iI s9), .int (iI t9)] [(r 0, .inr (4, [.int (iI ut), .int (iI uc), .int (iI la), .int (iI wo), .ref (r 1), .ref (r 2), .ref (r 3), .int (iI ms), .ref (r 4)])), (r 1, .inl (zJ g, 139264, .inr (.inl (lA bw)))), (r 2, .inl (zBt g, 12544, .inl (ai kF))), (r 3, .inl (zI g, 4, .inl (ai mt))), (r 4, .inl (zI g, 14, .inl (ai PT)))]) (vp_Si (fun z => ((¬ (0 ≤ s9 ∧ s9 ≤ 7) ∨ ¬ (0 ≤ t9 ∧ t9 ≤ 7)) ∧ z = iI (-2)) ∨ (¬ (¬ (0 ≤ s9 ∧ s9 ≤ 7) ∨ ¬ (0 ≤ t9 ∧ t9 ≤ 7)) ∧ (((∀ c, c < last + 1 → (bt bw s9.toNat c && bt bw t9.toNat c) = false) ∧ z = iI 0) ∨ (¬ (∀ c, c < last + 1 → (bt bw s9.toNat c && bt bw t9.toNat c) = false) ∧ z = iI 1))))) 0 0 (fun _ => False) := by
  refine Met.ofW (cc := b_MO_meets) (maxL := 6) (ret := (some .int)) (by decide) rfl ?_
  intro p e s m args below meth cd s₁ B hml hv
  obtain ⟨hargs, hP, hK, hZ⟩ := hv
  have hx := B.exec
  have hb := B.bytes
  have hr := B.returns
  have ht : ∀ w ∈ lw_ok, w.before args s = true := fun w h => atoms_spec (ws := w_MO_meets) B.pre w (List.mem_cons_of_mem _ h)
  have hown : s.vm.findClass R_MO = some m.cls := findClass_of_methodNamed B.named
  have hlocks := B.notSynchronized
  have hS : va_S (fun _ => False) s.heap s.heap [] := va_S.rf
  generalize hQ : MQ below _ args s 0 0 _ = Q
  have hl := lv_entry ([.ref (r 0), .int (iI s9), .int (iI t9)]) (n := 6) (Nat.le_of_ble_eq_true rfl)
  rw [show entryFrame m args 6 = entryFrame m ([.ref (r 0), .int (iI s9), .int (iI t9)] : List Value).toArray 6 by rw [hargs], lg_entry_eq]
  generalize (lg_sl ([.ref (r 0), .int (iI s9), .int (iI t9)]) ++ List.replicate (6 - (lg_sl ([.ref (r 0), .int (iI s9), .int (iI t9)])).length) Slot.unset).toArray = ls at hl ⊢
  have hl : lv_has ls 6 [(0, .ref (r 0)), (1, .int (iI s9)), (2, .int (iI t9))] := hl
  have J24 : ∀ fu : Nat, ∀ (sn tn w x : Nat) (ls : Array Slot), nw - w < fu → lv_has ls 6 [(0, .ref (r 0)), (1, .int (iI (((sn : Nat) : Int)))), (2, .int (iI (((tn : Nat) : Int)))), (3, .long (lN x)), (5, .int (iI (((w : Nat) : Int))))] → (s9 = ((sn : Nat) : Int)) → (t9 = ((tn : Nat) : Int)) → (sn < 8) → (tn < 8) → (w ≤ nw) → (x < 18446744073709551616) → (x = 0 ↔ ∀ v, v < w → bw (sn * 17408 + v) &&& bw (tn * 17408 + v) = 0) → W p l e (headSpec w_MO_meets (zr 1 21)).room s m args below meth cd s.heap [] 0 0 Q (F0 m 24 ls []) := by
    intro fu
    induction fu with
    | zero => exact fun _ _ _ _ _ hfu _ _ _ _ _ _ _ _ => absurd hfu (Nat.not_lt_zero _)
    | succ fu ih =>
      intro sn tn w x ls hfu hl hs9n ht9n hsn8 htn8 h1 hx0 hx1
      refine lv_iload hx hb d_MO_meets_24 (lv_at hl 4 rfl) ?_
      refine lv_aload_n hx hb d_MO_meets_26 rfl (lv_at hl 0 rfl) ?_
      refine va_get (D := g.1) (ci := 4) (v := .int (iI wo)) (C := R_MO) (T := F_MO) (N := 9) hx hb ht i_MO hown hK hP 0 rfl rfl 3 (by decide) (ht _ k_421) (fun _ h9 => h9) rfl d_MO_meets_27 ?_
      refine ix_icmp_ge (tgt := 69) hx hb d_MO_meets_30 (by decide) (by omega) (fun c_30 => ?_) (fun c_30 => ?_)
      · obtain rfl : nw = w := by omega
        refine lv_lload_n hx hb d_MO_meets_69 rfl (lv_at hl 3 rfl) ?_
        refine lv_lconst (v := lN 0) hx hb d_MO_meets_70 (by decide) ?_
        refine W.lcmp hx hb d_MO_meets_71 ?_
        refine lv_if_eq (tgt := 79) hx hb d_MO_meets_72 (by decide) (fun c_72 => ?_) (fun c_72 => ?_)
        · have e9 : x = 0 := (wb_eq hx0 (by decide)).mp (wb_lg0.mp c_72)
          refine lv_iconst (v := iI 0) hx hb d_MO_meets_79 rfl ?_
          subst hQ
          exact W.iret (v := iI 0) hx hb hr (fun t h9 hW => ⟨_, rfl, Or.inr ⟨by omega, Or.inl ⟨by rw [hs9n, ht9n, ← hlw]; exact (words0 (G := fun a b => a &&& b) (f := fun a b => a && b) hbw (fun a b ha hb9 => and_lt ha) (fun a b j => Nat.testBit_and a b j)).mp (hx1.mp e9), rfl⟩⟩, h9⟩) (fun _ h9 => by cases h9) d_MO_meets_80
        · have e9 : ¬ x = 0 := fun q9 => c_72 (wb_lg0.mpr ((wb_eq hx0 (by decide)).mpr q9))
          refine lv_iconst (v := iI 1) hx hb d_MO_meets_75 rfl ?_
          refine lv_goto (tgt := 80) hx hb d_MO_meets_76 (by decide) ?_
          subst hQ
          exact W.iret (v := iI 1) hx hb hr (fun t h9 hW => ⟨_, rfl, Or.inr ⟨by omega, Or.inr ⟨fun q9 => e9 <| hx1.mpr ((words0 (G := fun a b => a &&& b) (f := fun a b => a && b) hbw (fun a b ha hb9 => and_lt ha) (fun a b j => Nat.testBit_and a b j)).mpr (by rw [hs9n, ht9n, ← hlw] at q9; exact q9)), rfl⟩⟩, h9⟩) (fun _ h9 => by cases h9) d_MO_meets_80
      · refine lv_lload_n hx hb d_MO_meets_33 rfl (lv_at hl 3 rfl) ?_
        refine lv_aload_n hx hb d_MO_meets_34 rfl (lv_at hl 0 rfl) ?_
        refine va_get (D := g.1) (ci := 4) (v := .ref (r 1)) (C := R_MO) (T := F_MO) (N := 9) hx hb ht i_MO hown hK hP 0 rfl rfl 4 (by decide) (ht _ k_422) (fun _ h9 => h9) rfl d_MO_meets_35 ?_
        refine lv_iload_n hx hb d_MO_meets_38 rfl (lv_at hl 1 rfl) ?_
        refine lv_sipush (v := iI 17408) hx hb d_MO_meets_39 (by decide) ?_
        refine ix_imul hx hb d_MO_meets_42 ?_
        refine lv_iload hx hb d_MO_meets_43 (lv_at hl 4 rfl) ?_
        refine ix_iadd hx hb d_MO_meets_45 ?_
        refine ix_lald hx hb hK hP 1 1 rfl rfl (i := (((((sn : Nat) : Int)) * 17408) + (((w : Nat) : Int)))) ((sn * 17408) + w) (by omega) d_MO_meets_46 ?_
        refine lv_aload_n hx hb d_MO_meets_47 rfl (lv_at hl 0 rfl) ?_
        refine va_get (D := g.1) (ci := 4) (v := .ref (r 1)) (C := R_MO) (T := F_MO) (N := 9) hx hb ht i_MO hown hK hP 0 rfl rfl 4 (by decide) (ht _ k_422) (fun _ h9 => h9) rfl d_MO_meets_48 ?_
        refine lv_iload_n hx hb d_MO_meets_51 rfl (lv_at hl 2 rfl) ?_
        refine lv_sipush (v := iI 17408) hx hb d_MO_meets_52 (by decide) ?_
        refine ix_imul hx hb d_MO_meets_55 ?_
        refine lv_iload hx hb d_MO_meets_56 (lv_at hl 4 rfl) ?_
        refine ix_iadd hx hb d_MO_meets_58 ?_
        refine ix_lald hx hb hK hP 1 1 rfl rfl (i := (((((tn : Nat) : Int)) * 17408) + (((w : Nat) : Int)))) ((tn * 17408) + w) (by omega) d_MO_meets_59 ?_
        refine lv_land hx hb d_MO_meets_60 ?_
        rw [show ((lA bw) ((sn * 17408) + w)) &&& ((lA bw) ((tn * 17408) + w)) = lN (bw (sn * 17408 + w) &&& bw (tn * 17408 + w)) from wb_and (hbw _) (hbw _)]
        refine lv_lor hx hb d_MO_meets_61 ?_
        rw [show (lN x) ||| (lN (bw (sn * 17408 + w) &&& bw (tn * 17408 + w))) = lN (x ||| (bw (sn * 17408 + w) &&& bw (tn * 17408 + w))) from wb_or hx0 (and_lt (hbw _))]
        refine lv_lstore_n (lv' := [(3, .long (lN (x ||| (bw (sn * 17408 + w) &&& bw (tn * 17408 + w))))), (0, .ref (r 0)), (1, .int (iI (((sn : Nat) : Int)))), (2, .int (iI (((tn : Nat) : Int)))), (5, .int (iI (((w : Nat) : Int))))]) hx hb d_MO_meets_62 rfl hl (by decide) rfl (fun ls hl => ?_)
        refine lv_iinc (v := iI ((((w : Nat) : Int)) + 1)) (lv' := [(5, .int (iI ((((w : Nat) : Int)) + 1))), (3, .long (lN (x ||| (bw (sn * 17408 + w) &&& bw (tn * 17408 + w))))), (0, .ref (r 0)), (1, .int (iI (((sn : Nat) : Int)))), (2, .int (iI (((tn : Nat) : Int))))]) hx hb d_MO_meets_63 hl (k := 4) rfl (iI_add _ _) (by decide) rfl (fun ls hl => ?_)
        refine lv_goto (tgt := 24) hx hb d_MO_meets_66 (by decide) ?_
        exact ih sn tn (w + 1) (x ||| (bw (sn * 17408 + w) &&& bw (tn * 17408 + w))) ls (by omega) (lv_sub hl [2, 3, 4, 1, 0] rfl) (by exact hs9n) (by exact ht9n) (by omega) (by omega) (by omega) (by exact or_lt hx0 (and_lt (hbw _))) (by rw [or0, hx1]; exact ⟨fun ⟨a9, b9⟩ v hv => (Nat.lt_or_ge v w).elim (fun q9 => a9 v q9) (fun q9 => by rw [show v = w by omega]; exact b9), fun q9 => ⟨fun v hv => q9 v (by omega), q9 w (by omega)⟩⟩)
  refine lv_aload_n hx hb d_MO_meets_0 rfl (lv_at hl 0 rfl) ?_
  refine lv_iload_n hx hb d_MO_meets_1 rfl (lv_at hl 1 rfl) ?_
  refine zcV (ci := 4) (q0 := 0) (As := [.int (iI s9)]) (rest := []) ⟨hx, hb, hml, hown, ht⟩ v_MO_117 (c_MO_none l g r ut uc la wo bw mt ms s9 (by omega)) ⟨Nat.le_of_ble_eq_true rfl, Nat.le_of_ble_eq_true rfl⟩ ⟨Nat.zero_le _, Nat.zero_le _⟩ hK hZ hS hP rfl rfl rfl rfl hl.1 rfl (Nat.le_of_ble_eq_true rfl) d_MO_meets_2 (fun r_2 h_2 => ?_)
  rcases h_2 with ⟨h_2, rfl⟩ | ⟨h_2, rfl⟩
  · refine ix_if_ne (tgt := 16) hx hb d_MO_meets_5 (by decide) (by omega) (fun c_5 => ?_) (fun c_5 => ?_)
    · refine lv_bipush (v := iI (-2)) hx hb d_MO_meets_16 (by decide) ?_
      subst hQ
      exact W.iret (v := iI ((-2))) hx hb hr (fun t h9 hW => ⟨_, rfl, Or.inl ⟨by omega, rfl⟩, h9⟩) (fun _ h9 => by cases h9) d_MO_meets_18
    · exact absurd c_5 (by decide)
  · refine ix_if_ne (tgt := 16) hx hb d_MO_meets_5 (by decide) (by omega) (fun c_5 => ?_) (fun c_5 => ?_)
    · exact absurd c_5 (by decide)
    · refine lv_aload_n hx hb d_MO_meets_8 rfl (lv_at hl 0 rfl) ?_
      refine lv_iload_n hx hb d_MO_meets_9 rfl (lv_at hl 2 rfl) ?_
      refine zcV (ci := 4) (q0 := 0) (As := [.int (iI t9)]) (rest := []) ⟨hx, hb, hml, hown, ht⟩ v_MO_117 (c_MO_none l g r ut uc la wo bw mt ms t9 (by omega)) ⟨Nat.le_of_ble_eq_true rfl, Nat.le_of_ble_eq_true rfl⟩ ⟨Nat.zero_le _, Nat.zero_le _⟩ hK hZ hS hP rfl rfl rfl rfl hl.1 rfl (Nat.le_of_ble_eq_true rfl) d_MO_meets_10 (fun r_10 h_10 => ?_)
      rcases h_10 with ⟨h_10, rfl⟩ | ⟨h_10, rfl⟩
      · refine ix_if_eq (tgt := 19) hx hb d_MO_meets_13 (by decide) (by omega) (fun c_13 => ?_) (fun c_13 => ?_)
        · exact absurd c_13 (by decide)
        · refine lv_bipush (v := iI (-2)) hx hb d_MO_meets_16 (by decide) ?_
          subst hQ
          exact W.iret (v := iI ((-2))) hx hb hr (fun t h9 hW => ⟨_, rfl, Or.inl ⟨by omega, rfl⟩, h9⟩) (fun _ h9 => by cases h9) d_MO_meets_18
      · refine ix_if_eq (tgt := 19) hx hb d_MO_meets_13 (by decide) (by omega) (fun c_13 => ?_) (fun c_13 => ?_)
        · obtain ⟨sn, hsn⟩ : ∃ sn : Nat, s9 = ((sn : Nat) : Int) := ⟨s9.toNat, by omega⟩
          obtain ⟨tn, htn⟩ : ∃ tn : Nat, t9 = ((tn : Nat) : Int) := ⟨t9.toNat, by omega⟩
          rw [hsn, htn] at hl
          refine lv_lconst (v := lN 0) hx hb d_MO_meets_19 (by decide) ?_
          refine lv_lstore_n (lv' := [(3, .long (lN 0)), (0, .ref (r 0)), (1, .int (iI (((sn : Nat) : Int)))), (2, .int (iI (((tn : Nat) : Int))))]) hx hb d_MO_meets_20 rfl hl (by decide) rfl (fun ls hl => ?_)
          refine lv_iconst (v := iI 0) hx hb d_MO_meets_21 rfl ?_
          refine lv_istore (lv' := [(5, .int (iI 0)), (3, .long (lN 0)), (0, .ref (r 0)), (1, .int (iI (((sn : Nat) : Int)))), (2, .int (iI (((tn : Nat) : Int))))]) hx hb d_MO_meets_22 hl (by decide) rfl (fun ls hl => ?_)
          exact J24 (_ + 1) sn tn 0 0 ls (Nat.lt_succ_self _) (lv_sub hl [2, 3, 4, 1, 0] rfl) (by exact hsn) (by exact htn) (by omega) (by omega) (by omega) (by decide) (by exact ⟨fun _ v hv => absurd hv (by omega), fun _ => rfl⟩)
        · exact absurd c_13 (by decide)
set_option maxHeartbeats 4000000 in
set_option maxRecDepth 100000 in
theorem c_MO_same (l : Launch) (g : zG) (r : Nat → Nat) (ut uc la wo : Int) (bw : Nat → Nat) (mt : Nat → Int) (ms : Int) (s9 t9 : Int) (hs9 : -2147483648 ≤ s9 ∧ s9 ≤ 2147483647)(ht9 : -2147483648 ≤ t9 ∧ t9 ≤ 2147483647)(nw last : Nat) (hwo : wo = ((nw : Nat) : Int)) (hnw : nw ≤ 17408) (hla : la = ((last : Nat) : Int)) (hlw : 64 * nw = last + 1) (hbw : ∀ j, bw j < 18446744073709551616) : Met l y_MO_same w_MO_same (zr 1 21) (zP g [.ref (r 0), .int (iI s9), .int (iI t9)] [(r 0, .inr (4, [.int (iI ut), .int (iI uc), .int (iI la), .int (iI wo), .ref (r 1), .ref (r 2), .ref (r 3), .int (iI ms), .ref (r 4)])), (r 1, .inl (zJ g, 139264, .inr (.inl (lA bw)))), (r 2, .inl (zBt g, 12544, .inl (ai kF))), (r 3, .inl (zI g, 4, .inl (ai mt))), (r 4, .inl (zI g, 14, .inl (ai PT)))]) (vp_Si (fun z => ((¬ (0 ≤ s9 ∧ s9 ≤ 7) ∨ ¬ (0 ≤ t9 ∧ t9 ≤ 7)) ∧ z = iI (-2)) ∨ (¬ (¬ (0 ≤ s9 ∧ s9 ≤ 7) ∨ ¬ (0 ≤ t9 ∧ t9 ≤ 7)) ∧ (((∀ c, c < last + 1 → (bt bw s9.toNat c ^^ bt bw t9.toNat c) = false) ∧ z = iI 1) ∨ (¬ (∀ c, c < last + 1 → (bt bw s9.toNat c ^^ bt bw t9.toNat c) = false) ∧ z = iI 0))))) 0 0 (fun _ => False) := by
  refine Met.ofW (cc := b_MO_same) (maxL := 6) (ret := (some .int)) (by decide) rfl ?_
  intro p e s m args below meth cd s₁ B hml hv
  obtain ⟨hargs, hP, hK, hZ⟩ := hv
  have hx := B.exec
  have hb := B.bytes
  have hr := B.returns
  have ht : ∀ w ∈ lw_ok, w.before args s = true := fun w h => atoms_spec (ws := w_MO_same) B.pre w (List.mem_cons_of_mem _ h)
  have hown : s.vm.findClass R_MO = some m.cls := findClass_of_methodNamed B.named
  have hlocks := B.notSynchronized
  have hS : va_S (fun _ => False) s.heap s.heap [] := va_S.rf
  generalize hQ : MQ below _ args s 0 0 _ = Q
  have hl := lv_entry ([.ref (r 0), .int (iI s9), .int (iI t9)]) (n := 6) (Nat.le_of_ble_eq_true rfl)
  rw [show entryFrame m args 6 = entryFrame m ([.ref (r 0), .int (iI s9), .int (iI t9)] : List Value).toArray 6 by rw [hargs], lg_entry_eq]
  generalize (lg_sl ([.ref (r 0), .int (iI s9), .int (iI t9)]) ++ List.replicate (6 - (lg_sl ([.ref (r 0), .int (iI s9), .int (iI t9)])).length) Slot.unset).toArray = ls at hl ⊢
  have hl : lv_has ls 6 [(0, .ref (r 0)), (1, .int (iI s9)), (2, .int (iI t9))] := hl
  have J24 : ∀ fu : Nat, ∀ (sn tn w x : Nat) (ls : Array Slot), nw - w < fu → lv_has ls 6 [(0, .ref (r 0)), (1, .int (iI (((sn : Nat) : Int)))), (2, .int (iI (((tn : Nat) : Int)))), (3, .long (lN x)), (5, .int (iI (((w : Nat) : Int))))] → (s9 = ((sn : Nat) : Int)) → (t9 = ((tn : Nat) : Int)) → (sn < 8) → (tn < 8) → (w ≤ nw) → (x < 18446744073709551616) → (x = 0 ↔ ∀ v, v < w → bw (sn * 17408 + v) ^^^ bw (tn * 17408 + v) = 0) → W p l e (headSpec w_MO_same (zr 1 21)).room s m args below meth cd s.heap [] 0 0 Q (F0 m 24 ls []) := by
    intro fu
    induction fu with
    | zero => exact fun _ _ _ _ _ hfu _ _ _ _ _ _ _ _ => absurd hfu (Nat.not_lt_zero _)
    | succ fu ih =>
      intro sn tn w x ls hfu hl hs9n ht9n hsn8 htn8 h1 hx0 hx1
      refine lv_iload hx hb d_MO_same_24 (lv_at hl 4 rfl) ?_
      refine lv_aload_n hx hb d_MO_same_26 rfl (lv_at hl 0 rfl) ?_
      refine va_get (D := g.1) (ci := 4) (v := .int (iI wo)) (C := R_MO) (T := F_MO) (N := 9) hx hb ht i_MO hown hK hP 0 rfl rfl 3 (by decide) (ht _ k_421) (fun _ h9 => h9) rfl d_MO_same_27 ?_
      refine ix_icmp_ge (tgt := 69) hx hb d_MO_same_30 (by decide) (by omega) (fun c_30 => ?_) (fun c_30 => ?_)
      · obtain rfl : nw = w := by omega
        refine lv_lload_n hx hb d_MO_same_69 rfl (lv_at hl 3 rfl) ?_
        refine lv_lconst (v := lN 0) hx hb d_MO_same_70 (by decide) ?_
        refine W.lcmp hx hb d_MO_same_71 ?_
        refine lv_if_ne (tgt := 79) hx hb d_MO_same_72 (by decide) (fun c_72 => ?_) (fun c_72 => ?_)
        · have e9 : ¬ x = 0 := fun q9 => c_72 (wb_lg0.mpr ((wb_eq hx0 (by decide)).mpr q9))
          refine lv_iconst (v := iI 0) hx hb d_MO_same_79 rfl ?_
          subst hQ
          exact W.iret (v := iI 0) hx hb hr (fun t h9 hW => ⟨_, rfl, Or.inr ⟨by omega, Or.inr ⟨fun q9 => e9 <| hx1.mpr ((words0 (G := fun a b => a ^^^ b) (f := fun a b => a ^^ b) hbw (fun a b ha hb9 => xor_lt ha hb9) (fun a b j => Nat.testBit_xor a b j)).mpr (by rw [hs9n, ht9n, ← hlw] at q9; exact q9)), rfl⟩⟩, h9⟩) (fun _ h9 => by cases h9) d_MO_same_80
        · have e9 : x = 0 := (wb_eq hx0 (by decide)).mp (wb_lg0.mp c_72)
          refine lv_iconst (v := iI 1) hx hb d_MO_same_75 rfl ?_
          refine lv_goto (tgt := 80) hx hb d_MO_same_76 (by decide) ?_
          subst hQ
          exact W.iret (v := iI 1) hx hb hr (fun t h9 hW => ⟨_, rfl, Or.inr ⟨by omega, Or.inl ⟨by rw [hs9n, ht9n, ← hlw]; exact (words0 (G := fun a b => a ^^^ b) (f := fun a b => a ^^ b) hbw (fun a b ha hb9 => xor_lt ha hb9) (fun a b j => Nat.testBit_xor a b j)).mp (hx1.mp e9), rfl⟩⟩, h9⟩) (fun _ h9 => by cases h9) d_MO_same_80
      · refine lv_lload_n hx hb d_MO_same_33 rfl (lv_at hl 3 rfl) ?_
        refine lv_aload_n hx hb d_MO_same_34 rfl (lv_at hl 0 rfl) ?_
        refine va_get (D := g.1) (ci := 4) (v := .ref (r 1)) (C := R_MO) (T := F_MO) (N := 9) hx hb ht i_MO hown hK hP 0 rfl rfl 4 (by decide) (ht _ k_422) (fun _ h9 => h9) rfl d_MO_same_35 ?_
        refine lv_iload_n hx hb d_MO_same_38 rfl (lv_at hl 1 rfl) ?_
        refine lv_sipush (v := iI 17408) hx hb d_MO_same_39 (by decide) ?_
        refine ix_imul hx hb d_MO_same_42 ?_
        refine lv_iload hx hb d_MO_same_43 (lv_at hl 4 rfl) ?_
        refine ix_iadd hx hb d_MO_same_45 ?_
        refine ix_lald hx hb hK hP 1 1 rfl rfl (i := (((((sn : Nat) : Int)) * 17408) + (((w : Nat) : Int)))) ((sn * 17408) + w) (by omega) d_MO_same_46 ?_
        refine lv_aload_n hx hb d_MO_same_47 rfl (lv_at hl 0 rfl) ?_
        refine va_get (D := g.1) (ci := 4) (v := .ref (r 1)) (C := R_MO) (T := F_MO) (N := 9) hx hb ht i_MO hown hK hP 0 rfl rfl 4 (by decide) (ht _ k_422) (fun _ h9 => h9) rfl d_MO_same_48 ?_
        refine lv_iload_n hx hb d_MO_same_51 rfl (lv_at hl 2 rfl) ?_
        refine lv_sipush (v := iI 17408) hx hb d_MO_same_52 (by decide) ?_
        refine ix_imul hx hb d_MO_same_55 ?_
        refine lv_iload hx hb d_MO_same_56 (lv_at hl 4 rfl) ?_
        refine ix_iadd hx hb d_MO_same_58 ?_
        refine ix_lald hx hb hK hP 1 1 rfl rfl (i := (((((tn : Nat) : Int)) * 17408) + (((w : Nat) : Int)))) ((tn * 17408) + w) (by omega) d_MO_same_59 ?_
        refine lv_lxor hx hb d_MO_same_60 ?_
        rw [show ((lA bw) ((sn * 17408) + w)) ^^^ ((lA bw) ((tn * 17408) + w)) = lN (bw (sn * 17408 + w) ^^^ bw (tn * 17408 + w)) from wb_xorN]
        refine lv_lor hx hb d_MO_same_61 ?_
        rw [show (lN x) ||| (lN (bw (sn * 17408 + w) ^^^ bw (tn * 17408 + w))) = lN (x ||| (bw (sn * 17408 + w) ^^^ bw (tn * 17408 + w))) from wb_or hx0 (xor_lt (hbw _) (hbw _))]
        refine lv_lstore_n (lv' := [(3, .long (lN (x ||| (bw (sn * 17408 + w) ^^^ bw (tn * 17408 + w))))), (0, .ref (r 0)), (1, .int (iI (((sn : Nat) : Int)))), (2, .int (iI (((tn : Nat) : Int)))), (5, .int (iI (((w : Nat) : Int))))]) hx hb d_MO_same_62 rfl hl (by decide) rfl (fun ls hl => ?_)
        refine lv_iinc (v := iI ((((w : Nat) : Int)) + 1)) (lv' := [(5, .int (iI ((((w : Nat) : Int)) + 1))), (3, .long (lN (x ||| (bw (sn * 17408 + w) ^^^ bw (tn * 17408 + w))))), (0, .ref (r 0)), (1, .int (iI (((sn : Nat) : Int)))), (2, .int (iI (((tn : Nat) : Int))))]) hx hb d_MO_same_63 hl (k := 4) rfl (iI_add _ _) (by decide) rfl (fun ls hl => ?_)
        refine lv_goto (tgt := 24) hx hb d_MO_same_66 (by decide) ?_
        exact ih sn tn (w + 1) (x ||| (bw (sn * 17408 + w) ^^^ bw (tn * 17408 + w))) ls (by omega) (lv_sub hl [2, 3, 4, 1, 0] rfl) (by exact hs9n) (by exact ht9n) (by omega) (by omega) (by omega) (by exact or_lt hx0 (xor_lt (hbw _) (hbw _))) (by rw [or0, hx1]; exact ⟨fun ⟨a9, b9⟩ v hv => (Nat.lt_or_ge v w).elim (fun q9 => a9 v q9) (fun q9 => by rw [show v = w by omega]; exact b9), fun q9 => ⟨fun v hv => q9 v (by omega), q9 w (by omega)⟩⟩)
  refine lv_aload_n hx hb d_MO_same_0 rfl (lv_at hl 0 rfl) ?_
  refine lv_iload_n hx hb d_MO_same_1 rfl (lv_at hl 1 rfl) ?_
  refine zcV (ci := 4) (q0 := 0) (As := [.int (iI s9)]) (rest := []) ⟨hx, hb, hml, hown, ht⟩ v_MO_117 (c_MO_none l g r ut uc la wo bw mt ms s9 (by omega)) ⟨Nat.le_of_ble_eq_true rfl, Nat.le_of_ble_eq_true rfl⟩ ⟨Nat.zero_le _, Nat.zero_le _⟩ hK hZ hS hP rfl rfl rfl rfl hl.1 rfl (Nat.le_of_ble_eq_true rfl) d_MO_same_2 (fun r_2 h_2 => ?_)
  rcases h_2 with ⟨h_2, rfl⟩ | ⟨h_2, rfl⟩
  · refine ix_if_ne (tgt := 16) hx hb d_MO_same_5 (by decide) (by omega) (fun c_5 => ?_) (fun c_5 => ?_)
    · refine lv_bipush (v := iI (-2)) hx hb d_MO_same_16 (by decide) ?_
      subst hQ
      exact W.iret (v := iI ((-2))) hx hb hr (fun t h9 hW => ⟨_, rfl, Or.inl ⟨by omega, rfl⟩, h9⟩) (fun _ h9 => by cases h9) d_MO_same_18
    · exact absurd c_5 (by decide)
  · refine ix_if_ne (tgt := 16) hx hb d_MO_same_5 (by decide) (by omega) (fun c_5 => ?_) (fun c_5 => ?_)
    · exact absurd c_5 (by decide)
    · refine lv_aload_n hx hb d_MO_same_8 rfl (lv_at hl 0 rfl) ?_
      refine lv_iload_n hx hb d_MO_same_9 rfl (lv_at hl 2 rfl) ?_
      refine zcV (ci := 4) (q0 := 0) (As := [.int (iI t9)]) (rest := []) ⟨hx, hb, hml, hown, ht⟩ v_MO_117 (c_MO_none l g r ut uc la wo bw mt ms t9 (by omega)) ⟨Nat.le_of_ble_eq_true rfl, Nat.le_of_ble_eq_true rfl⟩ ⟨Nat.zero_le _, Nat.zero_le _⟩ hK hZ hS hP rfl rfl rfl rfl hl.1 rfl (Nat.le_of_ble_eq_true rfl) d_MO_same_10 (fun r_10 h_10 => ?_)
      rcases h_10 with ⟨h_10, rfl⟩ | ⟨h_10, rfl⟩
      · refine ix_if_eq (tgt := 19) hx hb d_MO_same_13 (by decide) (by omega) (fun c_13 => ?_) (fun c_13 => ?_)
        · exact absurd c_13 (by decide)
        · refine lv_bipush (v := iI (-2)) hx hb d_MO_same_16 (by decide) ?_
          subst hQ
          exact W.iret (v := iI ((-2))) hx hb hr (fun t h9 hW => ⟨_, rfl, Or.inl ⟨by omega, rfl⟩, h9⟩) (fun _ h9 => by cases h9) d_MO_same_18
      · refine ix_if_eq (tgt := 19) hx hb d_MO_same_13 (by decide) (by omega) (fun c_13 => ?_) (fun c_13 => ?_)
        · obtain ⟨sn, hsn⟩ : ∃ sn : Nat, s9 = ((sn : Nat) : Int) := ⟨s9.toNat, by omega⟩
          obtain ⟨tn, htn⟩ : ∃ tn : Nat, t9 = ((tn : Nat) : Int) := ⟨t9.toNat, by omega⟩
          rw [hsn, htn] at hl
          refine lv_lconst (v := lN 0) hx hb d_MO_same_19 (by decide) ?_
          refine lv_lstore_n (lv' := [(3, .long (lN 0)), (0, .ref (r 0)), (1, .int (iI (((sn : Nat) : Int)))), (2, .int (iI (((tn : Nat) : Int))))]) hx hb d_MO_same_20 rfl hl (by decide) rfl (fun ls hl => ?_)
          refine lv_iconst (v := iI 0) hx hb d_MO_same_21 rfl ?_
          refine lv_istore (lv' := [(5, .int (iI 0)), (3, .long (lN 0)), (0, .ref (r 0)), (1, .int (iI (((sn : Nat) : Int)))), (2, .int (iI (((tn : Nat) : Int))))]) hx hb d_MO_same_22 hl (by decide) rfl (fun ls hl => ?_)
          exact J24 (_ + 1) sn tn 0 0 ls (Nat.lt_succ_self _) (lv_sub hl [2, 3, 4, 1, 0] rfl) (by exact hsn) (by exact htn) (by omega) (by omega) (by omega) (by decide) (by exact ⟨fun _ v hv => absurd hv (by omega), fun _ => rfl⟩)
        · exact absurd c_13 (by decide)
set_option maxHeartbeats 4000000 in
set_option maxRecDepth 100000 in
theorem c_MO_has (l : Launch) (g : zG) (r : Nat → Nat) (ut uc la wo : Int) (bw : Nat → Nat) (mt : Nat → Int) (ms : Int) (s9 c : Int) (hs9 : -2147483648 ≤ s9 ∧ s9 ≤ 2147483647)(hc : -2147483648 ≤ c ∧ c ≤ 2147483647)(nw last : Nat) (hwo : wo = ((nw : Nat) : Int)) (hnw : nw ≤ 17408) (hla : la = ((last : Nat) : Int)) (hlw : 64 * nw = last + 1) (hbw : ∀ j, bw j < 18446744073709551616) (hla2 : last ≤ 1114111) : Met l y_MO_has w_MO_has (zr 1 22) (zP g [.ref (r 0), .int (iI s9), .int (iI c)] [(r 0, .inr (4, [.int (iI ut), .int (iI uc), .int (iI la), .int (iI wo), .ref (r 1), .ref (r 2), .ref (r 3), .int (iI ms), .ref (r 4)])), (r 1, .inl (zJ g, 139264, .inr (.inl (lA bw)))), (r 2, .inl (zBt g, 12544, .inl (ai kF))), (r 3, .inl (zI g, 4, .inl (ai mt))), (r 4, .inl (zI g, 14, .inl (ai PT)))]) (vp_Si (fun z => ((¬ (0 ≤ s9 ∧ s9 ≤ 7)) ∧ z = iI (-2)) ∨ (¬ (¬ (0 ≤ s9 ∧ s9 ≤ 7)) ∧ (((0 ≤ c ∧ c ≤ la ∧ bt bw s9.toNat c.toNat = true) ∧ z = iI 1) ∨ (¬ (0 ≤ c ∧ c ≤ la ∧ bt bw s9.toNat c.toNat = true) ∧ z = iI 0))))) 0 0 (fun _ => False) := by
  refine Met.ofW (cc := b_MO_has) (maxL := 3) (ret := (some .int)) (by decide) rfl ?_
  intro p e s m args below meth cd s₁ B hml hv
  obtain ⟨hargs, hP, hK, hZ⟩ := hv
  have hx := B.exec
  have hb := B.bytes
  have hr := B.returns
  have ht : ∀ w ∈ lw_ok, w.before args s = true := fun w h => atoms_spec (ws := w_MO_has) B.pre w (List.mem_cons_of_mem _ h)
  have hown : s.vm.findClass R_MO = some m.cls := findClass_of_methodNamed B.named
  have hlocks := B.notSynchronized
  have hS : va_S (fun _ => False) s.heap s.heap [] := va_S.rf
  generalize hQ : MQ below _ args s 0 0 _ = Q
  have hl := lv_entry ([.ref (r 0), .int (iI s9), .int (iI c)]) (n := 3) (Nat.le_of_ble_eq_true rfl)
  rw [show entryFrame m args 3 = entryFrame m ([.ref (r 0), .int (iI s9), .int (iI c)] : List Value).toArray 3 by rw [hargs], lg_entry_eq]
  generalize (lg_sl ([.ref (r 0), .int (iI s9), .int (iI c)]) ++ List.replicate (3 - (lg_sl ([.ref (r 0), .int (iI s9), .int (iI c)])).length) Slot.unset).toArray = ls at hl ⊢
  have hl : lv_has ls 3 [(0, .ref (r 0)), (1, .int (iI s9)), (2, .int (iI c))] := hl
  refine lv_aload_n hx hb d_MO_has_0 rfl (lv_at hl 0 rfl) ?_
  refine lv_iload_n hx hb d_MO_has_1 rfl (lv_at hl 1 rfl) ?_
  refine zcV (ci := 4) (q0 := 0) (As := [.int (iI s9)]) (rest := []) ⟨hx, hb, hml, hown, ht⟩ v_MO_117 (c_MO_none l g r ut uc la wo bw mt ms s9 (by omega)) ⟨Nat.le_of_ble_eq_true rfl, Nat.le_of_ble_eq_true rfl⟩ ⟨Nat.zero_le _, Nat.zero_le _⟩ hK hZ hS hP rfl rfl rfl rfl hl.1 rfl (Nat.le_of_ble_eq_true rfl) d_MO_has_2 (fun r_2 h_2 => ?_)
  rcases h_2 with ⟨h_2, rfl⟩ | ⟨h_2, rfl⟩
  · refine ix_if_eq (tgt := 11) hx hb d_MO_has_5 (by decide) (by omega) (fun c_5 => ?_) (fun c_5 => ?_)
    · exact absurd c_5 (by decide)
    · refine lv_bipush (v := iI (-2)) hx hb d_MO_has_8 (by decide) ?_
      subst hQ
      exact W.iret (v := iI ((-2))) hx hb hr (fun t h9 hW => ⟨_, rfl, Or.inl ⟨by omega, rfl⟩, h9⟩) (fun _ h9 => by cases h9) d_MO_has_10
  · refine ix_if_eq (tgt := 11) hx hb d_MO_has_5 (by decide) (by omega) (fun c_5 => ?_) (fun c_5 => ?_)
    · refine lv_iload_n hx hb d_MO_has_11 rfl (lv_at hl 2 rfl) ?_
      refine ix_if_lt (tgt := 36) hx hb d_MO_has_12 (by decide) (by omega) (fun c_12 => ?_) (fun c_12 => ?_)
      · refine lv_iconst (v := iI 0) hx hb d_MO_has_36 rfl ?_
        subst hQ
        exact W.iret (v := iI 0) hx hb hr (fun t h9 hW => ⟨_, rfl, Or.inr ⟨by omega, Or.inr ⟨fun q9 => by omega, rfl⟩⟩, h9⟩) (fun _ h9 => by cases h9) d_MO_has_37
      · refine lv_iload_n hx hb d_MO_has_15 rfl (lv_at hl 2 rfl) ?_
        refine lv_aload_n hx hb d_MO_has_16 rfl (lv_at hl 0 rfl) ?_
        refine va_get (D := g.1) (ci := 4) (v := .int (iI la)) (C := R_MO) (T := F_MO) (N := 9) hx hb ht i_MO hown hK hP 0 rfl rfl 2 (by decide) (ht _ k_420) (fun _ h9 => h9) rfl d_MO_has_17 ?_
        refine ix_icmp_gt (tgt := 36) hx hb d_MO_has_20 (by decide) (by omega) (fun c_20 => ?_) (fun c_20 => ?_)
        · refine lv_iconst (v := iI 0) hx hb d_MO_has_36 rfl ?_
          subst hQ
          exact W.iret (v := iI 0) hx hb hr (fun t h9 hW => ⟨_, rfl, Or.inr ⟨by omega, Or.inr ⟨fun q9 => by omega, rfl⟩⟩, h9⟩) (fun _ h9 => by cases h9) d_MO_has_37
        · obtain ⟨sn, hsn⟩ : ∃ sn : Nat, s9 = ((sn : Nat) : Int) := ⟨s9.toNat, by omega⟩
          obtain ⟨cn, hcn⟩ : ∃ cn : Nat, c = ((cn : Nat) : Int) := ⟨c.toNat, by omega⟩
          have hsn9 : s9.toNat = sn := by omega
          have hcn9 : c.toNat = cn := by omega
          rw [hsn, hcn] at hl
          refine lv_aload_n hx hb d_MO_has_23 rfl (lv_at hl 0 rfl) ?_
          refine lv_iload_n hx hb d_MO_has_24 rfl (lv_at hl 1 rfl) ?_
          refine lv_iload_n hx hb d_MO_has_25 rfl (lv_at hl 2 rfl) ?_
          refine zcV (ci := 4) (q0 := 0) (As := [.int (iI (((sn : Nat) : Int))), .int (iI (((cn : Nat) : Int)))]) (rest := []) ⟨hx, hb, hml, hown, ht⟩ v_MO_158 (c_MO_in l g r ut uc la wo bw mt ms sn cn (by omega) (by omega) hbw) ⟨Nat.le_of_ble_eq_true rfl, Nat.le_of_ble_eq_true rfl⟩ ⟨Nat.zero_le _, Nat.zero_le _⟩ hK hZ hS hP rfl rfl rfl rfl hl.1 rfl (Nat.le_of_ble_eq_true rfl) d_MO_has_26 (fun r_26 h_26 => ?_)
          rcases h_26 with ⟨h_26, rfl⟩ | ⟨h_26, rfl⟩
          · rw [← hsn9, ← hcn9] at h_26
            refine ix_if_eq (tgt := 36) hx hb d_MO_has_29 (by decide) (by omega) (fun c_29 => ?_) (fun c_29 => ?_)
            · exact absurd c_29 (by decide)
            · refine lv_iconst (v := iI 1) hx hb d_MO_has_32 rfl ?_
              refine lv_goto (tgt := 37) hx hb d_MO_has_33 (by decide) ?_
              subst hQ
              exact W.iret (v := iI 1) hx hb hr (fun t h9 hW => ⟨_, rfl, Or.inr ⟨by omega, Or.inl ⟨⟨by omega, by omega, h_26⟩, rfl⟩⟩, h9⟩) (fun _ h9 => by cases h9) d_MO_has_37
          · rw [← hsn9, ← hcn9] at h_26
            refine ix_if_eq (tgt := 36) hx hb d_MO_has_29 (by decide) (by omega) (fun c_29 => ?_) (fun c_29 => ?_)
            · refine lv_iconst (v := iI 0) hx hb d_MO_has_36 rfl ?_
              subst hQ
              exact W.iret (v := iI 0) hx hb hr (fun t h9 hW => ⟨_, rfl, Or.inr ⟨by omega, Or.inr ⟨fun q9 => h_26 q9.2.2, rfl⟩⟩, h9⟩) (fun _ h9 => by cases h9) d_MO_has_37
            · exact absurd c_29 (by decide)
    · exact absurd c_5 (by decide)
set_option maxHeartbeats 4000000 in
set_option maxRecDepth 100000 in
theorem c_MO_size (l : Launch) (g : zG) (r : Nat → Nat) (ut uc la wo : Int) (bw : Nat → Nat) (mt : Nat → Int) (ms : Int) (s9 : Int) (hs9 : -2147483648 ≤ s9 ∧ s9 ≤ 2147483647)(nw last : Nat) (hwo : wo = ((nw : Nat) : Int)) (hnw : nw ≤ 17408) (hla : la = ((last : Nat) : Int)) (hlw : 64 * nw = last + 1) (hbw : ∀ j, bw j < 18446744073709551616) : Met l y_MO_size w_MO_size (zr 2 47) (zP g [.ref (r 0), .int (iI s9)] [(r 0, .inr (4, [.int (iI ut), .int (iI uc), .int (iI la), .int (iI wo), .ref (r 1), .ref (r 2), .ref (r 3), .int (iI ms), .ref (r 4)])), (r 1, .inl (zJ g, 139264, .inr (.inl (lA bw)))), (r 2, .inl (zBt g, 12544, .inl (ai kF))), (r 3, .inl (zI g, 4, .inl (ai mt))), (r 4, .inl (zI g, 14, .inl (ai PT)))]) (vp_Si (fun z => ((¬ (0 ≤ s9 ∧ s9 ≤ 7)) ∧ z = iI (-2)) ∨ (¬ (¬ (0 ≤ s9 ∧ s9 ≤ 7)) ∧ z = iI ((cnt (bt bw s9.toNat) (last + 1) : Nat) : Int)))) 0 0 (fun _ => False) := by
  refine Met.ofW (cc := b_MO_size) (maxL := 2) (ret := (some .int)) (by decide) rfl ?_
  intro p e s m args below meth cd s₁ B hml hv
  obtain ⟨hargs, hP, hK, hZ⟩ := hv
  have hx := B.exec
  have hb := B.bytes
  have hr := B.returns
  have ht : ∀ w ∈ lw_ok, w.before args s = true := fun w h => atoms_spec (ws := w_MO_size) B.pre w (List.mem_cons_of_mem _ h)
  have hown : s.vm.findClass R_MO = some m.cls := findClass_of_methodNamed B.named
  have hlocks := B.notSynchronized
  have hS : va_S (fun _ => False) s.heap s.heap [] := va_S.rf
  generalize hQ : MQ below _ args s 0 0 _ = Q
  have hl := lv_entry ([.ref (r 0), .int (iI s9)]) (n := 2) (Nat.le_of_ble_eq_true rfl)
  rw [show entryFrame m args 2 = entryFrame m ([.ref (r 0), .int (iI s9)] : List Value).toArray 2 by rw [hargs], lg_entry_eq]
  generalize (lg_sl ([.ref (r 0), .int (iI s9)]) ++ List.replicate (2 - (lg_sl ([.ref (r 0), .int (iI s9)])).length) Slot.unset).toArray = ls at hl ⊢
  have hl : lv_has ls 2 [(0, .ref (r 0)), (1, .int (iI s9))] := hl
  refine lv_aload_n hx hb d_MO_size_0 rfl (lv_at hl 0 rfl) ?_
  refine lv_iload_n hx hb d_MO_size_1 rfl (lv_at hl 1 rfl) ?_
  refine zcV (ci := 4) (q0 := 0) (As := [.int (iI s9)]) (rest := []) ⟨hx, hb, hml, hown, ht⟩ v_MO_117 (c_MO_none l g r ut uc la wo bw mt ms s9 (by omega)) ⟨Nat.le_of_ble_eq_true rfl, Nat.le_of_ble_eq_true rfl⟩ ⟨Nat.zero_le _, Nat.zero_le _⟩ hK hZ hS hP rfl rfl rfl rfl hl.1 rfl (Nat.le_of_ble_eq_true rfl) d_MO_size_2 (fun r_2 h_2 => ?_)
  rcases h_2 with ⟨h_2, rfl⟩ | ⟨h_2, rfl⟩
  · refine ix_if_eq (tgt := 13) hx hb d_MO_size_5 (by decide) (by omega) (fun c_5 => ?_) (fun c_5 => ?_)
    · exact absurd c_5 (by decide)
    · refine lv_bipush (v := iI (-2)) hx hb d_MO_size_8 (by decide) ?_
      refine lv_goto (tgt := 18) hx hb d_MO_size_10 (by decide) ?_
      subst hQ
      exact W.iret (v := iI ((-2))) hx hb hr (fun t h9 hW => ⟨_, rfl, Or.inl ⟨by omega, rfl⟩, h9⟩) (fun _ h9 => by cases h9) d_MO_size_18
  · refine ix_if_eq (tgt := 13) hx hb d_MO_size_5 (by decide) (by omega) (fun c_5 => ?_) (fun c_5 => ?_)
    · obtain ⟨sn, hsn⟩ : ∃ sn : Nat, s9 = ((sn : Nat) : Int) := ⟨s9.toNat, by omega⟩
      rw [hsn] at hl
      refine lv_aload_n hx hb d_MO_size_13 rfl (lv_at hl 0 rfl) ?_
      refine lv_iload_n hx hb d_MO_size_14 rfl (lv_at hl 1 rfl) ?_
      refine zcV (ci := 4) (q0 := 0) (As := [.int (iI (((sn : Nat) : Int)))]) (rest := []) ⟨hx, hb, hml, hown, ht⟩ v_MO_155 (c_MO_count l g r ut uc la wo bw mt ms sn nw hwo hnw (by omega) hbw) ⟨Nat.le_of_ble_eq_true rfl, Nat.le_of_ble_eq_true rfl⟩ ⟨Nat.zero_le _, Nat.zero_le _⟩ hK hZ hS hP rfl rfl rfl rfl hl.1 rfl (Nat.le_of_ble_eq_true rfl) d_MO_size_15 (fun r_15 h_15 => ?_)
      subst h_15
      subst hQ
      exact W.iret (v := iI ((((cnt (bt bw sn) (64 * nw)) : Nat) : Int))) hx hb hr (fun t h9 hW => ⟨_, rfl, Or.inr ⟨by omega, by rw [hsn, ← hlw]; rfl⟩, h9⟩) (fun _ h9 => by cases h9) d_MO_size_18
    · exact absurd c_5 (by decide)
