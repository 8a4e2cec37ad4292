set_option maxHeartbeats 4000000 in
set_option maxRecDepth 100000 in
theorem c_MO_least (l : Launch) (g : zG) (r : Nat → Nat) (ut uc la wo : Int) (bw : Nat → Nat) (mt : Nat → Int) (ms : Int) (s9 c : Int) (hs9 : -2147483648 ≤ s9 ∧ s9 ≤ 2147483647)(hc : -2147483648 ≤ c ∧ c ≤ 2147483647)(nw last : Nat) (hwo : wo = ((nw : Nat) : Int)) (hnw : nw ≤ 17408) (hla : la = ((last : Nat) : Int)) (hlw : 64 * nw = last + 1) (hbw : ∀ j, bw j < 18446744073709551616) (hla2 : last ≤ 1114111) : Met l y_MO_least w_MO_least (zr 1 22) (zP g [.ref (r 0), .int (iI s9), .int (iI c)] [(r 0, .inr (4, [.int (iI ut), .int (iI uc), .int (iI la), .int (iI wo), .ref (r 1), .ref (r 2), .ref (r 3), .int (iI ms), .ref (r 4)])), (r 1, .inl (zJ g, 139264, .inr (.inl (lA bw)))), (r 2, .inl (zBt g, 12544, .inl (ai kF))), (r 3, .inl (zI g, 4, .inl (ai mt))), (r 4, .inl (zI g, 14, .inl (ai PT)))]) (vp_Si (fun z => ((¬ (0 ≤ s9 ∧ s9 ≤ 7)) ∧ z = iI (-2)) ∨ (¬ (¬ (0 ≤ s9 ∧ s9 ≤ 7)) ∧ ∃ m9 : Int, z = iI m9 ∧ Lst last (bt bw s9.toNat) c m9))) 0 0 (fun _ => False) := by
  refine Met.ofW (cc := b_MO_least) (maxL := 4) (ret := (some .int)) (by decide) rfl ?_
  intro p e s m args below meth cd s₁ B hml hv
  obtain ⟨hargs, hP, hK, hZ⟩ := hv
  have hx := B.exec
  have hb := B.bytes
  have hr := B.returns
  have ht : ∀ w ∈ lw_ok, w.before args s = true := fun w h => atoms_spec (ws := w_MO_least) B.pre w (List.mem_cons_of_mem _ h)
  have hown : s.vm.findClass R_MO = some m.cls := findClass_of_methodNamed B.named
  have hlocks := B.notSynchronized
  have hS : va_S (fun _ => False) s.heap s.heap [] := va_S.rf
  generalize hQ : MQ below _ args s 0 0 _ = Q
  have hl := lv_entry ([.ref (r 0), .int (iI s9), .int (iI c)]) (n := 4) (Nat.le_of_ble_eq_true rfl)
  rw [show entryFrame m args 4 = entryFrame m ([.ref (r 0), .int (iI s9), .int (iI c)] : List Value).toArray 4 by rw [hargs], lg_entry_eq]
  generalize (lg_sl ([.ref (r 0), .int (iI s9), .int (iI c)]) ++ List.replicate (4 - (lg_sl ([.ref (r 0), .int (iI s9), .int (iI c)])).length) Slot.unset).toArray = ls at hl ⊢
  have hl : lv_has ls 4 [(0, .ref (r 0)), (1, .int (iI s9)), (2, .int (iI c))] := hl
  have J21 : ∀ fu : Nat, ∀ (sn f : Nat) (ls : Array Slot), 2147483648 - f < fu → lv_has ls 4 [(0, .ref (r 0)), (1, .int (iI (((sn : Nat) : Int)))), (3, .int (iI (((f : Nat) : Int))))] → (s9 = ((sn : Nat) : Int)) → (sn < 8) → (f ≤ 2147483647) → (c ≤ ((f : Nat) : Int)) → (∀ d : Nat, c ≤ ((d : Nat) : Int) → d < f → bt bw sn d = false) → W p l e (headSpec w_MO_least (zr 1 22)).room s m args below meth cd s.heap [] 0 0 Q (F0 m 21 ls []) := by
    intro fu
    induction fu with
    | zero => exact fun _ _ _ hfu _ _ _ _ _ _ => absurd hfu (Nat.not_lt_zero _)
    | succ fu ih =>
      intro sn f ls hfu hl hs9n hsn8 h1 h2 hno
      refine lv_iload_n hx hb d_MO_least_21 rfl (lv_at hl 2 rfl) ?_
      refine lv_aload_n hx hb d_MO_least_22 rfl (lv_at hl 0 rfl) ?_
      refine va_get (D := g.1) (ci := 4) (v := .int (iI la)) (C := R_MO) (T := F_MO) (N := 9) hx hb ht i_MO hown hK hP 0 rfl rfl 2 (by decide) (ht _ k_420) (fun _ h9 => h9) rfl d_MO_least_23 ?_
      refine ix_icmp_gt (tgt := 79) hx hb d_MO_least_26 (by decide) (by omega) (fun c_26 => ?_) (fun c_26 => ?_)
      · refine lv_iconst (v := iI (-1)) hx hb d_MO_least_79 rfl ?_
        subst hQ
        exact W.iret (v := iI ((-1))) hx hb hr (fun t h9 hW => ⟨_, rfl, Or.inr ⟨by omega, -1, rfl, by rw [hs9n]; exact Or.inl ⟨rfl, fun d a9 b9 => hno d b9 (by omega)⟩⟩, h9⟩) (fun _ h9 => by cases h9) d_MO_least_80
      · refine lv_aload_n hx hb d_MO_least_29 rfl (lv_at hl 0 rfl) ?_
        refine va_get (D := g.1) (ci := 4) (v := .ref (r 1)) (C := R_MO) (T := F_MO) (N := 9) hx hb ht i_MO hown hK hP 0 rfl rfl 4 (by decide) (ht _ k_422) (fun _ h9 => h9) rfl d_MO_least_30 ?_
        refine lv_iload_n hx hb d_MO_least_33 rfl (lv_at hl 1 rfl) ?_
        refine lv_sipush (v := iI 17408) hx hb d_MO_least_34 (by decide) ?_
        refine ix_imul hx hb d_MO_least_37 ?_
        refine lv_iload_n hx hb d_MO_least_38 rfl (lv_at hl 2 rfl) ?_
        refine lv_bipush (v := iI 6) hx hb d_MO_least_39 (by decide) ?_
        refine ix_shr6 hx hb d_MO_least_41 (by omega) ?_
        refine ix_iadd hx hb d_MO_least_42 ?_
        refine ix_lald hx hb hK hP 1 1 rfl rfl (i := (((((sn : Nat) : Int)) * 17408) + ((((f : Nat) : Int)) / 64))) ((sn * 17408) + (f / 64)) (by omega) d_MO_least_43 ?_
        refine lv_lconst (v := lN 0) hx hb d_MO_least_44 (by decide) ?_
        refine W.lcmp hx hb d_MO_least_45 ?_
        refine lv_if_ne (tgt := 62) hx hb d_MO_least_46 (by decide) (fun c_46 => ?_) (fun c_46 => ?_)
        · refine lv_aload_n hx hb d_MO_least_62 rfl (lv_at hl 0 rfl) ?_
          refine lv_iload_n hx hb d_MO_least_63 rfl (lv_at hl 1 rfl) ?_
          refine lv_iload_n hx hb d_MO_least_64 rfl (lv_at hl 2 rfl) ?_
          refine zcV (ci := 4) (q0 := 0) (As := [.int (iI (((sn : Nat) : Int))), .int (iI (((f : Nat) : Int)))]) (rest := []) ⟨hx, hb, hml, hown, ht⟩ v_MO_158 (c_MO_in l g r ut uc la wo bw mt ms sn f (by omega) (by omega) hbw) ⟨Nat.le_of_ble_eq_true rfl, Nat.le_of_ble_eq_true rfl⟩ ⟨Nat.zero_le _, Nat.zero_le _⟩ hK hZ hS hP rfl rfl rfl rfl hl.1 rfl (Nat.le_of_ble_eq_true rfl) d_MO_least_65 (fun r_65 h_65 => ?_)
          rcases h_65 with ⟨h_65, rfl⟩ | ⟨h_65, rfl⟩
          · refine ix_if_eq (tgt := 73) hx hb d_MO_least_68 (by decide) (by omega) (fun c_68 => ?_) (fun c_68 => ?_)
            · exact absurd c_68 (by decide)
            · refine lv_iload_n hx hb d_MO_least_71 rfl (lv_at hl 2 rfl) ?_
              subst hQ
              exact W.iret (v := iI (((f : Nat) : Int))) hx hb hr (fun t h9 hW => ⟨_, rfl, Or.inr ⟨by omega, ((f : Nat) : Int), rfl, by rw [hs9n]; exact Or.inr ⟨f, rfl, by omega, h2, h_65, hno⟩⟩, h9⟩) (fun _ h9 => by cases h9) d_MO_least_72
          · refine ix_if_eq (tgt := 73) hx hb d_MO_least_68 (by decide) (by omega) (fun c_68 => ?_) (fun c_68 => ?_)
            · refine lv_iinc (v := iI ((((f : Nat) : Int)) + 1)) (lv' := [(3, .int (iI ((((f : Nat) : Int)) + 1))), (0, .ref (r 0)), (1, .int (iI (((sn : Nat) : Int))))]) hx hb d_MO_least_73 hl (k := 2) rfl (iI_add _ _) (by decide) rfl (fun ls hl => ?_)
              refine lv_goto (tgt := 21) hx hb d_MO_least_76 (by decide) ?_
              exact ih sn (f + 1) ls (by omega) (lv_sub hl [1, 2, 0] rfl) (by exact hs9n) (by omega) (by omega) (by omega) (by exact fun d a9 b9 => (Nat.lt_or_ge d f).elim (fun q9 => hno d a9 q9) (fun q9 => by rw [show d = f by omega]; exact Bool.eq_false_iff.mpr h_65))
            · exact absurd c_68 (by decide)
        · have e9 : bw (sn * 17408 + f / 64) = 0 := (wb_eq (hbw _) (by decide)).mp (wb_lg0.mp c_46)
          refine lv_iload_n hx hb d_MO_least_49 rfl (lv_at hl 2 rfl) ?_
          refine lv_bipush (v := iI 6) hx hb d_MO_least_50 (by decide) ?_
          refine ix_shr6 hx hb d_MO_least_52 (by omega) ?_
          refine lv_iconst (v := iI 1) hx hb d_MO_least_53 rfl ?_
          refine ix_iadd hx hb d_MO_least_54 ?_
          refine lv_bipush (v := iI 6) hx hb d_MO_least_55 (by decide) ?_
          refine ix_shl6 hx hb d_MO_least_57 (by omega) ?_
          refine lv_istore_n (lv' := [(3, .int (iI ((((((f : Nat) : Int)) / 64) + 1) * 64))), (0, .ref (r 0)), (1, .int (iI (((sn : Nat) : Int))))]) hx hb d_MO_least_58 rfl hl (by decide) rfl (fun ls hl => ?_)
          refine lv_goto (tgt := 21) hx hb d_MO_least_59 (by decide) ?_
          exact ih sn ((f / 64 + 1) * 64) ls (by omega) (lv_sub hl [1, 2, 0] rfl) (by exact hs9n) (by omega) (by omega) (by omega) (by exact fun d a9 b9 => (Nat.lt_or_ge d f).elim (fun q9 => hno d a9 q9) (fun q9 => by rw [word_bt (show d / 64 = f / 64 by omega) e9]; exact Nat.zero_testBit _))
  refine lv_aload_n hx hb d_MO_least_0 rfl (lv_at hl 0 rfl) ?_
  refine lv_iload_n hx hb d_MO_least_1 rfl (lv_at hl 1 rfl) ?_
  refine zcV (ci := 4) (q0 := 0) (As := [.int (iI s9)]) (rest := []) ⟨hx, hb, hml, hown, ht⟩ v_MO_117 (c_MO_none l g r ut uc la wo bw mt ms s9 (by omega)) ⟨Nat.le_of_ble_eq_true rfl, Nat.le_of_ble_eq_true rfl⟩ ⟨Nat.zero_le _, Nat.zero_le _⟩ hK hZ hS hP rfl rfl rfl rfl hl.1 rfl (Nat.le_of_ble_eq_true rfl) d_MO_least_2 (fun r_2 h_2 => ?_)
  rcases h_2 with ⟨h_2, rfl⟩ | ⟨h_2, rfl⟩
  · refine ix_if_eq (tgt := 11) hx hb d_MO_least_5 (by decide) (by omega) (fun c_5 => ?_) (fun c_5 => ?_)
    · exact absurd c_5 (by decide)
    · refine lv_bipush (v := iI (-2)) hx hb d_MO_least_8 (by decide) ?_
      subst hQ
      exact W.iret (v := iI ((-2))) hx hb hr (fun t h9 hW => ⟨_, rfl, Or.inl ⟨by omega, rfl⟩, h9⟩) (fun _ h9 => by cases h9) d_MO_least_10
  · refine ix_if_eq (tgt := 11) hx hb d_MO_least_5 (by decide) (by omega) (fun c_5 => ?_) (fun c_5 => ?_)
    · obtain ⟨sn, hsn⟩ : ∃ sn : Nat, s9 = ((sn : Nat) : Int) := ⟨s9.toNat, by omega⟩
      rw [hsn] at hl
      refine lv_iload_n hx hb d_MO_least_11 rfl (lv_at hl 2 rfl) ?_
      refine ix_if_ge (tgt := 19) hx hb d_MO_least_12 (by decide) (by omega) (fun c_12 => ?_) (fun c_12 => ?_)
      · obtain ⟨cn, hcn⟩ : ∃ cn : Nat, c = ((cn : Nat) : Int) := ⟨c.toNat, by omega⟩
        rw [hcn] at hl
        refine lv_iload_n hx hb d_MO_least_19 rfl (lv_at hl 2 rfl) ?_
        refine lv_istore_n (lv' := [(3, .int (iI (((cn : Nat) : Int)))), (0, .ref (r 0)), (1, .int (iI (((sn : Nat) : Int)))), (2, .int (iI (((cn : Nat) : Int))))]) hx hb d_MO_least_20 rfl hl (by decide) rfl (fun ls hl => ?_)
        exact J21 (_ + 1) sn cn ls (Nat.lt_succ_self _) (lv_sub hl [1, 2, 0] rfl) (by exact hsn) (by omega) (by omega) (by omega) (by exact fun d a9 b9 => absurd b9 (by omega))
      · refine lv_iconst (v := iI 0) hx hb d_MO_least_15 rfl ?_
        refine lv_goto (tgt := 20) hx hb d_MO_least_16 (by decide) ?_
        refine lv_istore_n (lv' := [(3, .int (iI 0)), (0, .ref (r 0)), (1, .int (iI (((sn : Nat) : Int)))), (2, .int (iI c))]) hx hb d_MO_least_20 rfl hl (by decide) rfl (fun ls hl => ?_)
        exact J21 (_ + 1) sn 0 ls (Nat.lt_succ_self _) (lv_sub hl [1, 2, 0] rfl) (by exact hsn) (by omega) (by omega) (by omega) (by exact fun d a9 b9 => absurd b9 (by omega))
    · exact absurd c_5 (by decide)
set_option maxHeartbeats 4000000 in
set_option maxRecDepth 100000 in
theorem c_MO_after (l : Launch) (g : zG) (r : Nat → Nat) (ut uc la wo : Int) (bw : Nat → Nat) (mt : Nat → Int) (ms : Int) (sn cn : Nat) (nw last : Nat) (hwo : wo = ((nw : Nat) : Int)) (hnw : nw ≤ 17408) (hla : la = ((last : Nat) : Int)) (hlw : 64 * nw = last + 1) (hbw : ∀ j, bw j < 18446744073709551616) (hla2 : last ≤ 1114111) (hsn8 : sn < 8) (hcl : cn ≤ last + 1) : Met l y_MO_after w_MO_after (zr 1 22) (zP g [.ref (r 0), .int (iI (((sn : Nat) : Int))), .int (iI (((cn : Nat) : Int)))] [(r 0, .inr (4, [.int (iI ut), .int (iI uc), .int (iI la), .int (iI wo), .ref (r 1), .ref (r 2), .ref (r 3), .int (iI ms), .ref (r 4)])), (r 1, .inl (zJ g, 139264, .inr (.inl (lA bw)))), (r 2, .inl (zBt g, 12544, .inl (ai kF))), (r 3, .inl (zI g, 4, .inl (ai mt))), (r 4, .inl (zI g, 14, .inl (ai PT)))]) (vp_Si (fun z => ∃ a9 : Nat, z = iI ((a9 : Nat) : Int) ∧ Aft last (bt bw sn) cn a9)) 0 0 (fun _ => False) := by
  refine Met.ofW (cc := b_MO_after) (maxL := 4) (ret := (some .int)) (by decide) rfl ?_
  intro p e s m args below meth cd s₁ B hml hv
  obtain ⟨hargs, hP, hK, hZ⟩ := hv
  have hx := B.exec
  have hb := B.bytes
  have hr := B.returns
  have ht : ∀ w ∈ lw_ok, w.before args s = true := fun w h => atoms_spec (ws := w_MO_after) B.pre w (List.mem_cons_of_mem _ h)
  have hown : s.vm.findClass R_MO = some m.cls := findClass_of_methodNamed B.named
  have hlocks := B.notSynchronized
  have hS : va_S (fun _ => False) s.heap s.heap [] := va_S.rf
  generalize hQ : MQ below _ args s 0 0 _ = Q
  have hl := lv_entry ([.ref (r 0), .int (iI (((sn : Nat) : Int))), .int (iI (((cn : Nat) : Int)))]) (n := 4) (Nat.le_of_ble_eq_true rfl)
  rw [show entryFrame m args 4 = entryFrame m ([.ref (r 0), .int (iI (((sn : Nat) : Int))), .int (iI (((cn : Nat) : Int)))] : List Value).toArray 4 by rw [hargs], lg_entry_eq]
  generalize (lg_sl ([.ref (r 0), .int (iI (((sn : Nat) : Int))), .int (iI (((cn : Nat) : Int)))]) ++ List.replicate (4 - (lg_sl ([.ref (r 0), .int (iI (((sn : Nat) : Int))), .int (iI (((cn : Nat) : Int)))])).length) Slot.unset).toArray = ls at hl ⊢
  have hl : lv_has ls 4 [(0, .ref (r 0)), (1, .int (iI (((sn : Nat) : Int)))), (2, .int (iI (((cn : Nat) : Int))))] := hl
  have J2 : ∀ fu : Nat, ∀ (f : Nat) (ls : Array Slot), last + 1 - f < fu → lv_has ls 4 [(0, .ref (r 0)), (1, .int (iI (((sn : Nat) : Int)))), (3, .int (iI (((f : Nat) : Int))))] → (f ≤ last + 1) → (cn ≤ f) → (∀ d : Nat, cn ≤ d → d < f → bt bw sn d = true) → W p l e (headSpec w_MO_after (zr 1 22)).room s m args below meth cd s.heap [] 0 0 Q (F0 m 2 ls []) := by
    intro fu
    induction fu with
    | zero => exact fun _ _ hfu _ _ _ _ => absurd hfu (Nat.not_lt_zero _)
    | succ fu ih =>
      intro f ls hfu hl h1 h2 hno
      refine lv_iload_n hx hb d_MO_after_2 rfl (lv_at hl 2 rfl) ?_
      refine lv_aload_n hx hb d_MO_after_3 rfl (lv_at hl 0 rfl) ?_
      refine va_get (D := g.1) (ci := 4) (v := .int (iI la)) (C := R_MO) (T := F_MO) (N := 9) hx hb ht i_MO hown hK hP 0 rfl rfl 2 (by decide) (ht _ k_420) (fun _ h9 => h9) rfl d_MO_after_4 ?_
      refine ix_icmp_gt (tgt := 62) hx hb d_MO_after_7 (by decide) (by omega) (fun c_7 => ?_) (fun c_7 => ?_)
      · refine lv_iload_n hx hb d_MO_after_62 rfl (lv_at hl 2 rfl) ?_
        subst hQ
        exact W.iret (v := iI (((f : Nat) : Int))) hx hb hr (fun t h9 hW => ⟨_, rfl, ⟨f, rfl, h2, h1, hno, Or.inl (by omega)⟩, h9⟩) (fun _ h9 => by cases h9) d_MO_after_63
      · refine lv_aload_n hx hb d_MO_after_10 rfl (lv_at hl 0 rfl) ?_
        refine va_get (D := g.1) (ci := 4) (v := .ref (r 1)) (C := R_MO) (T := F_MO) (N := 9) hx hb ht i_MO hown hK hP 0 rfl rfl 4 (by decide) (ht _ k_422) (fun _ h9 => h9) rfl d_MO_after_11 ?_
        refine lv_iload_n hx hb d_MO_after_14 rfl (lv_at hl 1 rfl) ?_
        refine lv_sipush (v := iI 17408) hx hb d_MO_after_15 (by decide) ?_
        refine ix_imul hx hb d_MO_after_18 ?_
        refine lv_iload_n hx hb d_MO_after_19 rfl (lv_at hl 2 rfl) ?_
        refine lv_bipush (v := iI 6) hx hb d_MO_after_20 (by decide) ?_
        refine ix_shr6 hx hb d_MO_after_22 (by omega) ?_
        refine ix_iadd hx hb d_MO_after_23 ?_
        refine ix_lald hx hb hK hP 1 1 rfl rfl (i := (((((sn : Nat) : Int)) * 17408) + ((((f : Nat) : Int)) / 64))) ((sn * 17408) + (f / 64)) (by omega) d_MO_after_24 ?_
        refine lv_ldc2 (v := (-1 : Int64)) hx hb hown (ht _ k_464) d_MO_after_25 ?_
        rw [show (-1 : Int64) = lN 18446744073709551615 by decide]
        refine W.lcmp hx hb d_MO_after_28 ?_
        refine lv_if_ne (tgt := 45) hx hb d_MO_after_29 (by decide) (fun c_29 => ?_) (fun c_29 => ?_)
        · refine lv_aload_n hx hb d_MO_after_45 rfl (lv_at hl 0 rfl) ?_
          refine lv_iload_n hx hb d_MO_after_46 rfl (lv_at hl 1 rfl) ?_
          refine lv_iload_n hx hb d_MO_after_47 rfl (lv_at hl 2 rfl) ?_
          refine zcV (ci := 4) (q0 := 0) (As := [.int (iI (((sn : Nat) : Int))), .int (iI (((f : Nat) : Int)))]) (rest := []) ⟨hx, hb, hml, hown, ht⟩ v_MO_158 (c_MO_in l g r ut uc la wo bw mt ms sn f (by omega) (by omega) hbw) ⟨Nat.le_of_ble_eq_true rfl, Nat.le_of_ble_eq_true rfl⟩ ⟨Nat.zero_le _, Nat.zero_le _⟩ hK hZ hS hP rfl rfl rfl rfl hl.1 rfl (Nat.le_of_ble_eq_true rfl) d_MO_after_48 (fun r_48 h_48 => ?_)
          rcases h_48 with ⟨h_48, rfl⟩ | ⟨h_48, rfl⟩
          · refine ix_if_ne (tgt := 56) hx hb d_MO_after_51 (by decide) (by omega) (fun c_51 => ?_) (fun c_51 => ?_)
            · refine lv_iinc (v := iI ((((f : Nat) : Int)) + 1)) (lv' := [(3, .int (iI ((((f : Nat) : Int)) + 1))), (0, .ref (r 0)), (1, .int (iI (((sn : Nat) : Int))))]) hx hb d_MO_after_56 hl (k := 2) rfl (iI_add _ _) (by decide) rfl (fun ls hl => ?_)
              refine lv_goto (tgt := 2) hx hb d_MO_after_59 (by decide) ?_
              exact ih (f + 1) ls (by omega) (lv_sub hl [1, 2, 0] rfl) (by omega) (by omega) (by exact fun d a9 b9 => (Nat.lt_or_ge d f).elim (fun q9 => hno d a9 q9) (fun q9 => by rw [show d = f by omega]; exact h_48))
            · exact absurd c_51 (by decide)
          · refine ix_if_ne (tgt := 56) hx hb d_MO_after_51 (by decide) (by omega) (fun c_51 => ?_) (fun c_51 => ?_)
            · exact absurd c_51 (by decide)
            · refine lv_iload_n hx hb d_MO_after_54 rfl (lv_at hl 2 rfl) ?_
              subst hQ
              exact W.iret (v := iI (((f : Nat) : Int))) hx hb hr (fun t h9 hW => ⟨_, rfl, ⟨f, rfl, h2, h1, hno, Or.inr (Bool.eq_false_iff.mpr h_48)⟩, h9⟩) (fun _ h9 => by cases h9) d_MO_after_55
        · have e9 : bw (sn * 17408 + f / 64) = 18446744073709551615 := (wb_eq (hbw _) (by decide)).mp (wb_lg0.mp c_29)
          refine lv_iload_n hx hb d_MO_after_32 rfl (lv_at hl 2 rfl) ?_
          refine lv_bipush (v := iI 6) hx hb d_MO_after_33 (by decide) ?_
          refine ix_shr6 hx hb d_MO_after_35 (by omega) ?_
          refine lv_iconst (v := iI 1) hx hb d_MO_after_36 rfl ?_
          refine ix_iadd hx hb d_MO_after_37 ?_
          refine lv_bipush (v := iI 6) hx hb d_MO_after_38 (by decide) ?_
          refine ix_shl6 hx hb d_MO_after_40 (by omega) ?_
          refine lv_istore_n (lv' := [(3, .int (iI ((((((f : Nat) : Int)) / 64) + 1) * 64))), (0, .ref (r 0)), (1, .int (iI (((sn : Nat) : Int))))]) hx hb d_MO_after_41 rfl hl (by decide) rfl (fun ls hl => ?_)
          refine lv_goto (tgt := 2) hx hb d_MO_after_42 (by decide) ?_
          exact ih ((f / 64 + 1) * 64) ls (by omega) (lv_sub hl [1, 2, 0] rfl) (by omega) (by omega) (by exact fun d a9 b9 => (Nat.lt_or_ge d f).elim (fun q9 => hno d a9 q9) (fun q9 => by rw [word_bt (show d / 64 = f / 64 by omega) e9]; exact ones64 _ (by omega)))
  refine lv_iload_n hx hb d_MO_after_0 rfl (lv_at hl 2 rfl) ?_
  refine lv_istore_n (lv' := [(3, .int (iI (((cn : Nat) : Int)))), (0, .ref (r 0)), (1, .int (iI (((sn : Nat) : Int)))), (2, .int (iI (((cn : Nat) : Int))))]) hx hb d_MO_after_1 rfl hl (by decide) rfl (fun ls hl => ?_)
  exact J2 (_ + 1) cn ls (Nat.lt_succ_self _) (lv_sub hl [1, 2, 0] rfl) (by omega) (by omega) (by exact fun d a9 b9 => absurd b9 (by omega))
