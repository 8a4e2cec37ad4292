set_option maxHeartbeats 4000000 in
set_option maxRecDepth 100000 in
theorem c_MO_invert (l : Launch) (g : zG) (sz : Nat) (r : Nat → Nat) (ut uc la wo : Int) (bw : Nat → Nat) (mt : Nat → Int) (ms : Int) (s9 : Int) (hs9 : -2147483648 ≤ s9 ∧ s9 ≤ 2147483647)(nw last : Nat) (hwo : wo = ((nw : Nat) : Int)) (hnw : nw ≤ 17408) (hla : la = ((last : Nat) : Int)) (hlw : 64 * nw = last + 1) (hbw : ∀ j, bw j < 18446744073709551616) : Met l y_MO_invert w_MO_invert { frames := 2, cells := 0, slots := 0, locals := 51 } (zPw g [.ref (r 0), .int (iI s9)] [(r 0, .inr (4, [.int (iI ut), .int (iI uc), .int (iI la), .int (iI wo), .ref (r 1), .ref (r 2), .ref (r 3), .int (iI ms), .ref (r 4)])), (r 1, .inl (zJ g, 139264, .inr (.inl (lA bw)))), (r 2, .inl (zBt g, 12544, .inl (ai kF))), (r 3, .inl (zI g, 4, .inl (ai mt))), (r 4, .inl (zI g, 14, .inl (ai PT)))] [] sz) (va_Qi (fun z w => (¬ (0 ≤ s9 ∧ s9 ≤ 7) ∧ z = iI (-2) ∧ w = [(r 0, .inr (4, [.int (iI ut), .int (iI uc), .int (iI la), .int (iI wo), .ref (r 1), .ref (r 2), .ref (r 3), .int (iI ms), .ref (r 4)])), (r 1, .inl (zJ g, 139264, .inr (.inl (lA bw)))), (r 2, .inl (zBt g, 12544, .inl (ai kF))), (r 3, .inl (zI g, 4, .inl (ai mt))), (r 4, .inl (zI g, 14, .inl (ai PT)))]) ∨ (0 ≤ s9 ∧ s9 ≤ 7 ∧ ∃ b2 : Nat → Nat, w = [(r 0, .inr (4, [.int (iI ut), .int (iI uc), .int (iI la), .int (iI wo), .ref (r 1), .ref (r 2), .ref (r 3), .int (iI ms), .ref (r 4)])), (r 1, .inl (zJ g, 139264, .inr (.inl (lA b2)))), (r 2, .inl (zBt g, 12544, .inl (ai kF))), (r 3, .inl (zI g, 4, .inl (ai mt))), (r 4, .inl (zI g, 14, .inl (ai PT)))] ∧ chg bw b2 s9.toNat (last + 1) (fun c => !bt bw s9.toNat c) ∧ z = iI (((cnt (rst (fun c => !bt bw s9.toNat c)) (last + 1) : Nat) : Int)))) (zB g (va_A [(r 0, .inr (4, [.int (iI ut), .int (iI uc), .int (iI la), .int (iI wo), .ref (r 1), .ref (r 2), .ref (r 3), .int (iI ms), .ref (r 4)])), (r 1, .inl (zJ g, 139264, .inr (.inl (lA bw)))), (r 2, .inl (zBt g, 12544, .inl (ai kF))), (r 3, .inl (zI g, 4, .inl (ai mt))), (r 4, .inl (zI g, 14, .inl (ai PT)))] sz)) (va_A [(r 0, .inr (4, [.int (iI ut), .int (iI uc), .int (iI la), .int (iI wo), .ref (r 1), .ref (r 2), .ref (r 3), .int (iI ms), .ref (r 4)])), (r 1, .inl (zJ g, 139264, .inr (.inl (lA bw)))), (r 2, .inl (zBt g, 12544, .inl (ai kF))), (r 3, .inl (zI g, 4, .inl (ai mt))), (r 4, .inl (zI g, 14, .inl (ai PT)))] sz)) 0 0 (va_A [(r 0, .inr (4, [.int (iI ut), .int (iI uc), .int (iI la), .int (iI wo), .ref (r 1), .ref (r 2), .ref (r 3), .int (iI ms), .ref (r 4)])), (r 1, .inl (zJ g, 139264, .inr (.inl (lA bw)))), (r 2, .inl (zBt g, 12544, .inl (ai kF))), (r 3, .inl (zI g, 4, .inl (ai mt))), (r 4, .inl (zI g, 14, .inl (ai PT)))] sz) := by
  refine Met.ofW (cc := b_MO_invert) (maxL := 3) (ret := (some .int)) (by decide) rfl ?_
  intro p e s m args below meth cd s₁ B hml hv
  obtain ⟨hargs, hsz, hP, hK, hD0, hZ, hO0, hAp⟩ := hv
  have hx := B.exec
  have hb := B.bytes
  have hr := B.returns
  have ht : ∀ w ∈ lw_ok, w.before args s = true := fun w h => atoms_spec (ws := w_MO_invert) B.pre w (List.mem_cons_of_mem _ h)
  have hown : s.vm.findClass R_MO = some m.cls := findClass_of_methodNamed B.named
  have hlocks := B.notSynchronized
  subst hsz
  have hD := hD0.self (sz := s.heap.size)
  generalize hAe : va_A [(r 0, .inr (4, [.int (iI ut), .int (iI uc), .int (iI la), .int (iI wo), .ref (r 1), .ref (r 2), .ref (r 3), .int (iI ms), .ref (r 4)])), (r 1, .inl (zJ g, 139264, .inr (.inl (lA bw)))), (r 2, .inl (zBt g, 12544, .inl (ai kF))), (r 3, .inl (zI g, 4, .inl (ai mt))), (r 4, .inl (zI g, 14, .inl (ai PT)))] s.heap.size = A at hD hZ hAp ⊢
  have hA : ∀ q : Nat, s.heap.size ≤ q → A q := fun q h => by rw [← hAe]; exact Or.inr h
  have hS : va_S A s.heap s.heap [] := va_S.rf
  generalize hQ : MQ below _ args s 0 0 _ = Q
  have hl := lv_entry ([.ref (r 0), .int (iI s9)]) (n := 3) (Nat.le_of_ble_eq_true rfl)
  rw [show entryFrame m args 3 = entryFrame m ([.ref (r 0), .int (iI s9)] : List Value).toArray 3 by rw [hargs], lg_entry_eq]
  generalize (lg_sl ([.ref (r 0), .int (iI s9)]) ++ List.replicate (3 - (lg_sl ([.ref (r 0), .int (iI s9)])).length) Slot.unset).toArray = ls at hl ⊢
  have hl : lv_has ls 3 [(0, .ref (r 0)), (1, .int (iI s9))] := hl
  obtain ⟨H, locs, hHe, hLe⟩ : ∃ (H : Heap) (locs : List Loc), H = s.heap ∧ locs = [] := ⟨_, _, rfl, rfl⟩
  rw [show W p l e _ s m args below meth cd s.heap [] 0 0 Q = W p l e _ s m args below meth cd H locs 0 0 Q by rw [hHe, hLe]]
  rw [← hHe] at hP
  have hS : va_S A s.heap H locs := by rw [hHe, hLe]; exact hS
  have J13 : ∀ fu : Nat, ∀ (sn w : Nat) (H : Heap) (locs : List Loc) (ls : Array Slot), nw - w < fu → lv_has ls 3 [(0, .ref (r 0)), (1, .int (iI (((sn : Nat) : Int)))), (2, .int (iI (((w : Nat) : Int))))] → (s9 = ((sn : Nat) : Int)) → (sn < 8) → (w ≤ nw) → va_P g.1 classes [(r 0, .inr (4, [.int (iI ut), .int (iI uc), .int (iI la), .int (iI wo), .ref (r 1), .ref (r 2), .ref (r 3), .int (iI ms), .ref (r 4)])), (r 1, .inl (zJ g, 139264, .inr (.inl (lA (mw bw sn w (fun j => bw j ^^^ 18446744073709551615)))))), (r 2, .inl (zBt g, 12544, .inl (ai kF))), (r 3, .inl (zI g, 4, .inl (ai mt))), (r 4, .inl (zI g, 14, .inl (ai PT)))] H → va_D A [(r 0, .inr (4, [.int (iI ut), .int (iI uc), .int (iI la), .int (iI wo), .ref (r 1), .ref (r 2), .ref (r 3), .int (iI ms), .ref (r 4)])), (r 1, .inl (zJ g, 139264, .inr (.inl (lA (mw bw sn w (fun j => bw j ^^^ 18446744073709551615)))))), (r 2, .inl (zBt g, 12544, .inl (ai kF))), (r 3, .inl (zI g, 4, .inl (ai mt))), (r 4, .inl (zI g, 14, .inl (ai PT)))] → va_S A s.heap H locs → W p l e (headSpec w_MO_invert { frames := 2, cells := 0, slots := 0, locals := 51 }).room s m args below meth cd H locs 0 0 Q (F0 m 13 ls []) := by
    intro fu
    induction fu with
    | zero => exact fun _ _ _ _ _ hfu _ _ _ _ _ _ _ => absurd hfu (Nat.not_lt_zero _)
    | succ fu ih =>
      intro sn w H locs ls hfu hl hs9n hsn8 h1 hP hD hS
      refine lv_iload_n hx hb d_MO_invert_13 rfl (lv_at hl 2 rfl) ?_
      refine lv_aload_n hx hb d_MO_invert_14 rfl (lv_at hl 0 rfl) ?_
      refine va_get (D := g.1) (ci := 4) (v := .int (iI wo)) (C := R_MO) (T := F_MO) (N := 9) hx hb ht i_MO hown hK hP 0 rfl rfl 3 (by decide) (ht _ k_421) (fun _ h9 => h9) rfl d_MO_invert_15 ?_
      refine ix_icmp_ge (tgt := 55) hx hb d_MO_invert_18 (by decide) (by omega) (fun c_18 => ?_) (fun c_18 => ?_)
      · obtain rfl : nw = w := by omega
        refine lv_aload_n hx hb d_MO_invert_55 rfl (lv_at hl 0 rfl) ?_
        refine lv_iload_n hx hb d_MO_invert_56 rfl (lv_at hl 1 rfl) ?_
        refine zcV (ci := 4) (q0 := 0) (As := [.int (iI (((sn : Nat) : Int)))]) (rest := []) ⟨hx, hb, hml, hown, ht⟩ v_MO_124 (c_MO_ranges l g r ut uc la wo (mw bw sn nw (fun j => bw j ^^^ 18446744073709551615)) mt ms sn nw hwo hnw (by omega) (mw_lt hbw (fun j => xor_lt (hbw j) (by decide)))) ⟨Nat.le_of_ble_eq_true rfl, Nat.le_of_ble_eq_true rfl⟩ ⟨Nat.zero_le _, Nat.zero_le _⟩ hK hZ hS hP rfl rfl rfl rfl hl.1 rfl (Nat.le_of_ble_eq_true rfl) d_MO_invert_57 (fun r_57 h_57 => ?_)
        subst h_57
        subst hQ
        exact W.iret (v := iI ((((cnt (rst (bt (mw bw sn nw (fun j => bw j ^^^ 18446744073709551615)) sn)) (64 * nw)) : Nat) : Int))) hx hb hr (fun t h9 hW => ⟨⟨_, _, rfl, Or.inr ⟨by omega, by omega, _, rfl, by rw [hs9n, ← hlw]; exact chg_inv hbw hnw, by rw [hs9n, ← hlw]; exact congrArg (fun x : Nat => iI (x : Int)) (chg_r (chg_inv hbw hnw))⟩, by rw [h9]; exact hP, va_K.moved hW.alike hK, hD⟩, hS.F h9⟩) hS.2.2 d_MO_invert_60
      · refine lv_aload_n hx hb d_MO_invert_21 rfl (lv_at hl 0 rfl) ?_
        refine va_get (D := g.1) (ci := 4) (v := .ref (r 1)) (C := R_MO) (T := F_MO) (N := 9) hx hb ht i_MO hown hK hP 0 rfl rfl 4 (by decide) (ht _ k_422) (fun _ h9 => h9) rfl d_MO_invert_22 ?_
        refine lv_iload_n hx hb d_MO_invert_25 rfl (lv_at hl 1 rfl) ?_
        refine lv_sipush (v := iI 17408) hx hb d_MO_invert_26 (by decide) ?_
        refine ix_imul hx hb d_MO_invert_29 ?_
        refine lv_iload_n hx hb d_MO_invert_30 rfl (lv_at hl 2 rfl) ?_
        refine ix_iadd hx hb d_MO_invert_31 ?_
        refine lv_aload_n hx hb d_MO_invert_32 rfl (lv_at hl 0 rfl) ?_
        refine va_get (D := g.1) (ci := 4) (v := .ref (r 1)) (C := R_MO) (T := F_MO) (N := 9) hx hb ht i_MO hown hK hP 0 rfl rfl 4 (by decide) (ht _ k_422) (fun _ h9 => h9) rfl d_MO_invert_33 ?_
        refine lv_iload_n hx hb d_MO_invert_36 rfl (lv_at hl 1 rfl) ?_
        refine lv_sipush (v := iI 17408) hx hb d_MO_invert_37 (by decide) ?_
        refine ix_imul hx hb d_MO_invert_40 ?_
        refine lv_iload_n hx hb d_MO_invert_41 rfl (lv_at hl 2 rfl) ?_
        refine ix_iadd hx hb d_MO_invert_42 ?_
        refine ix_lald hx hb hK hP 1 1 rfl rfl (i := (((((sn : Nat) : Int)) * 17408) + (((w : Nat) : Int)))) ((sn * 17408) + w) (by omega) d_MO_invert_43 ?_
        refine lv_ldc2 (v := (-1 : Int64)) hx hb hown (ht _ k_464) d_MO_invert_44 ?_
        rw [show (-1 : Int64) = lN 18446744073709551615 by decide]
        refine lv_lxor hx hb d_MO_invert_47 ?_
        rw [show ((lA (mw bw sn w (fun j => bw j ^^^ 18446744073709551615))) ((sn * 17408) + w)) ^^^ (lN 18446744073709551615) = lN (mw bw sn w (fun j => bw j ^^^ 18446744073709551615) (sn * 17408 + w) ^^^ 18446744073709551615) from wb_xorN]
        refine ix_lastN hx hb hK hP hD hS 1 1 rfl rfl (i := (((((sn : Nat) : Int)) * 17408) + (((w : Nat) : Int)))) ((sn * 17408) + w) (by omega) d_MO_invert_48 (fun H locs hP hD hS => ?_)
        have hP : va_P g.1 classes [(r 0, .inr (4, [.int (iI ut), .int (iI uc), .int (iI la), .int (iI wo), .ref (r 1), .ref (r 2), .ref (r 3), .int (iI ms), .ref (r 4)])), (r 1, .inl (zJ g, 139264, .inr (.inl (lA (va_up (mw bw sn w (fun j => bw j ^^^ 18446744073709551615)) ((sn * 17408) + w) (mw bw sn w (fun j => bw j ^^^ 18446744073709551615) (sn * 17408 + w) ^^^ 18446744073709551615)))))), (r 2, .inl (zBt g, 12544, .inl (ai kF))), (r 3, .inl (zI g, 4, .inl (ai mt))), (r 4, .inl (zI g, 14, .inl (ai PT)))] H := hP
        have hD : va_D A [(r 0, .inr (4, [.int (iI ut), .int (iI uc), .int (iI la), .int (iI wo), .ref (r 1), .ref (r 2), .ref (r 3), .int (iI ms), .ref (r 4)])), (r 1, .inl (zJ g, 139264, .inr (.inl (lA (va_up (mw bw sn w (fun j => bw j ^^^ 18446744073709551615)) ((sn * 17408) + w) (mw bw sn w (fun j => bw j ^^^ 18446744073709551615) (sn * 17408 + w) ^^^ 18446744073709551615)))))), (r 2, .inl (zBt g, 12544, .inl (ai kF))), (r 3, .inl (zI g, 4, .inl (ai mt))), (r 4, .inl (zI g, 14, .inl (ai PT)))] := hD
        refine lv_iinc (v := iI ((((w : Nat) : Int)) + 1)) (lv' := [(2, .int (iI ((((w : Nat) : Int)) + 1))), (0, .ref (r 0)), (1, .int (iI (((sn : Nat) : Int))))]) hx hb d_MO_invert_49 hl (k := 2) rfl (iI_add _ _) (by decide) rfl (fun ls hl => ?_)
        refine lv_goto (tgt := 13) hx hb d_MO_invert_52 (by decide) ?_
        rw [mw_inv bw sn w (by omega)] at hP hD
        exact ih sn (w + 1) _ _ ls (by omega) (lv_sub hl [1, 2, 0] rfl) (by omega) (by omega) (by omega) hP hD hS
  refine lv_aload_n hx hb d_MO_invert_0 rfl (lv_at hl 0 rfl) ?_
  refine lv_iload_n hx hb d_MO_invert_1 rfl (lv_at hl 1 rfl) ?_
  refine zcV (ci := 4) (q0 := 0) (As := [.int (iI s9)]) (rest := []) ⟨hx, hb, hml, hown, ht⟩ v_MO_117 (c_MO_none l g r ut uc la wo bw mt ms s9 (by omega)) ⟨Nat.le_of_ble_eq_true rfl, Nat.le_of_ble_eq_true rfl⟩ ⟨Nat.zero_le _, Nat.zero_le _⟩ hK hZ hS hP rfl rfl rfl rfl hl.1 rfl (Nat.le_of_ble_eq_true rfl) d_MO_invert_2 (fun r_2 h_2 => ?_)
  rcases h_2 with ⟨h_2, rfl⟩ | ⟨h_2, rfl⟩
  · refine ix_if_eq (tgt := 11) hx hb d_MO_invert_5 (by decide) (by omega) (fun c_5 => ?_) (fun c_5 => ?_)
    · exact absurd c_5 (by decide)
    · refine lv_bipush (v := iI (-2)) hx hb d_MO_invert_8 (by decide) ?_
      subst hQ
      exact W.iret (v := iI ((-2))) hx hb hr (fun t h9 hW => ⟨⟨_, _, rfl, Or.inl ⟨by omega, rfl, rfl⟩, by rw [h9]; exact hP, va_K.moved hW.alike hK, hD⟩, hS.F h9⟩) hS.2.2 d_MO_invert_10
  · refine ix_if_eq (tgt := 11) hx hb d_MO_invert_5 (by decide) (by omega) (fun c_5 => ?_) (fun c_5 => ?_)
    · obtain ⟨sn, hsn⟩ : ∃ sn : Nat, s9 = ((sn : Nat) : Int) := ⟨s9.toNat, by omega⟩
      rw [hsn] at hl
      refine lv_iconst (v := iI 0) hx hb d_MO_invert_11 rfl ?_
      refine lv_istore_n (lv' := [(2, .int (iI 0)), (0, .ref (r 0)), (1, .int (iI (((sn : Nat) : Int))))]) hx hb d_MO_invert_12 rfl hl (by decide) rfl (fun ls hl => ?_)
      rw [← mw_0 bw sn (fun j => bw j ^^^ 18446744073709551615)] at hP hD
      exact J13 (_ + 1) sn 0 _ _ ls (Nat.lt_succ_self _) (lv_sub hl [1, 2, 0] rfl) (by exact hsn) (by omega) (by omega) hP hD hS
    · exact absurd c_5 (by decide)
