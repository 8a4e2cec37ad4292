set_option maxHeartbeats 4000000 in
set_option maxRecDepth 100000 in
theorem c_MO_bound (l : Launch) (g : zG) (r : Nat → Nat) (ut uc la wo : Int) (bw : Nat → Nat) (mt : Nat → Int) (ms : Int) (s9 k en : Int) (hs9 : -2147483648 ≤ s9 ∧ s9 ≤ 2147483647)(hk : -2147483648 ≤ k ∧ k ≤ 2147483647)(hen : en = 0 ∨ en = 1) (nw last : Nat) (hwo : wo = ((nw : Nat) : Int)) (hnw : nw ≤ 17408) (hla : la = ((last : Nat) : Int)) (hlw : 64 * nw = last + 1) (hbw : ∀ j, bw j < 18446744073709551616) (hla2 : last ≤ 1114111) (es : Nat → Nat → Int) (ne : Nat → Nat) (hrep : ∀ s9, s9 < 8 → rep last (es s9) (ne s9) (bt bw s9)) : Met l y_MO_bound w_MO_bound (zr 2 45) (zP g [.ref (r 0), .int (iI s9), .int (iI k), .int (iI en)] [(r 0, .inr (4, [.int (iI ut), .int (iI uc), .int (iI la), .int (iI wo), .ref (r 1), .ref (r 2), .ref (r 3), .int (iI ms), .ref (r 4)])), (r 1, .inl (zJ g, 139264, .inr (.inl (lA bw)))), (r 2, .inl (zBt g, 12544, .inl (ai kF))), (r 3, .inl (zI g, 4, .inl (ai mt))), (r 4, .inl (zI g, 14, .inl (ai PT)))]) (vp_Si (fun z => ((¬ (0 ≤ s9 ∧ s9 ≤ 7) ∨ k < 0 ∨ ((ne s9.toNat : Nat) : Int) ≤ 2 * k) ∧ z = iI (-2)) ∨ (¬ (¬ (0 ≤ s9 ∧ s9 ≤ 7) ∨ k < 0 ∨ ((ne s9.toNat : Nat) : Int) ≤ 2 * k) ∧ ((en = 0 ∧ z = iI (es s9.toNat (2 * k.toNat))) ∨ (¬ en = 0 ∧ z = iI (es s9.toNat (2 * k.toNat + 1) - 1)))))) 0 0 (fun _ => False) := by
  refine Met.ofW (cc := b_MO_bound) (maxL := 6) (ret := (some .int)) (by decide) rfl ?_
  intro p e s m args below meth cd s₁ B hml hv
  obtain ⟨hargs, hP, hK, hZ⟩ := hv
  have hx := B.exec
  have hb := B.bytes
  have hr := B.returns
  have ht : ∀ w ∈ lw_ok, w.before args s = true := fun w h => atoms_spec (ws := w_MO_bound) B.pre w (List.mem_cons_of_mem _ h)
  have hown : s.vm.findClass R_MO = some m.cls := findClass_of_methodNamed B.named
  have hlocks := B.notSynchronized
  have hS : va_S (fun _ => False) s.heap s.heap [] := va_S.rf
  generalize hQ : MQ below _ args s 0 0 _ = Q
  have hl := lv_entry ([.ref (r 0), .int (iI s9), .int (iI k), .int (iI en)]) (n := 6) (Nat.le_of_ble_eq_true rfl)
  rw [show entryFrame m args 6 = entryFrame m ([.ref (r 0), .int (iI s9), .int (iI k), .int (iI en)] : List Value).toArray 6 by rw [hargs], lg_entry_eq]
  generalize (lg_sl ([.ref (r 0), .int (iI s9), .int (iI k), .int (iI en)]) ++ List.replicate (6 - (lg_sl ([.ref (r 0), .int (iI s9), .int (iI k), .int (iI en)])).length) Slot.unset).toArray = ls at hl ⊢
  have hl : lv_has ls 6 [(0, .ref (r 0)), (1, .int (iI s9)), (2, .int (iI k)), (3, .int (iI en))] := hl
  have J26 : ∀ fu : Nat, ∀ (sn j : Nat) (fr : Int) (ls : Array Slot), k.toNat - j < fu → lv_has ls 6 [(0, .ref (r 0)), (1, .int (iI (((sn : Nat) : Int)))), (2, .int (iI k)), (3, .int (iI en)), (4, .int (iI (((j : Nat) : Int)))), (5, .int (iI fr))] → (s9 = ((sn : Nat) : Int)) → (sn < 8) → (0 ≤ k) → (((j : Nat) : Int) ≤ k) → (fr = bnd (es sn) (ne sn) j) → W p l e (headSpec w_MO_bound (zr 2 45)).room s m args below meth cd s.heap [] 0 0 Q (F0 m 26 ls []) := by
    intro fu
    induction fu with
    | zero => exact fun _ _ _ _ hfu _ _ _ _ _ _ => absurd hfu (Nat.not_lt_zero _)
    | succ fu ih =>
      intro sn j fr ls hfu hl hs9n hsn8 hk0 hjk hfr
      have hr8 := hrep sn hsn8
      have hbn := bnd_in hr8 (i := j)
      have hst : s9.toNat = sn := by omega
      refine lv_iload hx hb d_MO_bound_26 (lv_at hl 5 rfl) ?_
      refine ix_if_lt (tgt := 57) hx hb d_MO_bound_28 (by decide) (by omega) (fun c_28 => ?_) (fun c_28 => ?_)
      · refine lv_iload hx hb d_MO_bound_57 (lv_at hl 5 rfl) ?_
        refine ix_if_ge (tgt := 65) hx hb d_MO_bound_59 (by decide) (by omega) (fun c_59 => ?_) (fun c_59 => ?_)
        · exact absurd c_59 (by omega)
        · refine lv_bipush (v := iI (-2)) hx hb d_MO_bound_62 (by decide) ?_
          subst hQ
          exact W.iret (v := iI ((-2))) hx hb hr (fun t h9 hW => ⟨_, rfl, by first | (exfalso; omega) | exact Or.inl ⟨by rw [hst]; omega, rfl⟩, h9⟩) (fun _ h9 => by cases h9) d_MO_bound_64
      · obtain ⟨fn, hfn⟩ : ∃ fn : Nat, fr = ((fn : Nat) : Int) := ⟨fr.toNat, by omega⟩
        rw [hfn] at hl
        refine lv_iload hx hb d_MO_bound_31 (lv_at hl 4 rfl) ?_
        refine lv_iload_n hx hb d_MO_bound_33 rfl (lv_at hl 2 rfl) ?_
        refine ix_icmp_ge (tgt := 57) hx hb d_MO_bound_34 (by decide) (by omega) (fun c_34 => ?_) (fun c_34 => ?_)
        · have hkn : k.toNat = j := by omega
          refine lv_iload hx hb d_MO_bound_57 (lv_at hl 5 rfl) ?_
          refine ix_if_ge (tgt := 65) hx hb d_MO_bound_59 (by decide) (by omega) (fun c_59 => ?_) (fun c_59 => ?_)
          · refine lv_iload_n hx hb d_MO_bound_65 rfl (lv_at hl 3 rfl) ?_
            refine ix_if_eq (tgt := 81) hx hb d_MO_bound_66 (by decide) (by omega) (fun c_66 => ?_) (fun c_66 => ?_)
            · refine lv_iload hx hb d_MO_bound_81 (lv_at hl 5 rfl) ?_
              subst hQ
              exact W.iret (v := iI (((fn : Nat) : Int))) hx hb hr (fun t h9 hW => ⟨_, rfl, by first | (exfalso; omega) | exact Or.inr ⟨by rw [hst]; omega, Or.inl ⟨by omega, by rw [hst, hkn]; exact congrArg iI (by omega)⟩⟩, h9⟩) (fun _ h9 => by cases h9) d_MO_bound_83
            · refine lv_aload_n hx hb d_MO_bound_69 rfl (lv_at hl 0 rfl) ?_
              refine lv_iload_n hx hb d_MO_bound_70 rfl (lv_at hl 1 rfl) ?_
              refine lv_iload hx hb d_MO_bound_71 (lv_at hl 5 rfl) ?_
              have e8 : fn = (es sn (2 * j)).toNat := by omega
              refine zcV (ci := 4) (q0 := 0) (As := [.int (iI (((sn : Nat) : Int))), .int (iI (((fn : Nat) : Int)))]) (rest := []) ⟨hx, hb, hml, hown, ht⟩ v_MO_165 (c_MO_after l g r ut uc la wo bw mt ms sn fn nw last hwo hnw hla hlw hbw hla2 (by omega) (by omega)) ⟨Nat.le_of_ble_eq_true rfl, Nat.le_of_ble_eq_true rfl⟩ ⟨Nat.zero_le _, Nat.zero_le _⟩ hK hZ hS hP rfl rfl rfl rfl hl.1 rfl (Nat.le_of_ble_eq_true rfl) d_MO_bound_73 (fun r_73 h_73 => ?_)
              obtain ⟨a73, rfl, ha73⟩ := h_73
              rw [e8] at ha73
              have ea73 := Aft_eq ha73 (aft_at hr8 (i := j) (by omega))
              refine lv_iconst (v := iI 1) hx hb d_MO_bound_76 rfl ?_
              refine ix_isub hx hb d_MO_bound_77 ?_
              refine lv_goto (tgt := 83) hx hb d_MO_bound_78 (by decide) ?_
              subst hQ
              exact W.iret (v := iI ((((a73 : Nat) : Int)) - 1)) hx hb hr (fun t h9 hW => ⟨_, rfl, by first | (exfalso; omega) | exact Or.inr ⟨by rw [hst]; omega, Or.inr ⟨by omega, by rw [hst, hkn]; exact congrArg iI (by omega)⟩⟩, h9⟩) (fun _ h9 => by cases h9) d_MO_bound_83
          · exact absurd c_59 (by omega)
        · refine lv_aload_n hx hb d_MO_bound_37 rfl (lv_at hl 0 rfl) ?_
          refine lv_iload_n hx hb d_MO_bound_38 rfl (lv_at hl 1 rfl) ?_
          refine lv_aload_n hx hb d_MO_bound_39 rfl (lv_at hl 0 rfl) ?_
          refine lv_iload_n hx hb d_MO_bound_40 rfl (lv_at hl 1 rfl) ?_
          refine lv_iload hx hb d_MO_bound_41 (lv_at hl 5 rfl) ?_
          have e8 : fn = (es sn (2 * j)).toNat := by omega
          refine zcV (ci := 4) (q0 := 0) (As := [.int (iI (((sn : Nat) : Int))), .int (iI (((fn : Nat) : Int)))]) (rest := [.int (iI (((sn : Nat) : Int))), .ref (r 0)]) ⟨hx, hb, hml, hown, ht⟩ v_MO_165 (c_MO_after l g r ut uc la wo bw mt ms sn fn nw last hwo hnw hla hlw hbw hla2 (by omega) (by omega)) ⟨Nat.le_of_ble_eq_true rfl, Nat.le_of_ble_eq_true rfl⟩ ⟨Nat.zero_le _, Nat.zero_le _⟩ hK hZ hS hP rfl rfl rfl rfl hl.1 rfl (Nat.le_of_ble_eq_true rfl) d_MO_bound_43 (fun r_43 h_43 => ?_)
          obtain ⟨a43, rfl, ha43⟩ := h_43
          rw [e8] at ha43
          have ea43 := Aft_eq ha43 (aft_at hr8 (i := j) (by omega))
          refine zcV (ci := 4) (q0 := 0) (As := [.int (iI (((sn : Nat) : Int))), .int (iI (((a43 : Nat) : Int)))]) (rest := []) ⟨hx, hb, hml, hown, ht⟩ v_MO_161 (c_MO_least l g r ut uc la wo bw mt ms ((sn : Nat) : Int) (((a43 : Nat) : Int)) (by omega) (by omega) nw last hwo hnw hla hlw hbw hla2) ⟨Nat.le_of_ble_eq_true rfl, Nat.le_of_ble_eq_true rfl⟩ ⟨Nat.zero_le _, Nat.zero_le _⟩ hK hZ hS hP rfl rfl rfl rfl hl.1 rfl (Nat.le_of_ble_eq_true rfl) d_MO_bound_46 (fun r_46 h_46 => ?_)
          rcases h_46 with ⟨q9, -⟩ | ⟨-, m46, rfl, hm46⟩
          · exact absurd q9 (by omega)
          have hm46 : Lst last (bt bw sn) (((a43 : Nat) : Int)) m46 := hm46
          refine lv_istore (lv' := [(5, .int (iI m46)), (0, .ref (r 0)), (1, .int (iI (((sn : Nat) : Int)))), (2, .int (iI k)), (3, .int (iI en)), (4, .int (iI (((j : Nat) : Int))))]) hx hb d_MO_bound_49 hl (by decide) rfl (fun ls hl => ?_)
          refine lv_iinc (v := iI ((((j : Nat) : Int)) + 1)) (lv' := [(4, .int (iI ((((j : Nat) : Int)) + 1))), (5, .int (iI m46)), (0, .ref (r 0)), (1, .int (iI (((sn : Nat) : Int)))), (2, .int (iI k)), (3, .int (iI en))]) hx hb d_MO_bound_51 hl (k := 5) rfl (iI_add _ _) (by decide) rfl (fun ls hl => ?_)
          refine lv_goto (tgt := 26) hx hb d_MO_bound_54 (by decide) ?_
          exact ih sn (j + 1) m46 ls (by omega) (lv_sub hl [2, 3, 4, 5, 0, 1] rfl) (by exact hs9n) (by omega) (by omega) (by omega) (by exact Lst_eq hm46 (by rw [ea43, show (((es sn (2 * j + 1)).toNat : Nat) : Int) = es sn (2 * j + 1) by omega]; exact lst_next hr8 (by omega)))
  refine lv_aload_n hx hb d_MO_bound_0 rfl (lv_at hl 0 rfl) ?_
  refine lv_iload_n hx hb d_MO_bound_1 rfl (lv_at hl 1 rfl) ?_
  refine zcV (ci := 4) (q0 := 0) (As := [.int (iI s9)]) (rest := []) ⟨hx, hb, hml, hown, ht⟩ v_MO_117 (c_MO_none l g r ut uc la wo bw mt ms s9 (by omega)) ⟨Nat.le_of_ble_eq_true rfl, Nat.le_of_ble_eq_true rfl⟩ ⟨Nat.zero_le _, Nat.zero_le _⟩ hK hZ hS hP rfl rfl rfl rfl hl.1 rfl (Nat.le_of_ble_eq_true rfl) d_MO_bound_2 (fun r_2 h_2 => ?_)
  rcases h_2 with ⟨h_2, rfl⟩ | ⟨h_2, rfl⟩
  · refine ix_if_ne (tgt := 12) hx hb d_MO_bound_5 (by decide) (by omega) (fun c_5 => ?_) (fun c_5 => ?_)
    · refine lv_bipush (v := iI (-2)) hx hb d_MO_bound_12 (by decide) ?_
      subst hQ
      exact W.iret (v := iI ((-2))) hx hb hr (fun t h9 hW => ⟨_, rfl, Or.inl ⟨by omega, rfl⟩, h9⟩) (fun _ h9 => by cases h9) d_MO_bound_14
    · exact absurd c_5 (by decide)
  · refine ix_if_ne (tgt := 12) hx hb d_MO_bound_5 (by decide) (by omega) (fun c_5 => ?_) (fun c_5 => ?_)
    · exact absurd c_5 (by decide)
    · refine lv_iload_n hx hb d_MO_bound_8 rfl (lv_at hl 2 rfl) ?_
      refine ix_if_ge (tgt := 15) hx hb d_MO_bound_9 (by decide) (by omega) (fun c_9 => ?_) (fun c_9 => ?_)
      · obtain ⟨sn, hsn⟩ : ∃ sn : Nat, s9 = ((sn : Nat) : Int) := ⟨s9.toNat, by omega⟩
        rw [hsn] at hl
        refine lv_iconst (v := iI 0) hx hb d_MO_bound_15 rfl ?_
        refine lv_istore (lv' := [(4, .int (iI 0)), (0, .ref (r 0)), (1, .int (iI (((sn : Nat) : Int)))), (2, .int (iI k)), (3, .int (iI en))]) hx hb d_MO_bound_16 hl (by decide) rfl (fun ls hl => ?_)
        refine lv_aload_n hx hb d_MO_bound_18 rfl (lv_at hl 1 rfl) ?_
        refine lv_iload_n hx hb d_MO_bound_19 rfl (lv_at hl 2 rfl) ?_
        refine lv_iconst (v := iI 0) hx hb d_MO_bound_20 rfl ?_
        refine zcV (ci := 4) (q0 := 0) (As := [.int (iI (((sn : Nat) : Int))), .int (iI 0)]) (rest := []) ⟨hx, hb, hml, hown, ht⟩ v_MO_161 (c_MO_least l g r ut uc la wo bw mt ms ((sn : Nat) : Int) 0 (by omega) (by omega) nw last hwo hnw hla hlw hbw hla2) ⟨Nat.le_of_ble_eq_true rfl, Nat.le_of_ble_eq_true rfl⟩ ⟨Nat.zero_le _, Nat.zero_le _⟩ hK hZ hS hP rfl rfl rfl rfl hl.1 rfl (Nat.le_of_ble_eq_true rfl) d_MO_bound_21 (fun r_21 h_21 => ?_)
        rcases h_21 with ⟨q9, -⟩ | ⟨-, m21, rfl, hm21⟩
        · exact absurd q9 (by omega)
        have hm21 : Lst last (bt bw sn) 0 m21 := hm21
        refine lv_istore (lv' := [(5, .int (iI m21)), (4, .int (iI 0)), (0, .ref (r 0)), (1, .int (iI (((sn : Nat) : Int)))), (2, .int (iI k)), (3, .int (iI en))]) hx hb d_MO_bound_24 hl (by decide) rfl (fun ls hl => ?_)
        exact J26 (_ + 1) sn 0 m21 ls (Nat.lt_succ_self _) (lv_sub hl [2, 3, 4, 5, 1, 0] rfl) (by exact hsn) (by omega) (by omega) (by omega) (by exact Lst_eq hm21 (lst_0 (hrep sn (by omega))))
      · refine lv_bipush (v := iI (-2)) hx hb d_MO_bound_12 (by decide) ?_
        subst hQ
        exact W.iret (v := iI ((-2))) hx hb hr (fun t h9 hW => ⟨_, rfl, Or.inl ⟨by omega, rfl⟩, h9⟩) (fun _ h9 => by cases h9) d_MO_bound_14
