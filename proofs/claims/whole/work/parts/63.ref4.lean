set_option maxHeartbeats 4000000 in
set_option maxRecDepth 100000 in
theorem c_MO_first (l : Launch) (g : zG) (r : Nat → Nat) (ut uc la wo : Int) (bw : Nat → Nat) (mt : Nat → Int) (ms : Int) (c : Int) (hc : 0 ≤ c ∧ c ≤ 1114111) : Met l y_MO_first w_MO_first (zr 2 45) (zP g [.ref (r 0), .int (iI c)] [(r 0, .inr (4, [.int (iI ut), .int (iI uc), .int (iI la), .int (iI wo), .ref (r 1), .ref (r 2), .ref (r 3), .int (iI ms), .ref (r 4)])), (r 1, .inl (zJ g, 139264, .inr (.inl (lA bw)))), (r 2, .inl (zBt g, 12544, .inl (ai kF))), (r 3, .inl (zI g, 4, .inl (ai mt))), (r 4, .inl (zI g, 14, .inl (ai PT)))]) (vp_Si (fun z => z = iI (firstF c))) 0 0 (fun _ => False) := by
  refine Met.ofW (cc := b_MO_first) (maxL := 2) (ret := (some .int)) (by decide) rfl ?_
  intro p e s m args below meth cd s₁ B hml hv
  obtain ⟨hargs, hP, hK, hZ⟩ := hv
  have hx := B.exec
  have hb := B.bytes
  have hr := B.returns
  have ht : ∀ w ∈ lw_ok, w.before args s = true := fun w h => atoms_spec (ws := w_MO_first) B.pre w (List.mem_cons_of_mem _ h)
  have hown : s.vm.findClass R_MO = some m.cls := findClass_of_methodNamed B.named
  have hlocks := B.notSynchronized
  have hS : va_S (fun _ => False) s.heap s.heap [] := va_S.rf
  generalize hQ : MQ below _ args s 0 0 _ = Q
  have hl := lv_entry ([.ref (r 0), .int (iI c)]) (n := 2) (Nat.le_of_ble_eq_true rfl)
  rw [show entryFrame m args 2 = entryFrame m ([.ref (r 0), .int (iI c)] : List Value).toArray 2 by rw [hargs], lg_entry_eq]
  generalize (lg_sl ([.ref (r 0), .int (iI c)]) ++ List.replicate (2 - (lg_sl ([.ref (r 0), .int (iI c)])).length) Slot.unset).toArray = ls at hl ⊢
  have hl : lv_has ls 2 [(0, .ref (r 0)), (1, .int (iI c))] := hl
  refine lv_aload_n hx hb d_MO_first_0 rfl (lv_at hl 0 rfl) ?_
  refine lv_iload_n hx hb d_MO_first_1 rfl (lv_at hl 1 rfl) ?_
  refine zcV (ci := 4) (q0 := 0) (As := [.int (iI c)]) (rest := []) ⟨hx, hb, hml, hown, ht⟩ v_MO_83 (c_MO_third l g r ut uc la wo bw mt ms c (by omega)) ⟨Nat.le_of_ble_eq_true rfl, Nat.le_of_ble_eq_true rfl⟩ ⟨Nat.zero_le _, Nat.zero_le _⟩ hK hZ hS hP rfl rfl rfl rfl hl.1 rfl (Nat.le_of_ble_eq_true rfl) d_MO_first_2 (fun r_2 h_2 => ?_)
  subst h_2
  have q_2 := thirdF_bd c
  refine ix_if_lt (tgt := 14) hx hb d_MO_first_5 (by decide) (by omega) (fun c_5 => ?_) (fun c_5 => ?_)
  · refine lv_iload_n hx hb d_MO_first_14 rfl (lv_at hl 1 rfl) ?_
    refine lv_sipush (v := iI 255) hx hb d_MO_first_15 (by decide) ?_
    refine ix_icmp_ne (tgt := 25) hx hb d_MO_first_18 (by decide) (by omega) (fun c_18 => ?_) (fun c_18 => ?_)
    · refine lv_aload_n hx hb d_MO_first_25 rfl (lv_at hl 0 rfl) ?_
      refine lv_iload_n hx hb d_MO_first_26 rfl (lv_at hl 1 rfl) ?_
      refine zcV (ci := 4) (q0 := 0) (As := [.int (iI c)]) (rest := []) ⟨hx, hb, hml, hown, ht⟩ v_MO_86 (c_MO_pair l g r ut uc la wo bw mt ms c (by omega)) ⟨Nat.le_of_ble_eq_true rfl, Nat.le_of_ble_eq_true rfl⟩ ⟨Nat.zero_le _, Nat.zero_le _⟩ hK hZ hS hP rfl rfl rfl rfl hl.1 rfl (Nat.le_of_ble_eq_true rfl) d_MO_first_27 (fun r_27 h_27 => ?_)
      subst h_27
      have q_27 := pairF_bd c
      refine ix_if_le (tgt := 35) hx hb d_MO_first_30 (by decide) (by omega) (fun c_30 => ?_) (fun c_30 => ?_)
      · refine lv_iload_n hx hb d_MO_first_35 rfl (lv_at hl 1 rfl) ?_
        refine lv_bipush (v := iI 32) hx hb d_MO_first_36 (by decide) ?_
        refine ix_icmp_lt (tgt := 59) hx hb d_MO_first_38 (by decide) (by omega) (fun c_38 => ?_) (fun c_38 => ?_)
        · refine lv_iload_n hx hb d_MO_first_59 rfl (lv_at hl 1 rfl) ?_
          refine lv_bipush (v := iI 80) hx hb d_MO_first_60 (by decide) ?_
          refine ix_icmp_lt (tgt := 83) hx hb d_MO_first_62 (by decide) (by omega) (fun c_62 => ?_) (fun c_62 => ?_)
          · refine lv_iload_n hx hb d_MO_first_83 rfl (lv_at hl 1 rfl) ?_
            refine ix_if_le (tgt := 104) hx hb d_MO_first_84 (by decide) (by omega) (fun c_84 => ?_) (fun c_84 => ?_)
            · refine lv_iload_n hx hb d_MO_first_104 rfl (lv_at hl 1 rfl) ?_
              subst hQ
              exact W.iret (v := iI c) hx hb hr (fun t h9 hW => ⟨_, rfl, by first | (exfalso; omega) | (unfold firstF; repeat (first | rw [if_pos (by omega)] | rw [if_neg (by omega)])), h9⟩) (fun _ h9 => by cases h9) d_MO_first_105
            · refine lv_aload_n hx hb d_MO_first_87 rfl (lv_at hl 0 rfl) ?_
              refine lv_iload_n hx hb d_MO_first_88 rfl (lv_at hl 1 rfl) ?_
              refine lv_iconst (v := iI 1) hx hb d_MO_first_89 rfl ?_
              refine ix_isub hx hb d_MO_first_90 ?_
              refine zcV (ci := 4) (q0 := 0) (As := [.int (iI (c - 1))]) (rest := []) ⟨hx, hb, hml, hown, ht⟩ v_MO_86 (c_MO_pair l g r ut uc la wo bw mt ms (c - 1) (by omega)) ⟨Nat.le_of_ble_eq_true rfl, Nat.le_of_ble_eq_true rfl⟩ ⟨Nat.zero_le _, Nat.zero_le _⟩ hK hZ hS hP rfl rfl rfl rfl hl.1 rfl (Nat.le_of_ble_eq_true rfl) d_MO_first_91 (fun r_91 h_91 => ?_)
              subst h_91
              have q_91 := pairF_bd (c - 1)
              refine lv_iconst (v := iI 1) hx hb d_MO_first_94 rfl ?_
              refine ix_icmp_ne (tgt := 104) hx hb d_MO_first_95 (by decide) (by omega) (fun c_95 => ?_) (fun c_95 => ?_)
              · refine lv_iload_n hx hb d_MO_first_104 rfl (lv_at hl 1 rfl) ?_
                subst hQ
                exact W.iret (v := iI c) hx hb hr (fun t h9 hW => ⟨_, rfl, by first | (exfalso; omega) | (unfold firstF; repeat (first | rw [if_pos (by omega)] | rw [if_neg (by omega)])), h9⟩) (fun _ h9 => by cases h9) d_MO_first_105
              · refine lv_iload_n hx hb d_MO_first_98 rfl (lv_at hl 1 rfl) ?_
                refine lv_iconst (v := iI 1) hx hb d_MO_first_99 rfl ?_
                refine ix_isub hx hb d_MO_first_100 ?_
                refine lv_goto (tgt := 105) hx hb d_MO_first_101 (by decide) ?_
                subst hQ
                exact W.iret (v := iI (c - 1)) hx hb hr (fun t h9 hW => ⟨_, rfl, by first | (exfalso; omega) | (unfold firstF; repeat (first | rw [if_pos (by omega)] | rw [if_neg (by omega)])), h9⟩) (fun _ h9 => by cases h9) d_MO_first_105
          · refine lv_aload_n hx hb d_MO_first_65 rfl (lv_at hl 0 rfl) ?_
            refine lv_iload_n hx hb d_MO_first_66 rfl (lv_at hl 1 rfl) ?_
            refine lv_bipush (v := iI 80) hx hb d_MO_first_67 (by decide) ?_
            refine ix_isub hx hb d_MO_first_69 ?_
            refine zcV (ci := 4) (q0 := 0) (As := [.int (iI (c - 80))]) (rest := []) ⟨hx, hb, hml, hown, ht⟩ v_MO_86 (c_MO_pair l g r ut uc la wo bw mt ms (c - 80) (by omega)) ⟨Nat.le_of_ble_eq_true rfl, Nat.le_of_ble_eq_true rfl⟩ ⟨Nat.zero_le _, Nat.zero_le _⟩ hK hZ hS hP rfl rfl rfl rfl hl.1 rfl (Nat.le_of_ble_eq_true rfl) d_MO_first_70 (fun r_70 h_70 => ?_)
            subst h_70
            have q_70 := pairF_bd (c - 80)
            refine lv_bipush (v := iI 80) hx hb d_MO_first_73 (by decide) ?_
            refine ix_icmp_ne (tgt := 83) hx hb d_MO_first_75 (by decide) (by omega) (fun c_75 => ?_) (fun c_75 => ?_)
            · refine lv_iload_n hx hb d_MO_first_83 rfl (lv_at hl 1 rfl) ?_
              refine ix_if_le (tgt := 104) hx hb d_MO_first_84 (by decide) (by omega) (fun c_84 => ?_) (fun c_84 => ?_)
              · refine lv_iload_n hx hb d_MO_first_104 rfl (lv_at hl 1 rfl) ?_
                subst hQ
                exact W.iret (v := iI c) hx hb hr (fun t h9 hW => ⟨_, rfl, by first | (exfalso; omega) | (unfold firstF; repeat (first | rw [if_pos (by omega)] | rw [if_neg (by omega)])), h9⟩) (fun _ h9 => by cases h9) d_MO_first_105
              · refine lv_aload_n hx hb d_MO_first_87 rfl (lv_at hl 0 rfl) ?_
                refine lv_iload_n hx hb d_MO_first_88 rfl (lv_at hl 1 rfl) ?_
                refine lv_iconst (v := iI 1) hx hb d_MO_first_89 rfl ?_
                refine ix_isub hx hb d_MO_first_90 ?_
                refine zcV (ci := 4) (q0 := 0) (As := [.int (iI (c - 1))]) (rest := []) ⟨hx, hb, hml, hown, ht⟩ v_MO_86 (c_MO_pair l g r ut uc la wo bw mt ms (c - 1) (by omega)) ⟨Nat.le_of_ble_eq_true rfl, Nat.le_of_ble_eq_true rfl⟩ ⟨Nat.zero_le _, Nat.zero_le _⟩ hK hZ hS hP rfl rfl rfl rfl hl.1 rfl (Nat.le_of_ble_eq_true rfl) d_MO_first_91 (fun r_91 h_91 => ?_)
                subst h_91
                have q_91 := pairF_bd (c - 1)
                refine lv_iconst (v := iI 1) hx hb d_MO_first_94 rfl ?_
                refine ix_icmp_ne (tgt := 104) hx hb d_MO_first_95 (by decide) (by omega) (fun c_95 => ?_) (fun c_95 => ?_)
                · refine lv_iload_n hx hb d_MO_first_104 rfl (lv_at hl 1 rfl) ?_
                  subst hQ
                  exact W.iret (v := iI c) hx hb hr (fun t h9 hW => ⟨_, rfl, by first | (exfalso; omega) | (unfold firstF; repeat (first | rw [if_pos (by omega)] | rw [if_neg (by omega)])), h9⟩) (fun _ h9 => by cases h9) d_MO_first_105
                · refine lv_iload_n hx hb d_MO_first_98 rfl (lv_at hl 1 rfl) ?_
                  refine lv_iconst (v := iI 1) hx hb d_MO_first_99 rfl ?_
                  refine ix_isub hx hb d_MO_first_100 ?_
                  refine lv_goto (tgt := 105) hx hb d_MO_first_101 (by decide) ?_
                  subst hQ
                  exact W.iret (v := iI (c - 1)) hx hb hr (fun t h9 hW => ⟨_, rfl, by first | (exfalso; omega) | (unfold firstF; repeat (first | rw [if_pos (by omega)] | rw [if_neg (by omega)])), h9⟩) (fun _ h9 => by cases h9) d_MO_first_105
            · refine lv_iload_n hx hb d_MO_first_78 rfl (lv_at hl 1 rfl) ?_
              refine lv_bipush (v := iI 80) hx hb d_MO_first_79 (by decide) ?_
              refine ix_isub hx hb d_MO_first_81 ?_
              subst hQ
              exact W.iret (v := iI (c - 80)) hx hb hr (fun t h9 hW => ⟨_, rfl, by first | (exfalso; omega) | (unfold firstF; repeat (first | rw [if_pos (by omega)] | rw [if_neg (by omega)])), h9⟩) (fun _ h9 => by cases h9) d_MO_first_82
        · refine lv_aload_n hx hb d_MO_first_41 rfl (lv_at hl 0 rfl) ?_
          refine lv_iload_n hx hb d_MO_first_42 rfl (lv_at hl 1 rfl) ?_
          refine lv_bipush (v := iI 32) hx hb d_MO_first_43 (by decide) ?_
          refine ix_isub hx hb d_MO_first_45 ?_
          refine zcV (ci := 4) (q0 := 0) (As := [.int (iI (c - 32))]) (rest := []) ⟨hx, hb, hml, hown, ht⟩ v_MO_86 (c_MO_pair l g r ut uc la wo bw mt ms (c - 32) (by omega)) ⟨Nat.le_of_ble_eq_true rfl, Nat.le_of_ble_eq_true rfl⟩ ⟨Nat.zero_le _, Nat.zero_le _⟩ hK hZ hS hP rfl rfl rfl rfl hl.1 rfl (Nat.le_of_ble_eq_true rfl) d_MO_first_46 (fun r_46 h_46 => ?_)
          subst h_46
          have q_46 := pairF_bd (c - 32)
          refine lv_bipush (v := iI 32) hx hb d_MO_first_49 (by decide) ?_
          refine ix_icmp_ne (tgt := 59) hx hb d_MO_first_51 (by decide) (by omega) (fun c_51 => ?_) (fun c_51 => ?_)
          · refine lv_iload_n hx hb d_MO_first_59 rfl (lv_at hl 1 rfl) ?_
            refine lv_bipush (v := iI 80) hx hb d_MO_first_60 (by decide) ?_
            refine ix_icmp_lt (tgt := 83) hx hb d_MO_first_62 (by decide) (by omega) (fun c_62 => ?_) (fun c_62 => ?_)
            · refine lv_iload_n hx hb d_MO_first_83 rfl (lv_at hl 1 rfl) ?_
              refine ix_if_le (tgt := 104) hx hb d_MO_first_84 (by decide) (by omega) (fun c_84 => ?_) (fun c_84 => ?_)
              · refine lv_iload_n hx hb d_MO_first_104 rfl (lv_at hl 1 rfl) ?_
                subst hQ
                exact W.iret (v := iI c) hx hb hr (fun t h9 hW => ⟨_, rfl, by first | (exfalso; omega) | (unfold firstF; repeat (first | rw [if_pos (by omega)] | rw [if_neg (by omega)])), h9⟩) (fun _ h9 => by cases h9) d_MO_first_105
              · refine lv_aload_n hx hb d_MO_first_87 rfl (lv_at hl 0 rfl) ?_
                refine lv_iload_n hx hb d_MO_first_88 rfl (lv_at hl 1 rfl) ?_
                refine lv_iconst (v := iI 1) hx hb d_MO_first_89 rfl ?_
                refine ix_isub hx hb d_MO_first_90 ?_
                refine zcV (ci := 4) (q0 := 0) (As := [.int (iI (c - 1))]) (rest := []) ⟨hx, hb, hml, hown, ht⟩ v_MO_86 (c_MO_pair l g r ut uc la wo bw mt ms (c - 1) (by omega)) ⟨Nat.le_of_ble_eq_true rfl, Nat.le_of_ble_eq_true rfl⟩ ⟨Nat.zero_le _, Nat.zero_le _⟩ hK hZ hS hP rfl rfl rfl rfl hl.1 rfl (Nat.le_of_ble_eq_true rfl) d_MO_first_91 (fun r_91 h_91 => ?_)
                subst h_91
                have q_91 := pairF_bd (c - 1)
                refine lv_iconst (v := iI 1) hx hb d_MO_first_94 rfl ?_
                refine ix_icmp_ne (tgt := 104) hx hb d_MO_first_95 (by decide) (by omega) (fun c_95 => ?_) (fun c_95 => ?_)
                · refine lv_iload_n hx hb d_MO_first_104 rfl (lv_at hl 1 rfl) ?_
                  subst hQ
                  exact W.iret (v := iI c) hx hb hr (fun t h9 hW => ⟨_, rfl, by first | (exfalso; omega) | (unfold firstF; repeat (first | rw [if_pos (by omega)] | rw [if_neg (by omega)])), h9⟩) (fun _ h9 => by cases h9) d_MO_first_105
                · refine lv_iload_n hx hb d_MO_first_98 rfl (lv_at hl 1 rfl) ?_
                  refine lv_iconst (v := iI 1) hx hb d_MO_first_99 rfl ?_
                  refine ix_isub hx hb d_MO_first_100 ?_
                  refine lv_goto (tgt := 105) hx hb d_MO_first_101 (by decide) ?_
                  subst hQ
                  exact W.iret (v := iI (c - 1)) hx hb hr (fun t h9 hW => ⟨_, rfl, by first | (exfalso; omega) | (unfold firstF; repeat (first | rw [if_pos (by omega)] | rw [if_neg (by omega)])), h9⟩) (fun _ h9 => by cases h9) d_MO_first_105
            · refine lv_aload_n hx hb d_MO_first_65 rfl (lv_at hl 0 rfl) ?_
              refine lv_iload_n hx hb d_MO_first_66 rfl (lv_at hl 1 rfl) ?_
              refine lv_bipush (v := iI 80) hx hb d_MO_first_67 (by decide) ?_
              refine ix_isub hx hb d_MO_first_69 ?_
              refine zcV (ci := 4) (q0 := 0) (As := [.int (iI (c - 80))]) (rest := []) ⟨hx, hb, hml, hown, ht⟩ v_MO_86 (c_MO_pair l g r ut uc la wo bw mt ms (c - 80) (by omega)) ⟨Nat.le_of_ble_eq_true rfl, Nat.le_of_ble_eq_true rfl⟩ ⟨Nat.zero_le _, Nat.zero_le _⟩ hK hZ hS hP rfl rfl rfl rfl hl.1 rfl (Nat.le_of_ble_eq_true rfl) d_MO_first_70 (fun r_70 h_70 => ?_)
              subst h_70
              have q_70 := pairF_bd (c - 80)
              refine lv_bipush (v := iI 80) hx hb d_MO_first_73 (by decide) ?_
              refine ix_icmp_ne (tgt := 83) hx hb d_MO_first_75 (by decide) (by omega) (fun c_75 => ?_) (fun c_75 => ?_)
              · refine lv_iload_n hx hb d_MO_first_83 rfl (lv_at hl 1 rfl) ?_
                refine ix_if_le (tgt := 104) hx hb d_MO_first_84 (by decide) (by omega) (fun c_84 => ?_) (fun c_84 => ?_)
                · refine lv_iload_n hx hb d_MO_first_104 rfl (lv_at hl 1 rfl) ?_
                  subst hQ
                  exact W.iret (v := iI c) hx hb hr (fun t h9 hW => ⟨_, rfl, by first | (exfalso; omega) | (unfold firstF; repeat (first | rw [if_pos (by omega)] | rw [if_neg (by omega)])), h9⟩) (fun _ h9 => by cases h9) d_MO_first_105
                · refine lv_aload_n hx hb d_MO_first_87 rfl (lv_at hl 0 rfl) ?_
                  refine lv_iload_n hx hb d_MO_first_88 rfl (lv_at hl 1 rfl) ?_
                  refine lv_iconst (v := iI 1) hx hb d_MO_first_89 rfl ?_
                  refine ix_isub hx hb d_MO_first_90 ?_
                  refine zcV (ci := 4) (q0 := 0) (As := [.int (iI (c - 1))]) (rest := []) ⟨hx, hb, hml, hown, ht⟩ v_MO_86 (c_MO_pair l g r ut uc la wo bw mt ms (c - 1) (by omega)) ⟨Nat.le_of_ble_eq_true rfl, Nat.le_of_ble_eq_true rfl⟩ ⟨Nat.zero_le _, Nat.zero_le _⟩ hK hZ hS hP rfl rfl rfl rfl hl.1 rfl (Nat.le_of_ble_eq_true rfl) d_MO_first_91 (fun r_91 h_91 => ?_)
                  subst h_91
                  have q_91 := pairF_bd (c - 1)
                  refine lv_iconst (v := iI 1) hx hb d_MO_first_94 rfl ?_
                  refine ix_icmp_ne (tgt := 104) hx hb d_MO_first_95 (by decide) (by omega) (fun c_95 => ?_) (fun c_95 => ?_)
                  · refine lv_iload_n hx hb d_MO_first_104 rfl (lv_at hl 1 rfl) ?_
                    subst hQ
                    exact W.iret (v := iI c) hx hb hr (fun t h9 hW => ⟨_, rfl, by first | (exfalso; omega) | (unfold firstF; repeat (first | rw [if_pos (by omega)] | rw [if_neg (by omega)])), h9⟩) (fun _ h9 => by cases h9) d_MO_first_105
                  · refine lv_iload_n hx hb d_MO_first_98 rfl (lv_at hl 1 rfl) ?_
                    refine lv_iconst (v := iI 1) hx hb d_MO_first_99 rfl ?_
                    refine ix_isub hx hb d_MO_first_100 ?_
                    refine lv_goto (tgt := 105) hx hb d_MO_first_101 (by decide) ?_
                    subst hQ
                    exact W.iret (v := iI (c - 1)) hx hb hr (fun t h9 hW => ⟨_, rfl, by first | (exfalso; omega) | (unfold firstF; repeat (first | rw [if_pos (by omega)] | rw [if_neg (by omega)])), h9⟩) (fun _ h9 => by cases h9) d_MO_first_105
              · refine lv_iload_n hx hb d_MO_first_78 rfl (lv_at hl 1 rfl) ?_
                refine lv_bipush (v := iI 80) hx hb d_MO_first_79 (by decide) ?_
                refine ix_isub hx hb d_MO_first_81 ?_
                subst hQ
                exact W.iret (v := iI (c - 80)) hx hb hr (fun t h9 hW => ⟨_, rfl, by first | (exfalso; omega) | (unfold firstF; repeat (first | rw [if_pos (by omega)] | rw [if_neg (by omega)])), h9⟩) (fun _ h9 => by cases h9) d_MO_first_82
          · refine lv_iload_n hx hb d_MO_first_54 rfl (lv_at hl 1 rfl) ?_
            refine lv_bipush (v := iI 32) hx hb d_MO_first_55 (by decide) ?_
            refine ix_isub hx hb d_MO_first_57 ?_
            subst hQ
            exact W.iret (v := iI (c - 32)) hx hb hr (fun t h9 hW => ⟨_, rfl, by first | (exfalso; omega) | (unfold firstF; repeat (first | rw [if_pos (by omega)] | rw [if_neg (by omega)])), h9⟩) (fun _ h9 => by cases h9) d_MO_first_58
      · refine lv_iload_n hx hb d_MO_first_33 rfl (lv_at hl 1 rfl) ?_
        subst hQ
        exact W.iret (v := iI c) hx hb hr (fun t h9 hW => ⟨_, rfl, by first | (exfalso; omega) | (unfold firstF; repeat (first | rw [if_pos (by omega)] | rw [if_neg (by omega)])), h9⟩) (fun _ h9 => by cases h9) d_MO_first_34
    · refine lv_sipush (v := iI 376) hx hb d_MO_first_21 (by decide) ?_
      subst hQ
      exact W.iret (v := iI 376) hx hb hr (fun t h9 hW => ⟨_, rfl, by first | (exfalso; omega) | (unfold firstF; repeat (first | rw [if_pos (by omega)] | rw [if_neg (by omega)])), h9⟩) (fun _ h9 => by cases h9) d_MO_first_24
  · refine lv_aload_n hx hb d_MO_first_8 rfl (lv_at hl 0 rfl) ?_
    refine lv_iload_n hx hb d_MO_first_9 rfl (lv_at hl 1 rfl) ?_
    refine zcV (ci := 4) (q0 := 0) (As := [.int (iI c)]) (rest := []) ⟨hx, hb, hml, hown, ht⟩ v_MO_83 (c_MO_third l g r ut uc la wo bw mt ms c (by omega)) ⟨Nat.le_of_ble_eq_true rfl, Nat.le_of_ble_eq_true rfl⟩ ⟨Nat.zero_le _, Nat.zero_le _⟩ hK hZ hS hP rfl rfl rfl rfl hl.1 rfl (Nat.le_of_ble_eq_true rfl) d_MO_first_10 (fun r_10 h_10 => ?_)
    subst h_10
    have q_10 := thirdF_bd c
    subst hQ
    exact W.iret (v := iI (thirdF c)) hx hb hr (fun t h9 hW => ⟨_, rfl, by first | (exfalso; omega) | (unfold firstF; repeat (first | rw [if_pos (by omega)] | rw [if_neg (by omega)])), h9⟩) (fun _ h9 => by cases h9) d_MO_first_13
set_option maxHeartbeats 4000000 in
set_option maxRecDepth 100000 in
theorem c_MO_holds (l : Launch) (g : zG) (r : Nat → Nat) (ut uc la wo : Int) (bw : Nat → Nat) (mt : Nat → Int) (ms : Int) (k c : Int) (hk : 0 ≤ k ∧ k ≤ 48) (hc : 0 ≤ c ∧ c ≤ 1114111) : Met l y_MO_holds w_MO_holds (zr 2 43) (zP g [.ref (r 0), .int (iI k), .int (iI c)] [(r 0, .inr (4, [.int (iI ut), .int (iI uc), .int (iI la), .int (iI wo), .ref (r 1), .ref (r 2), .ref (r 3), .int (iI ms), .ref (r 4)])), (r 1, .inl (zJ g, 139264, .inr (.inl (lA bw)))), (r 2, .inl (zBt g, 12544, .inl (ai kF))), (r 3, .inl (zI g, 4, .inl (ai mt))), (r 4, .inl (zI g, 14, .inl (ai PT)))]) (vp_Si (fun z => ((holdF k c) ∧ z = iI 1) ∨ (¬ (holdF k c) ∧ z = iI 0))) 0 0 (fun _ => False) := by
  refine Met.ofW (cc := b_MO_holds) (maxL := 4) (ret := (some .boolean)) (by decide) rfl ?_
  intro p e s m args below meth cd s₁ B hml hv
  obtain ⟨hargs, hP, hK, hZ⟩ := hv
  have hx := B.exec
  have hb := B.bytes
  have hr := B.returns
  have ht : ∀ w ∈ lw_ok, w.before args s = true := fun w h => atoms_spec (ws := w_MO_holds) B.pre w (List.mem_cons_of_mem _ h)
  have hown : s.vm.findClass R_MO = some m.cls := findClass_of_methodNamed B.named
  have hlocks := B.notSynchronized
  have hS : va_S (fun _ => False) s.heap s.heap [] := va_S.rf
  generalize hQ : MQ below _ args s 0 0 _ = Q
  have hl := lv_entry ([.ref (r 0), .int (iI k), .int (iI c)]) (n := 4) (Nat.le_of_ble_eq_true rfl)
  rw [show entryFrame m args 4 = entryFrame m ([.ref (r 0), .int (iI k), .int (iI c)] : List Value).toArray 4 by rw [hargs], lg_entry_eq]
  generalize (lg_sl ([.ref (r 0), .int (iI k), .int (iI c)]) ++ List.replicate (4 - (lg_sl ([.ref (r 0), .int (iI k), .int (iI c)])).length) Slot.unset).toArray = ls at hl ⊢
  have hl : lv_has ls 4 [(0, .ref (r 0)), (1, .int (iI k)), (2, .int (iI c))] := hl
  refine lv_aload_n hx hb d_MO_holds_0 rfl (lv_at hl 0 rfl) ?_
  refine lv_iload_n hx hb d_MO_holds_1 rfl (lv_at hl 2 rfl) ?_
  refine zcV (ci := 4) (q0 := 0) (As := [.int (iI c)]) (rest := []) ⟨hx, hb, hml, hown, ht⟩ v_MO_75 (c_MO_category l g r ut uc la wo bw mt ms c (by omega)) ⟨Nat.le_of_ble_eq_true rfl, Nat.le_of_ble_eq_true rfl⟩ ⟨Nat.zero_le _, Nat.zero_le _⟩ hK hZ hS hP rfl rfl rfl rfl hl.1 rfl (Nat.le_of_ble_eq_true rfl) d_MO_holds_2 (fun r_2 h_2 => ?_)
  subst h_2
  have q_2 := catF_bd c (by omega)
  refine lv_istore_n (lv' := [(3, .int (iI (catF c))), (0, .ref (r 0)), (1, .int (iI k)), (2, .int (iI c))]) hx hb d_MO_holds_5 rfl hl (by decide) rfl (fun ls hl => ?_)
  refine lv_iload_n hx hb d_MO_holds_6 rfl (lv_at hl 2 rfl) ?_
  refine lv_bipush (v := iI 25) hx hb d_MO_holds_7 (by decide) ?_
  refine ix_icmp_ge (tgt := 23) hx hb d_MO_holds_9 (by decide) (by omega) (fun c_9 => ?_) (fun c_9 => ?_)
  · refine lv_iload_n hx hb d_MO_holds_23 rfl (lv_at hl 2 rfl) ?_
    refine lv_bipush (v := iI 32) hx hb d_MO_holds_24 (by decide) ?_
    refine ix_icmp_ge (tgt := 39) hx hb d_MO_holds_26 (by decide) (by omega) (fun c_26 => ?_) (fun c_26 => ?_)
    · refine lv_iload_n hx hb d_MO_holds_39 rfl (lv_at hl 2 rfl) ?_
      refine lv_bipush (v := iI 44) hx hb d_MO_holds_40 (by decide) ?_
      refine ix_icmp_ge (tgt := 63) hx hb d_MO_holds_42 (by decide) (by omega) (fun c_42 => ?_) (fun c_42 => ?_)
      · refine lv_iload_n hx hb d_MO_holds_63 rfl (lv_at hl 2 rfl) ?_
        refine lv_bipush (v := iI 44) hx hb d_MO_holds_64 (by decide) ?_
        refine ix_icmp_ne (tgt := 71) hx hb d_MO_holds_66 (by decide) (by omega) (fun c_66 => ?_) (fun c_66 => ?_)
        · refine lv_iload_n hx hb d_MO_holds_71 rfl (lv_at hl 2 rfl) ?_
          refine lv_bipush (v := iI 45) hx hb d_MO_holds_72 (by decide) ?_
          refine ix_icmp_ne (tgt := 94) hx hb d_MO_holds_74 (by decide) (by omega) (fun c_74 => ?_) (fun c_74 => ?_)
          · refine lv_iload_n hx hb d_MO_holds_94 rfl (lv_at hl 2 rfl) ?_
            refine lv_bipush (v := iI 46) hx hb d_MO_holds_95 (by decide) ?_
            refine ix_icmp_ne (tgt := 124) hx hb d_MO_holds_97 (by decide) (by omega) (fun c_97 => ?_) (fun c_97 => ?_)
            · refine lv_iload_n hx hb d_MO_holds_124 rfl (lv_at hl 2 rfl) ?_
              refine lv_bipush (v := iI 47) hx hb d_MO_holds_125 (by decide) ?_
              refine ix_icmp_ne (tgt := 160) hx hb d_MO_holds_127 (by decide) (by omega) (fun c_127 => ?_) (fun c_127 => ?_)
              · refine lv_iload_n hx hb d_MO_holds_160 rfl (lv_at hl 3 rfl) ?_
                refine lv_bipush (v := iI 9) hx hb d_MO_holds_161 (by decide) ?_
                refine ix_icmp_lt (tgt := 172) hx hb d_MO_holds_163 (by decide) (by omega) (fun c_163 => ?_) (fun c_163 => ?_)
                · refine lv_iload_n hx hb d_MO_holds_172 rfl (lv_at hl 3 rfl) ?_
                  refine lv_sipush (v := iI 133) hx hb d_MO_holds_173 (by decide) ?_
                  refine ix_icmp_eq (tgt := 189) hx hb d_MO_holds_176 (by decide) (by omega) (fun c_176 => ?_) (fun c_176 => ?_)
                  · refine lv_iconst (v := iI 1) hx hb d_MO_holds_189 rfl ?_
                    refine lv_goto (tgt := 194) hx hb d_MO_holds_190 (by decide) ?_
                    subst hQ
                    exact W.zret (v := iI 1) hx hb hr (by decide) (fun t h9 hW => ⟨_, rfl, Or.inl ⟨by first | (exfalso; omega) | (unfold holdF; repeat (first | rw [if_pos (by omega)] | rw [if_neg (by omega)]); first | trivial | omega | grind), rfl⟩, h9⟩) (fun _ h9 => by cases h9) d_MO_holds_194
                  · refine lv_aload_n hx hb d_MO_holds_179 rfl (lv_at hl 1 rfl) ?_
                    refine lv_bipush (v := iI 6) hx hb d_MO_holds_180 (by decide) ?_
                    refine lv_iload_n hx hb d_MO_holds_182 rfl (lv_at hl 0 rfl) ?_
                    refine zcV (ci := 4) (q0 := 0) (As := [.int (iI 6), .int (iI (catF c))]) (rest := []) ⟨hx, hb, hml, hown, ht⟩ v_MO_127 (c_MO_general l g r ut uc la wo bw mt ms 6 (catF c) (by omega)) ⟨Nat.le_of_ble_eq_true rfl, Nat.le_of_ble_eq_true rfl⟩ ⟨Nat.zero_le _, Nat.zero_le _⟩ hK hZ hS hP rfl rfl rfl rfl hl.1 rfl (Nat.le_of_ble_eq_true rfl) d_MO_holds_183 (fun r_183 h_183 => ?_)
                    rcases h_183 with ⟨h_183, rfl⟩ | ⟨h_183, rfl⟩
                    · refine ix_if_eq (tgt := 193) hx hb d_MO_holds_186 (by decide) (by omega) (fun c_186 => ?_) (fun c_186 => ?_)
                      · exact absurd c_186 (by decide)
                      · refine lv_iconst (v := iI 1) hx hb d_MO_holds_189 rfl ?_
                        refine lv_goto (tgt := 194) hx hb d_MO_holds_190 (by decide) ?_
                        subst hQ
                        exact W.zret (v := iI 1) hx hb hr (by decide) (fun t h9 hW => ⟨_, rfl, Or.inl ⟨by first | (exfalso; omega) | (unfold holdF; repeat (first | rw [if_pos (by omega)] | rw [if_neg (by omega)]); first | trivial | omega | grind), rfl⟩, h9⟩) (fun _ h9 => by cases h9) d_MO_holds_194
                    · refine ix_if_eq (tgt := 193) hx hb d_MO_holds_186 (by decide) (by omega) (fun c_186 => ?_) (fun c_186 => ?_)
                      · refine lv_iconst (v := iI 0) hx hb d_MO_holds_193 rfl ?_
                        subst hQ
                        exact W.zret (v := iI 0) hx hb hr (by decide) (fun t h9 hW => ⟨_, rfl, Or.inr ⟨by first | (exfalso; omega) | (unfold holdF; repeat (first | rw [if_pos (by omega)] | rw [if_neg (by omega)]); first | trivial | omega | grind), rfl⟩, h9⟩) (fun _ h9 => by cases h9) d_MO_holds_194
                      · exact absurd c_186 (by decide)
                · refine lv_iload_n hx hb d_MO_holds_166 rfl (lv_at hl 3 rfl) ?_
                  refine lv_bipush (v := iI 13) hx hb d_MO_holds_167 (by decide) ?_
                  refine ix_icmp_le (tgt := 189) hx hb d_MO_holds_169 (by decide) (by omega) (fun c_169 => ?_) (fun c_169 => ?_)
                  · refine lv_iconst (v := iI 1) hx hb d_MO_holds_189 rfl ?_
                    refine lv_goto (tgt := 194) hx hb d_MO_holds_190 (by decide) ?_
                    subst hQ
                    exact W.zret (v := iI 1) hx hb hr (by decide) (fun t h9 hW => ⟨_, rfl, Or.inl ⟨by first | (exfalso; omega) | (unfold holdF; repeat (first | rw [if_pos (by omega)] | rw [if_neg (by omega)]); first | trivial | omega | grind), rfl⟩, h9⟩) (fun _ h9 => by cases h9) d_MO_holds_194
                  · refine lv_iload_n hx hb d_MO_holds_172 rfl (lv_at hl 3 rfl) ?_
                    refine lv_sipush (v := iI 133) hx hb d_MO_holds_173 (by decide) ?_
                    refine ix_icmp_eq (tgt := 189) hx hb d_MO_holds_176 (by decide) (by omega) (fun c_176 => ?_) (fun c_176 => ?_)
                    · refine lv_iconst (v := iI 1) hx hb d_MO_holds_189 rfl ?_
                      refine lv_goto (tgt := 194) hx hb d_MO_holds_190 (by decide) ?_
                      subst hQ
                      exact W.zret (v := iI 1) hx hb hr (by decide) (fun t h9 hW => ⟨_, rfl, Or.inl ⟨by first | (exfalso; omega) | (unfold holdF; repeat (first | rw [if_pos (by omega)] | rw [if_neg (by omega)]); first | trivial | omega | grind), rfl⟩, h9⟩) (fun _ h9 => by cases h9) d_MO_holds_194
                    · refine lv_aload_n hx hb d_MO_holds_179 rfl (lv_at hl 1 rfl) ?_
                      refine lv_bipush (v := iI 6) hx hb d_MO_holds_180 (by decide) ?_
                      refine lv_iload_n hx hb d_MO_holds_182 rfl (lv_at hl 0 rfl) ?_
                      refine zcV (ci := 4) (q0 := 0) (As := [.int (iI 6), .int (iI (catF c))]) (rest := []) ⟨hx, hb, hml, hown, ht⟩ v_MO_127 (c_MO_general l g r ut uc la wo bw mt ms 6 (catF c) (by omega)) ⟨Nat.le_of_ble_eq_true rfl, Nat.le_of_ble_eq_true rfl⟩ ⟨Nat.zero_le _, Nat.zero_le _⟩ hK hZ hS hP rfl rfl rfl rfl hl.1 rfl (Nat.le_of_ble_eq_true rfl) d_MO_holds_183 (fun r_183 h_183 => ?_)
                      rcases h_183 with ⟨h_183, rfl⟩ | ⟨h_183, rfl⟩
                      · refine ix_if_eq (tgt := 193) hx hb d_MO_holds_186 (by decide) (by omega) (fun c_186 => ?_) (fun c_186 => ?_)
                        · exact absurd c_186 (by decide)
                        · refine lv_iconst (v := iI 1) hx hb d_MO_holds_189 rfl ?_
                          refine lv_goto (tgt := 194) hx hb d_MO_holds_190 (by decide) ?_
                          subst hQ
                          exact W.zret (v := iI 1) hx hb hr (by decide) (fun t h9 hW => ⟨_, rfl, Or.inl ⟨by first | (exfalso; omega) | (unfold holdF; repeat (first | rw [if_pos (by omega)] | rw [if_neg (by omega)]); first | trivial | omega | grind), rfl⟩, h9⟩) (fun _ h9 => by cases h9) d_MO_holds_194
                      · refine ix_if_eq (tgt := 193) hx hb d_MO_holds_186 (by decide) (by omega) (fun c_186 => ?_) (fun c_186 => ?_)
                        · refine lv_iconst (v := iI 0) hx hb d_MO_holds_193 rfl ?_
                          subst hQ
                          exact W.zret (v := iI 0) hx hb hr (by decide) (fun t h9 hW => ⟨_, rfl, Or.inr ⟨by first | (exfalso; omega) | (unfold holdF; repeat (first | rw [if_pos (by omega)] | rw [if_neg (by omega)]); first | trivial | omega | grind), rfl⟩, h9⟩) (fun _ h9 => by cases h9) d_MO_holds_194
                        · exact absurd c_186 (by decide)
              · refine lv_aload_n hx hb d_MO_holds_130 rfl (lv_at hl 1 rfl) ?_
                refine lv_iconst (v := iI 1) hx hb d_MO_holds_131 rfl ?_
                refine lv_iload_n hx hb d_MO_holds_132 rfl (lv_at hl 0 rfl) ?_
                refine zcV (ci := 4) (q0 := 0) (As := [.int (iI 1), .int (iI (catF c))]) (rest := []) ⟨hx, hb, hml, hown, ht⟩ v_MO_127 (c_MO_general l g r ut uc la wo bw mt ms 1 (catF c) (by omega)) ⟨Nat.le_of_ble_eq_true rfl, Nat.le_of_ble_eq_true rfl⟩ ⟨Nat.zero_le _, Nat.zero_le _⟩ hK hZ hS hP rfl rfl rfl rfl hl.1 rfl (Nat.le_of_ble_eq_true rfl) d_MO_holds_133 (fun r_133 h_133 => ?_)
                rcases h_133 with ⟨h_133, rfl⟩ | ⟨h_133, rfl⟩
                · refine ix_if_ne (tgt := 154) hx hb d_MO_holds_136 (by decide) (by omega) (fun c_136 => ?_) (fun c_136 => ?_)
                  · refine lv_iconst (v := iI 1) hx hb d_MO_holds_154 rfl ?_
                    refine lv_goto (tgt := 159) hx hb d_MO_holds_155 (by decide) ?_
                    subst hQ
                    exact W.zret (v := iI 1) hx hb hr (by decide) (fun t h9 hW => ⟨_, rfl, Or.inl ⟨by first | (exfalso; omega) | (unfold holdF; repeat (first | rw [if_pos (by omega)] | rw [if_neg (by omega)]); first | trivial | omega | grind), rfl⟩, h9⟩) (fun _ h9 => by cases h9) d_MO_holds_159
                  · exact absurd c_136 (by decide)
                · refine ix_if_ne (tgt := 154) hx hb d_MO_holds_136 (by decide) (by omega) (fun c_136 => ?_) (fun c_136 => ?_)
                  · exact absurd c_136 (by decide)
                  · refine lv_aload_n hx hb d_MO_holds_139 rfl (lv_at hl 1 rfl) ?_
                    refine lv_iconst (v := iI 3) hx hb d_MO_holds_140 rfl ?_
                    refine lv_iload_n hx hb d_MO_holds_141 rfl (lv_at hl 0 rfl) ?_
                    refine zcV (ci := 4) (q0 := 0) (As := [.int (iI 3), .int (iI (catF c))]) (rest := []) ⟨hx, hb, hml, hown, ht⟩ v_MO_127 (c_MO_general l g r ut uc la wo bw mt ms 3 (catF c) (by omega)) ⟨Nat.le_of_ble_eq_true rfl, Nat.le_of_ble_eq_true rfl⟩ ⟨Nat.zero_le _, Nat.zero_le _⟩ hK hZ hS hP rfl rfl rfl rfl hl.1 rfl (Nat.le_of_ble_eq_true rfl) d_MO_holds_142 (fun r_142 h_142 => ?_)
                    rcases h_142 with ⟨h_142, rfl⟩ | ⟨h_142, rfl⟩
                    · refine ix_if_ne (tgt := 154) hx hb d_MO_holds_145 (by decide) (by omega) (fun c_145 => ?_) (fun c_145 => ?_)
                      · refine lv_iconst (v := iI 1) hx hb d_MO_holds_154 rfl ?_
                        refine lv_goto (tgt := 159) hx hb d_MO_holds_155 (by decide) ?_
                        subst hQ
                        exact W.zret (v := iI 1) hx hb hr (by decide) (fun t h9 hW => ⟨_, rfl, Or.inl ⟨by first | (exfalso; omega) | (unfold holdF; repeat (first | rw [if_pos (by omega)] | rw [if_neg (by omega)]); first | trivial | omega | grind), rfl⟩, h9⟩) (fun _ h9 => by cases h9) d_MO_holds_159
                      · exact absurd c_145 (by decide)
                    · refine ix_if_ne (tgt := 154) hx hb d_MO_holds_145 (by decide) (by omega) (fun c_145 => ?_) (fun c_145 => ?_)
                      · exact absurd c_145 (by decide)
                      · refine lv_iload_n hx hb d_MO_holds_148 rfl (lv_at hl 3 rfl) ?_
                        refine lv_bipush (v := iI 95) hx hb d_MO_holds_149 (by decide) ?_
                        refine ix_icmp_ne (tgt := 158) hx hb d_MO_holds_151 (by decide) (by omega) (fun c_151 => ?_) (fun c_151 => ?_)
                        · refine lv_iconst (v := iI 0) hx hb d_MO_holds_158 rfl ?_
                          subst hQ
                          exact W.zret (v := iI 0) hx hb hr (by decide) (fun t h9 hW => ⟨_, rfl, Or.inr ⟨by first | (exfalso; omega) | (unfold holdF; repeat (first | rw [if_pos (by omega)] | rw [if_neg (by omega)]); first | trivial | omega | grind), rfl⟩, h9⟩) (fun _ h9 => by cases h9) d_MO_holds_159
                        · refine lv_iconst (v := iI 1) hx hb d_MO_holds_154 rfl ?_
                          refine lv_goto (tgt := 159) hx hb d_MO_holds_155 (by decide) ?_
                          subst hQ
                          exact W.zret (v := iI 1) hx hb hr (by decide) (fun t h9 hW => ⟨_, rfl, Or.inl ⟨by first | (exfalso; omega) | (unfold holdF; repeat (first | rw [if_pos (by omega)] | rw [if_neg (by omega)]); first | trivial | omega | grind), rfl⟩, h9⟩) (fun _ h9 => by cases h9) d_MO_holds_159
            · refine lv_aload_n hx hb d_MO_holds_100 rfl (lv_at hl 1 rfl) ?_
              refine lv_iconst (v := iI 1) hx hb d_MO_holds_101 rfl ?_
              refine lv_iload_n hx hb d_MO_holds_102 rfl (lv_at hl 0 rfl) ?_
              refine zcV (ci := 4) (q0 := 0) (As := [.int (iI 1), .int (iI (catF c))]) (rest := []) ⟨hx, hb, hml, hown, ht⟩ v_MO_127 (c_MO_general l g r ut uc la wo bw mt ms 1 (catF c) (by omega)) ⟨Nat.le_of_ble_eq_true rfl, Nat.le_of_ble_eq_true rfl⟩ ⟨Nat.zero_le _, Nat.zero_le _⟩ hK hZ hS hP rfl rfl rfl rfl hl.1 rfl (Nat.le_of_ble_eq_true rfl) d_MO_holds_103 (fun r_103 h_103 => ?_)
              rcases h_103 with ⟨h_103, rfl⟩ | ⟨h_103, rfl⟩
              · refine ix_if_ne (tgt := 118) hx hb d_MO_holds_106 (by decide) (by omega) (fun c_106 => ?_) (fun c_106 => ?_)
                · refine lv_iconst (v := iI 1) hx hb d_MO_holds_118 rfl ?_
                  refine lv_goto (tgt := 123) hx hb d_MO_holds_119 (by decide) ?_
                  subst hQ
                  exact W.zret (v := iI 1) hx hb hr (by decide) (fun t h9 hW => ⟨_, rfl, Or.inl ⟨by first | (exfalso; omega) | (unfold holdF; repeat (first | rw [if_pos (by omega)] | rw [if_neg (by omega)]); first | trivial | omega | grind), rfl⟩, h9⟩) (fun _ h9 => by cases h9) d_MO_holds_123
                · exact absurd c_106 (by decide)
              · refine ix_if_ne (tgt := 118) hx hb d_MO_holds_106 (by decide) (by omega) (fun c_106 => ?_) (fun c_106 => ?_)
                · exact absurd c_106 (by decide)
                · refine lv_aload_n hx hb d_MO_holds_109 rfl (lv_at hl 1 rfl) ?_
                  refine lv_iconst (v := iI 3) hx hb d_MO_holds_110 rfl ?_
                  refine lv_iload_n hx hb d_MO_holds_111 rfl (lv_at hl 0 rfl) ?_
                  refine zcV (ci := 4) (q0 := 0) (As := [.int (iI 3), .int (iI (catF c))]) (rest := []) ⟨hx, hb, hml, hown, ht⟩ v_MO_127 (c_MO_general l g r ut uc la wo bw mt ms 3 (catF c) (by omega)) ⟨Nat.le_of_ble_eq_true rfl, Nat.le_of_ble_eq_true rfl⟩ ⟨Nat.zero_le _, Nat.zero_le _⟩ hK hZ hS hP rfl rfl rfl rfl hl.1 rfl (Nat.le_of_ble_eq_true rfl) d_MO_holds_112 (fun r_112 h_112 => ?_)
                  rcases h_112 with ⟨h_112, rfl⟩ | ⟨h_112, rfl⟩
                  · refine ix_if_eq (tgt := 122) hx hb d_MO_holds_115 (by decide) (by omega) (fun c_115 => ?_) (fun c_115 => ?_)
                    · exact absurd c_115 (by decide)
                    · refine lv_iconst (v := iI 1) hx hb d_MO_holds_118 rfl ?_
                      refine lv_goto (tgt := 123) hx hb d_MO_holds_119 (by decide) ?_
                      subst hQ
                      exact W.zret (v := iI 1) hx hb hr (by decide) (fun t h9 hW => ⟨_, rfl, Or.inl ⟨by first | (exfalso; omega) | (unfold holdF; repeat (first | rw [if_pos (by omega)] | rw [if_neg (by omega)]); first | trivial | omega | grind), rfl⟩, h9⟩) (fun _ h9 => by cases h9) d_MO_holds_123
                  · refine ix_if_eq (tgt := 122) hx hb d_MO_holds_115 (by decide) (by omega) (fun c_115 => ?_) (fun c_115 => ?_)
                    · refine lv_iconst (v := iI 0) hx hb d_MO_holds_122 rfl ?_
                      subst hQ
                      exact W.zret (v := iI 0) hx hb hr (by decide) (fun t h9 hW => ⟨_, rfl, Or.inr ⟨by first | (exfalso; omega) | (unfold holdF; repeat (first | rw [if_pos (by omega)] | rw [if_neg (by omega)]); first | trivial | omega | grind), rfl⟩, h9⟩) (fun _ h9 => by cases h9) d_MO_holds_123
                    · exact absurd c_115 (by decide)
          · refine lv_iload_n hx hb d_MO_holds_77 rfl (lv_at hl 0 rfl) ?_
            refine lv_iconst (v := iI 4) hx hb d_MO_holds_78 rfl ?_
            refine ix_icmp_eq (tgt := 88) hx hb d_MO_holds_79 (by decide) (by omega) (fun c_79 => ?_) (fun c_79 => ?_)
            · refine lv_iconst (v := iI 1) hx hb d_MO_holds_88 rfl ?_
              refine lv_goto (tgt := 93) hx hb d_MO_holds_89 (by decide) ?_
              subst hQ
              exact W.zret (v := iI 1) hx hb hr (by decide) (fun t h9 hW => ⟨_, rfl, Or.inl ⟨by first | (exfalso; omega) | (unfold holdF; repeat (first | rw [if_pos (by omega)] | rw [if_neg (by omega)]); first | trivial | omega | grind), rfl⟩, h9⟩) (fun _ h9 => by cases h9) d_MO_holds_93
            · refine lv_iload_n hx hb d_MO_holds_82 rfl (lv_at hl 0 rfl) ?_
              refine lv_bipush (v := iI 6) hx hb d_MO_holds_83 (by decide) ?_
              refine ix_icmp_ne (tgt := 92) hx hb d_MO_holds_85 (by decide) (by omega) (fun c_85 => ?_) (fun c_85 => ?_)
              · refine lv_iconst (v := iI 0) hx hb d_MO_holds_92 rfl ?_
                subst hQ
                exact W.zret (v := iI 0) hx hb hr (by decide) (fun t h9 hW => ⟨_, rfl, Or.inr ⟨by first | (exfalso; omega) | (unfold holdF; repeat (first | rw [if_pos (by omega)] | rw [if_neg (by omega)]); first | trivial | omega | grind), rfl⟩, h9⟩) (fun _ h9 => by cases h9) d_MO_holds_93
              · refine lv_iconst (v := iI 1) hx hb d_MO_holds_88 rfl ?_
                refine lv_goto (tgt := 93) hx hb d_MO_holds_89 (by decide) ?_
                subst hQ
                exact W.zret (v := iI 1) hx hb hr (by decide) (fun t h9 hW => ⟨_, rfl, Or.inl ⟨by first | (exfalso; omega) | (unfold holdF; repeat (first | rw [if_pos (by omega)] | rw [if_neg (by omega)]); first | trivial | omega | grind), rfl⟩, h9⟩) (fun _ h9 => by cases h9) d_MO_holds_93
        · refine lv_iconst (v := iI 1) hx hb d_MO_holds_69 rfl ?_
          subst hQ
          exact W.zret (v := iI 1) hx hb hr (by decide) (fun t h9 hW => ⟨_, rfl, Or.inl ⟨by first | (exfalso; omega) | (unfold holdF; repeat (first | rw [if_pos (by omega)] | rw [if_neg (by omega)]); first | trivial | omega | grind), rfl⟩, h9⟩) (fun _ h9 => by cases h9) d_MO_holds_70
      · refine lv_aload_n hx hb d_MO_holds_45 rfl (lv_at hl 1 rfl) ?_
        refine lv_iload_n hx hb d_MO_holds_46 rfl (lv_at hl 3 rfl) ?_
        refine zcV (ci := 4) (q0 := 0) (As := [.int (iI c)]) (rest := []) ⟨hx, hb, hml, hown, ht⟩ v_MO_131 (c_MO_script l g r ut uc la wo bw mt ms c (by omega)) ⟨Nat.le_of_ble_eq_true rfl, Nat.le_of_ble_eq_true rfl⟩ ⟨Nat.zero_le _, Nat.zero_le _⟩ hK hZ hS hP rfl rfl rfl rfl hl.1 rfl (Nat.le_of_ble_eq_true rfl) d_MO_holds_47 (fun r_47 h_47 => ?_)
        subst h_47
        have q_47 := scrF_bd c
        refine lv_iload_n hx hb d_MO_holds_50 rfl (lv_at hl 2 rfl) ?_
        refine lv_bipush (v := iI 32) hx hb d_MO_holds_51 (by decide) ?_
        refine ix_isub hx hb d_MO_holds_53 ?_
        refine ix_icmp_ne (tgt := 61) hx hb d_MO_holds_54 (by decide) (by omega) (fun c_54 => ?_) (fun c_54 => ?_)
        · refine lv_iconst (v := iI 0) hx hb d_MO_holds_61 rfl ?_
          subst hQ
          exact W.zret (v := iI 0) hx hb hr (by decide) (fun t h9 hW => ⟨_, rfl, Or.inr ⟨by first | (exfalso; omega) | (unfold holdF; repeat (first | rw [if_pos (by omega)] | rw [if_neg (by omega)]); first | trivial | omega | grind), rfl⟩, h9⟩) (fun _ h9 => by cases h9) d_MO_holds_62
        · refine lv_iconst (v := iI 1) hx hb d_MO_holds_57 rfl ?_
          refine lv_goto (tgt := 62) hx hb d_MO_holds_58 (by decide) ?_
          subst hQ
          exact W.zret (v := iI 1) hx hb hr (by decide) (fun t h9 hW => ⟨_, rfl, Or.inl ⟨by first | (exfalso; omega) | (unfold holdF; repeat (first | rw [if_pos (by omega)] | rw [if_neg (by omega)]); first | trivial | omega | grind), rfl⟩, h9⟩) (fun _ h9 => by cases h9) d_MO_holds_62
    · refine lv_aload_n hx hb d_MO_holds_29 rfl (lv_at hl 1 rfl) ?_
      refine lv_iload_n hx hb d_MO_holds_30 rfl (lv_at hl 2 rfl) ?_
      refine lv_bipush (v := iI 25) hx hb d_MO_holds_31 (by decide) ?_
      refine ix_isub hx hb d_MO_holds_33 ?_
      refine lv_iload_n hx hb d_MO_holds_34 rfl (lv_at hl 0 rfl) ?_
      refine zcV (ci := 4) (q0 := 0) (As := [.int (iI (k - 25)), .int (iI (catF c))]) (rest := []) ⟨hx, hb, hml, hown, ht⟩ v_MO_127 (c_MO_general l g r ut uc la wo bw mt ms (k - 25) (catF c) (by omega)) ⟨Nat.le_of_ble_eq_true rfl, Nat.le_of_ble_eq_true rfl⟩ ⟨Nat.zero_le _, Nat.zero_le _⟩ hK hZ hS hP rfl rfl rfl rfl hl.1 rfl (Nat.le_of_ble_eq_true rfl) d_MO_holds_35 (fun r_35 h_35 => ?_)
      rcases h_35 with ⟨h_35, rfl⟩ | ⟨h_35, rfl⟩
      · subst hQ
        exact W.zret (v := iI 1) hx hb hr (by decide) (fun t h9 hW => ⟨_, rfl, Or.inl ⟨by first | (exfalso; omega) | (unfold holdF; repeat (first | rw [if_pos (by omega)] | rw [if_neg (by omega)]); first | trivial | omega | grind), rfl⟩, h9⟩) (fun _ h9 => by cases h9) d_MO_holds_38
      · subst hQ
        exact W.zret (v := iI 0) hx hb hr (by decide) (fun t h9 hW => ⟨_, rfl, Or.inr ⟨by first | (exfalso; omega) | (unfold holdF; repeat (first | rw [if_pos (by omega)] | rw [if_neg (by omega)]); first | trivial | omega | grind), rfl⟩, h9⟩) (fun _ h9 => by cases h9) d_MO_holds_38
  · refine lv_iload_n hx hb d_MO_holds_12 rfl (lv_at hl 0 rfl) ?_
    refine lv_iload_n hx hb d_MO_holds_13 rfl (lv_at hl 2 rfl) ?_
    refine ix_icmp_ne (tgt := 21) hx hb d_MO_holds_14 (by decide) (by omega) (fun c_14 => ?_) (fun c_14 => ?_)
    · refine lv_iconst (v := iI 0) hx hb d_MO_holds_21 rfl ?_
      subst hQ
      exact W.zret (v := iI 0) hx hb hr (by decide) (fun t h9 hW => ⟨_, rfl, Or.inr ⟨by first | (exfalso; omega) | (unfold holdF; repeat (first | rw [if_pos (by omega)] | rw [if_neg (by omega)]); first | trivial | omega | grind), rfl⟩, h9⟩) (fun _ h9 => by cases h9) d_MO_holds_22
    · refine lv_iconst (v := iI 1) hx hb d_MO_holds_17 rfl ?_
      refine lv_goto (tgt := 22) hx hb d_MO_holds_18 (by decide) ?_
      subst hQ
      exact W.zret (v := iI 1) hx hb hr (by decide) (fun t h9 hW => ⟨_, rfl, Or.inl ⟨by first | (exfalso; omega) | (unfold holdF; repeat (first | rw [if_pos (by omega)] | rw [if_neg (by omega)]); first | trivial | omega | grind), rfl⟩, h9⟩) (fun _ h9 => by cases h9) d_MO_holds_22
