set_option maxHeartbeats 4000000 in
set_option maxRecDepth 100000 in
theorem c_MO_pair (l : Launch) (g : zG) (r : Nat → Nat) (ut uc la wo : Int) (bw : Nat → Nat) (mt : Nat → Int) (ms : Int) (c : Int) (hc : 0 ≤ c ∧ c ≤ 1114111) : Met l y_MO_pair w_MO_pair (zr 1 23) (zP g [.ref (r 0), .int (iI c)] [(r 0, .inr (4, [.int (iI ut), .int (iI uc), .int (iI la), .int (iI wo), .ref (r 1), .ref (r 2), .ref (r 3), .int (iI ms), .ref (r 4)])), (r 1, .inl (zJ g, 139264, .inr (.inl (lA bw)))), (r 2, .inl (zBt g, 12544, .inl (ai kF))), (r 3, .inl (zI g, 4, .inl (ai mt))), (r 4, .inl (zI g, 14, .inl (ai PT)))]) (vp_Si (fun z => z = iI (pairF c))) 0 0 (fun _ => False) := by
  refine Met.ofW (cc := b_MO_pair) (maxL := 3) (ret := (some .int)) (by decide) rfl ?_
  intro p e s m args below meth cd s₁ B hml hv
  obtain ⟨hargs, hP, hK, hZ⟩ := hv
  have hx := B.exec
  have hb := B.bytes
  have hr := B.returns
  have ht : ∀ w ∈ lw_ok, w.before args s = true := fun w h => atoms_spec (ws := w_MO_pair) B.pre w (List.mem_cons_of_mem _ h)
  have hown : s.vm.findClass R_MO = some m.cls := findClass_of_methodNamed B.named
  have hlocks := B.notSynchronized
  have hS : va_S (fun _ => False) s.heap s.heap [] := va_S.rf
  generalize hQ : MQ below _ args s 0 0 _ = Q
  have hl := lv_entry ([.ref (r 0), .int (iI c)]) (n := 3) (Nat.le_of_ble_eq_true rfl)
  rw [show entryFrame m args 3 = entryFrame m ([.ref (r 0), .int (iI c)] : List Value).toArray 3 by rw [hargs], lg_entry_eq]
  generalize (lg_sl ([.ref (r 0), .int (iI c)]) ++ List.replicate (3 - (lg_sl ([.ref (r 0), .int (iI c)])).length) Slot.unset).toArray = ls at hl ⊢
  have hl : lv_has ls 3 [(0, .ref (r 0)), (1, .int (iI c))] := hl
  refine lv_aload_n hx hb d_MO_pair_0 rfl (lv_at hl 0 rfl) ?_
  refine lv_iload_n hx hb d_MO_pair_1 rfl (lv_at hl 1 rfl) ?_
  refine lv_bipush (v := iI 65) hx hb d_MO_pair_2 (by decide) ?_
  refine lv_bipush (v := iI 90) hx hb d_MO_pair_4 (by decide) ?_
  refine zcV (ci := 4) (q0 := 0) (As := [.int (iI c), .int (iI 65), .int (iI 90)]) (rest := []) ⟨hx, hb, hml, hown, ht⟩ v_MO_79 (c_MO_inAny l g r ut uc la wo bw mt ms c 65 90 (by omega) (by omega)) ⟨Nat.le_of_ble_eq_true rfl, Nat.le_of_ble_eq_true rfl⟩ ⟨Nat.zero_le _, Nat.zero_le _⟩ hK hZ hS hP rfl rfl rfl rfl hl.1 rfl (Nat.le_of_ble_eq_true rfl) d_MO_pair_6 (fun r_6 h_6 => ?_)
  rcases h_6 with ⟨h_6, rfl⟩ | ⟨h_6, rfl⟩
  · refine ix_if_ne (tgt := 82) hx hb d_MO_pair_9 (by decide) (by omega) (fun c_9 => ?_) (fun c_9 => ?_)
    · refine lv_bipush (v := iI 32) hx hb d_MO_pair_82 (by decide) ?_
      subst hQ
      exact W.iret (v := iI 32) hx hb hr (fun t h9 hW => ⟨_, rfl, by first | (exfalso; omega) | (unfold pairF; repeat (first | rw [if_pos (by omega)] | rw [if_neg (by omega)])), h9⟩) (fun _ h9 => by cases h9) d_MO_pair_84
    · exact absurd c_9 (by decide)
  · refine ix_if_ne (tgt := 82) hx hb d_MO_pair_9 (by decide) (by omega) (fun c_9 => ?_) (fun c_9 => ?_)
    · exact absurd c_9 (by decide)
    · refine lv_aload_n hx hb d_MO_pair_12 rfl (lv_at hl 0 rfl) ?_
      refine lv_iload_n hx hb d_MO_pair_13 rfl (lv_at hl 1 rfl) ?_
      refine lv_sipush (v := iI 192) hx hb d_MO_pair_14 (by decide) ?_
      refine lv_sipush (v := iI 214) hx hb d_MO_pair_17 (by decide) ?_
      refine zcV (ci := 4) (q0 := 0) (As := [.int (iI c), .int (iI 192), .int (iI 214)]) (rest := []) ⟨hx, hb, hml, hown, ht⟩ v_MO_79 (c_MO_inAny l g r ut uc la wo bw mt ms c 192 214 (by omega) (by omega)) ⟨Nat.le_of_ble_eq_true rfl, Nat.le_of_ble_eq_true rfl⟩ ⟨Nat.zero_le _, Nat.zero_le _⟩ hK hZ hS hP rfl rfl rfl rfl hl.1 rfl (Nat.le_of_ble_eq_true rfl) d_MO_pair_20 (fun r_20 h_20 => ?_)
      rcases h_20 with ⟨h_20, rfl⟩ | ⟨h_20, rfl⟩
      · refine ix_if_ne (tgt := 82) hx hb d_MO_pair_23 (by decide) (by omega) (fun c_23 => ?_) (fun c_23 => ?_)
        · refine lv_bipush (v := iI 32) hx hb d_MO_pair_82 (by decide) ?_
          subst hQ
          exact W.iret (v := iI 32) hx hb hr (fun t h9 hW => ⟨_, rfl, by first | (exfalso; omega) | (unfold pairF; repeat (first | rw [if_pos (by omega)] | rw [if_neg (by omega)])), h9⟩) (fun _ h9 => by cases h9) d_MO_pair_84
        · exact absurd c_23 (by decide)
      · refine ix_if_ne (tgt := 82) hx hb d_MO_pair_23 (by decide) (by omega) (fun c_23 => ?_) (fun c_23 => ?_)
        · exact absurd c_23 (by decide)
        · refine lv_aload_n hx hb d_MO_pair_26 rfl (lv_at hl 0 rfl) ?_
          refine lv_iload_n hx hb d_MO_pair_27 rfl (lv_at hl 1 rfl) ?_
          refine lv_sipush (v := iI 216) hx hb d_MO_pair_28 (by decide) ?_
          refine lv_sipush (v := iI 222) hx hb d_MO_pair_31 (by decide) ?_
          refine zcV (ci := 4) (q0 := 0) (As := [.int (iI c), .int (iI 216), .int (iI 222)]) (rest := []) ⟨hx, hb, hml, hown, ht⟩ v_MO_79 (c_MO_inAny l g r ut uc la wo bw mt ms c 216 222 (by omega) (by omega)) ⟨Nat.le_of_ble_eq_true rfl, Nat.le_of_ble_eq_true rfl⟩ ⟨Nat.zero_le _, Nat.zero_le _⟩ hK hZ hS hP rfl rfl rfl rfl hl.1 rfl (Nat.le_of_ble_eq_true rfl) d_MO_pair_34 (fun r_34 h_34 => ?_)
          rcases h_34 with ⟨h_34, rfl⟩ | ⟨h_34, rfl⟩
          · refine ix_if_ne (tgt := 82) hx hb d_MO_pair_37 (by decide) (by omega) (fun c_37 => ?_) (fun c_37 => ?_)
            · refine lv_bipush (v := iI 32) hx hb d_MO_pair_82 (by decide) ?_
              subst hQ
              exact W.iret (v := iI 32) hx hb hr (fun t h9 hW => ⟨_, rfl, by first | (exfalso; omega) | (unfold pairF; repeat (first | rw [if_pos (by omega)] | rw [if_neg (by omega)])), h9⟩) (fun _ h9 => by cases h9) d_MO_pair_84
            · exact absurd c_37 (by decide)
          · refine ix_if_ne (tgt := 82) hx hb d_MO_pair_37 (by decide) (by omega) (fun c_37 => ?_) (fun c_37 => ?_)
            · exact absurd c_37 (by decide)
            · refine lv_aload_n hx hb d_MO_pair_40 rfl (lv_at hl 0 rfl) ?_
              refine lv_iload_n hx hb d_MO_pair_41 rfl (lv_at hl 1 rfl) ?_
              refine lv_sipush (v := iI 913) hx hb d_MO_pair_42 (by decide) ?_
              refine lv_sipush (v := iI 929) hx hb d_MO_pair_45 (by decide) ?_
              refine zcV (ci := 4) (q0 := 0) (As := [.int (iI c), .int (iI 913), .int (iI 929)]) (rest := []) ⟨hx, hb, hml, hown, ht⟩ v_MO_79 (c_MO_inAny l g r ut uc la wo bw mt ms c 913 929 (by omega) (by omega)) ⟨Nat.le_of_ble_eq_true rfl, Nat.le_of_ble_eq_true rfl⟩ ⟨Nat.zero_le _, Nat.zero_le _⟩ hK hZ hS hP rfl rfl rfl rfl hl.1 rfl (Nat.le_of_ble_eq_true rfl) d_MO_pair_48 (fun r_48 h_48 => ?_)
              rcases h_48 with ⟨h_48, rfl⟩ | ⟨h_48, rfl⟩
              · refine ix_if_ne (tgt := 82) hx hb d_MO_pair_51 (by decide) (by omega) (fun c_51 => ?_) (fun c_51 => ?_)
                · refine lv_bipush (v := iI 32) hx hb d_MO_pair_82 (by decide) ?_
                  subst hQ
                  exact W.iret (v := iI 32) hx hb hr (fun t h9 hW => ⟨_, rfl, by first | (exfalso; omega) | (unfold pairF; repeat (first | rw [if_pos (by omega)] | rw [if_neg (by omega)])), h9⟩) (fun _ h9 => by cases h9) d_MO_pair_84
                · exact absurd c_51 (by decide)
              · refine ix_if_ne (tgt := 82) hx hb d_MO_pair_51 (by decide) (by omega) (fun c_51 => ?_) (fun c_51 => ?_)
                · exact absurd c_51 (by decide)
                · refine lv_aload_n hx hb d_MO_pair_54 rfl (lv_at hl 0 rfl) ?_
                  refine lv_iload_n hx hb d_MO_pair_55 rfl (lv_at hl 1 rfl) ?_
                  refine lv_sipush (v := iI 931) hx hb d_MO_pair_56 (by decide) ?_
                  refine lv_sipush (v := iI 937) hx hb d_MO_pair_59 (by decide) ?_
                  refine zcV (ci := 4) (q0 := 0) (As := [.int (iI c), .int (iI 931), .int (iI 937)]) (rest := []) ⟨hx, hb, hml, hown, ht⟩ v_MO_79 (c_MO_inAny l g r ut uc la wo bw mt ms c 931 937 (by omega) (by omega)) ⟨Nat.le_of_ble_eq_true rfl, Nat.le_of_ble_eq_true rfl⟩ ⟨Nat.zero_le _, Nat.zero_le _⟩ hK hZ hS hP rfl rfl rfl rfl hl.1 rfl (Nat.le_of_ble_eq_true rfl) d_MO_pair_62 (fun r_62 h_62 => ?_)
                  rcases h_62 with ⟨h_62, rfl⟩ | ⟨h_62, rfl⟩
                  · refine ix_if_ne (tgt := 82) hx hb d_MO_pair_65 (by decide) (by omega) (fun c_65 => ?_) (fun c_65 => ?_)
                    · refine lv_bipush (v := iI 32) hx hb d_MO_pair_82 (by decide) ?_
                      subst hQ
                      exact W.iret (v := iI 32) hx hb hr (fun t h9 hW => ⟨_, rfl, by first | (exfalso; omega) | (unfold pairF; repeat (first | rw [if_pos (by omega)] | rw [if_neg (by omega)])), h9⟩) (fun _ h9 => by cases h9) d_MO_pair_84
                    · exact absurd c_65 (by decide)
                  · refine ix_if_ne (tgt := 82) hx hb d_MO_pair_65 (by decide) (by omega) (fun c_65 => ?_) (fun c_65 => ?_)
                    · exact absurd c_65 (by decide)
                    · refine lv_aload_n hx hb d_MO_pair_68 rfl (lv_at hl 0 rfl) ?_
                      refine lv_iload_n hx hb d_MO_pair_69 rfl (lv_at hl 1 rfl) ?_
                      refine lv_sipush (v := iI 1040) hx hb d_MO_pair_70 (by decide) ?_
                      refine lv_sipush (v := iI 1071) hx hb d_MO_pair_73 (by decide) ?_
                      refine zcV (ci := 4) (q0 := 0) (As := [.int (iI c), .int (iI 1040), .int (iI 1071)]) (rest := []) ⟨hx, hb, hml, hown, ht⟩ v_MO_79 (c_MO_inAny l g r ut uc la wo bw mt ms c 1040 1071 (by omega) (by omega)) ⟨Nat.le_of_ble_eq_true rfl, Nat.le_of_ble_eq_true rfl⟩ ⟨Nat.zero_le _, Nat.zero_le _⟩ hK hZ hS hP rfl rfl rfl rfl hl.1 rfl (Nat.le_of_ble_eq_true rfl) d_MO_pair_76 (fun r_76 h_76 => ?_)
                      rcases h_76 with ⟨h_76, rfl⟩ | ⟨h_76, rfl⟩
                      · refine ix_if_eq (tgt := 85) hx hb d_MO_pair_79 (by decide) (by omega) (fun c_79 => ?_) (fun c_79 => ?_)
                        · exact absurd c_79 (by decide)
                        · refine lv_bipush (v := iI 32) hx hb d_MO_pair_82 (by decide) ?_
                          subst hQ
                          exact W.iret (v := iI 32) hx hb hr (fun t h9 hW => ⟨_, rfl, by first | (exfalso; omega) | (unfold pairF; repeat (first | rw [if_pos (by omega)] | rw [if_neg (by omega)])), h9⟩) (fun _ h9 => by cases h9) d_MO_pair_84
                      · refine ix_if_eq (tgt := 85) hx hb d_MO_pair_79 (by decide) (by omega) (fun c_79 => ?_) (fun c_79 => ?_)
                        · refine lv_aload_n hx hb d_MO_pair_85 rfl (lv_at hl 0 rfl) ?_
                          refine lv_iload_n hx hb d_MO_pair_86 rfl (lv_at hl 1 rfl) ?_
                          refine lv_sipush (v := iI 1024) hx hb d_MO_pair_87 (by decide) ?_
                          refine lv_sipush (v := iI 1039) hx hb d_MO_pair_90 (by decide) ?_
                          refine zcV (ci := 4) (q0 := 0) (As := [.int (iI c), .int (iI 1024), .int (iI 1039)]) (rest := []) ⟨hx, hb, hml, hown, ht⟩ v_MO_79 (c_MO_inAny l g r ut uc la wo bw mt ms c 1024 1039 (by omega) (by omega)) ⟨Nat.le_of_ble_eq_true rfl, Nat.le_of_ble_eq_true rfl⟩ ⟨Nat.zero_le _, Nat.zero_le _⟩ hK hZ hS hP rfl rfl rfl rfl hl.1 rfl (Nat.le_of_ble_eq_true rfl) d_MO_pair_93 (fun r_93 h_93 => ?_)
                          rcases h_93 with ⟨h_93, rfl⟩ | ⟨h_93, rfl⟩
                          · refine ix_if_eq (tgt := 102) hx hb d_MO_pair_96 (by decide) (by omega) (fun c_96 => ?_) (fun c_96 => ?_)
                            · exact absurd c_96 (by decide)
                            · refine lv_bipush (v := iI 80) hx hb d_MO_pair_99 (by decide) ?_
                              subst hQ
                              exact W.iret (v := iI 80) hx hb hr (fun t h9 hW => ⟨_, rfl, by first | (exfalso; omega) | (unfold pairF; repeat (first | rw [if_pos (by omega)] | rw [if_neg (by omega)])), h9⟩) (fun _ h9 => by cases h9) d_MO_pair_101
                          · refine ix_if_eq (tgt := 102) hx hb d_MO_pair_96 (by decide) (by omega) (fun c_96 => ?_) (fun c_96 => ?_)
                            · refine lv_aload_n hx hb d_MO_pair_102 rfl (lv_at hl 0 rfl) ?_
                              refine lv_iload_n hx hb d_MO_pair_103 rfl (lv_at hl 1 rfl) ?_
                              refine lv_sipush (v := iI 256) hx hb d_MO_pair_104 (by decide) ?_
                              refine lv_sipush (v := iI 303) hx hb d_MO_pair_107 (by decide) ?_
                              refine zcV (ci := 4) (q0 := 0) (As := [.int (iI c), .int (iI 256), .int (iI 303)]) (rest := []) ⟨hx, hb, hml, hown, ht⟩ v_MO_79 (c_MO_inAny l g r ut uc la wo bw mt ms c 256 303 (by omega) (by omega)) ⟨Nat.le_of_ble_eq_true rfl, Nat.le_of_ble_eq_true rfl⟩ ⟨Nat.zero_le _, Nat.zero_le _⟩ hK hZ hS hP rfl rfl rfl rfl hl.1 rfl (Nat.le_of_ble_eq_true rfl) d_MO_pair_110 (fun r_110 h_110 => ?_)
                              rcases h_110 with ⟨h_110, rfl⟩ | ⟨h_110, rfl⟩
                              · refine ix_if_ne (tgt := 172) hx hb d_MO_pair_113 (by decide) (by omega) (fun c_113 => ?_) (fun c_113 => ?_)
                                · refine lv_iconst (v := iI 1) hx hb d_MO_pair_172 rfl ?_
                                  refine lv_goto (tgt := 177) hx hb d_MO_pair_173 (by decide) ?_
                                  refine lv_istore_n (lv' := [(2, .int (iI 1)), (0, .ref (r 0)), (1, .int (iI c))]) hx hb d_MO_pair_177 rfl hl (by decide) rfl (fun ls hl => ?_)
                                  refine lv_iload_n hx hb d_MO_pair_178 rfl (lv_at hl 0 rfl) ?_
                                  refine ix_if_eq (tgt := 196) hx hb d_MO_pair_179 (by decide) (by omega) (fun c_179 => ?_) (fun c_179 => ?_)
                                  · exact absurd c_179 (by decide)
                                  · refine lv_aload_n hx hb d_MO_pair_182 rfl (lv_at hl 1 rfl) ?_
                                    refine lv_iload_n hx hb d_MO_pair_183 rfl (lv_at hl 2 rfl) ?_
                                    refine zcV (ci := 4) (q0 := 0) (As := [.int (iI c)]) (rest := []) ⟨hx, hb, hml, hown, ht⟩ v_MO_75 (c_MO_category l g r ut uc la wo bw mt ms c (by omega)) ⟨Nat.le_of_ble_eq_true rfl, Nat.le_of_ble_eq_true rfl⟩ ⟨Nat.zero_le _, Nat.zero_le _⟩ hK hZ hS hP rfl rfl rfl rfl hl.1 rfl (Nat.le_of_ble_eq_true rfl) d_MO_pair_184 (fun r_184 h_184 => ?_)
                                    subst h_184
                                    have q_184 := catF_bd c (by omega)
                                    refine lv_bipush (v := iI 6) hx hb d_MO_pair_187 (by decide) ?_
                                    refine ix_icmp_ne (tgt := 196) hx hb d_MO_pair_189 (by decide) (by omega) (fun c_189 => ?_) (fun c_189 => ?_)
                                    · refine lv_iconst (v := iI 0) hx hb d_MO_pair_196 rfl ?_
                                      subst hQ
                                      exact W.iret (v := iI 0) hx hb hr (fun t h9 hW => ⟨_, rfl, by first | (exfalso; omega) | (unfold pairF; repeat (first | rw [if_pos (by omega)] | rw [if_neg (by omega)])), h9⟩) (fun _ h9 => by cases h9) d_MO_pair_197
                                    · refine lv_iconst (v := iI 1) hx hb d_MO_pair_192 rfl ?_
                                      refine lv_goto (tgt := 197) hx hb d_MO_pair_193 (by decide) ?_
                                      subst hQ
                                      exact W.iret (v := iI 1) hx hb hr (fun t h9 hW => ⟨_, rfl, by first | (exfalso; omega) | (unfold pairF; repeat (first | rw [if_pos (by omega)] | rw [if_neg (by omega)])), h9⟩) (fun _ h9 => by cases h9) d_MO_pair_197
                                · exact absurd c_113 (by decide)
                              · refine ix_if_ne (tgt := 172) hx hb d_MO_pair_113 (by decide) (by omega) (fun c_113 => ?_) (fun c_113 => ?_)
                                · exact absurd c_113 (by decide)
                                · refine lv_aload_n hx hb d_MO_pair_116 rfl (lv_at hl 0 rfl) ?_
                                  refine lv_iload_n hx hb d_MO_pair_117 rfl (lv_at hl 1 rfl) ?_
                                  refine lv_sipush (v := iI 306) hx hb d_MO_pair_118 (by decide) ?_
                                  refine lv_sipush (v := iI 311) hx hb d_MO_pair_121 (by decide) ?_
                                  refine zcV (ci := 4) (q0 := 0) (As := [.int (iI c), .int (iI 306), .int (iI 311)]) (rest := []) ⟨hx, hb, hml, hown, ht⟩ v_MO_79 (c_MO_inAny l g r ut uc la wo bw mt ms c 306 311 (by omega) (by omega)) ⟨Nat.le_of_ble_eq_true rfl, Nat.le_of_ble_eq_true rfl⟩ ⟨Nat.zero_le _, Nat.zero_le _⟩ hK hZ hS hP rfl rfl rfl rfl hl.1 rfl (Nat.le_of_ble_eq_true rfl) d_MO_pair_124 (fun r_124 h_124 => ?_)
                                  rcases h_124 with ⟨h_124, rfl⟩ | ⟨h_124, rfl⟩
                                  · refine ix_if_ne (tgt := 172) hx hb d_MO_pair_127 (by decide) (by omega) (fun c_127 => ?_) (fun c_127 => ?_)
                                    · refine lv_iconst (v := iI 1) hx hb d_MO_pair_172 rfl ?_
                                      refine lv_goto (tgt := 177) hx hb d_MO_pair_173 (by decide) ?_
                                      refine lv_istore_n (lv' := [(2, .int (iI 1)), (0, .ref (r 0)), (1, .int (iI c))]) hx hb d_MO_pair_177 rfl hl (by decide) rfl (fun ls hl => ?_)
                                      refine lv_iload_n hx hb d_MO_pair_178 rfl (lv_at hl 0 rfl) ?_
                                      refine ix_if_eq (tgt := 196) hx hb d_MO_pair_179 (by decide) (by omega) (fun c_179 => ?_) (fun c_179 => ?_)
                                      · exact absurd c_179 (by decide)
                                      · refine lv_aload_n hx hb d_MO_pair_182 rfl (lv_at hl 1 rfl) ?_
                                        refine lv_iload_n hx hb d_MO_pair_183 rfl (lv_at hl 2 rfl) ?_
                                        refine zcV (ci := 4) (q0 := 0) (As := [.int (iI c)]) (rest := []) ⟨hx, hb, hml, hown, ht⟩ v_MO_75 (c_MO_category l g r ut uc la wo bw mt ms c (by omega)) ⟨Nat.le_of_ble_eq_true rfl, Nat.le_of_ble_eq_true rfl⟩ ⟨Nat.zero_le _, Nat.zero_le _⟩ hK hZ hS hP rfl rfl rfl rfl hl.1 rfl (Nat.le_of_ble_eq_true rfl) d_MO_pair_184 (fun r_184 h_184 => ?_)
                                        subst h_184
                                        have q_184 := catF_bd c (by omega)
                                        refine lv_bipush (v := iI 6) hx hb d_MO_pair_187 (by decide) ?_
                                        refine ix_icmp_ne (tgt := 196) hx hb d_MO_pair_189 (by decide) (by omega) (fun c_189 => ?_) (fun c_189 => ?_)
                                        · refine lv_iconst (v := iI 0) hx hb d_MO_pair_196 rfl ?_
                                          subst hQ
                                          exact W.iret (v := iI 0) hx hb hr (fun t h9 hW => ⟨_, rfl, by first | (exfalso; omega) | (unfold pairF; repeat (first | rw [if_pos (by omega)] | rw [if_neg (by omega)])), h9⟩) (fun _ h9 => by cases h9) d_MO_pair_197
                                        · refine lv_iconst (v := iI 1) hx hb d_MO_pair_192 rfl ?_
                                          refine lv_goto (tgt := 197) hx hb d_MO_pair_193 (by decide) ?_
                                          subst hQ
                                          exact W.iret (v := iI 1) hx hb hr (fun t h9 hW => ⟨_, rfl, by first | (exfalso; omega) | (unfold pairF; repeat (first | rw [if_pos (by omega)] | rw [if_neg (by omega)])), h9⟩) (fun _ h9 => by cases h9) d_MO_pair_197
                                    · exact absurd c_127 (by decide)
                                  · refine ix_if_ne (tgt := 172) hx hb d_MO_pair_127 (by decide) (by omega) (fun c_127 => ?_) (fun c_127 => ?_)
                                    · exact absurd c_127 (by decide)
                                    · refine lv_aload_n hx hb d_MO_pair_130 rfl (lv_at hl 0 rfl) ?_
                                      refine lv_iload_n hx hb d_MO_pair_131 rfl (lv_at hl 1 rfl) ?_
                                      refine lv_sipush (v := iI 313) hx hb d_MO_pair_132 (by decide) ?_
                                      refine lv_sipush (v := iI 328) hx hb d_MO_pair_135 (by decide) ?_
                                      refine zcV (ci := 4) (q0 := 0) (As := [.int (iI c), .int (iI 313), .int (iI 328)]) (rest := []) ⟨hx, hb, hml, hown, ht⟩ v_MO_79 (c_MO_inAny l g r ut uc la wo bw mt ms c 313 328 (by omega) (by omega)) ⟨Nat.le_of_ble_eq_true rfl, Nat.le_of_ble_eq_true rfl⟩ ⟨Nat.zero_le _, Nat.zero_le _⟩ hK hZ hS hP rfl rfl rfl rfl hl.1 rfl (Nat.le_of_ble_eq_true rfl) d_MO_pair_138 (fun r_138 h_138 => ?_)
                                      rcases h_138 with ⟨h_138, rfl⟩ | ⟨h_138, rfl⟩
                                      · refine ix_if_ne (tgt := 172) hx hb d_MO_pair_141 (by decide) (by omega) (fun c_141 => ?_) (fun c_141 => ?_)
                                        · refine lv_iconst (v := iI 1) hx hb d_MO_pair_172 rfl ?_
                                          refine lv_goto (tgt := 177) hx hb d_MO_pair_173 (by decide) ?_
                                          refine lv_istore_n (lv' := [(2, .int (iI 1)), (0, .ref (r 0)), (1, .int (iI c))]) hx hb d_MO_pair_177 rfl hl (by decide) rfl (fun ls hl => ?_)
                                          refine lv_iload_n hx hb d_MO_pair_178 rfl (lv_at hl 0 rfl) ?_
                                          refine ix_if_eq (tgt := 196) hx hb d_MO_pair_179 (by decide) (by omega) (fun c_179 => ?_) (fun c_179 => ?_)
                                          · exact absurd c_179 (by decide)
                                          · refine lv_aload_n hx hb d_MO_pair_182 rfl (lv_at hl 1 rfl) ?_
                                            refine lv_iload_n hx hb d_MO_pair_183 rfl (lv_at hl 2 rfl) ?_
                                            refine zcV (ci := 4) (q0 := 0) (As := [.int (iI c)]) (rest := []) ⟨hx, hb, hml, hown, ht⟩ v_MO_75 (c_MO_category l g r ut uc la wo bw mt ms c (by omega)) ⟨Nat.le_of_ble_eq_true rfl, Nat.le_of_ble_eq_true rfl⟩ ⟨Nat.zero_le _, Nat.zero_le _⟩ hK hZ hS hP rfl rfl rfl rfl hl.1 rfl (Nat.le_of_ble_eq_true rfl) d_MO_pair_184 (fun r_184 h_184 => ?_)
                                            subst h_184
                                            have q_184 := catF_bd c (by omega)
                                            refine lv_bipush (v := iI 6) hx hb d_MO_pair_187 (by decide) ?_
                                            refine ix_icmp_ne (tgt := 196) hx hb d_MO_pair_189 (by decide) (by omega) (fun c_189 => ?_) (fun c_189 => ?_)
                                            · refine lv_iconst (v := iI 0) hx hb d_MO_pair_196 rfl ?_
                                              subst hQ
                                              exact W.iret (v := iI 0) hx hb hr (fun t h9 hW => ⟨_, rfl, by first | (exfalso; omega) | (unfold pairF; repeat (first | rw [if_pos (by omega)] | rw [if_neg (by omega)])), h9⟩) (fun _ h9 => by cases h9) d_MO_pair_197
                                            · refine lv_iconst (v := iI 1) hx hb d_MO_pair_192 rfl ?_
                                              refine lv_goto (tgt := 197) hx hb d_MO_pair_193 (by decide) ?_
                                              subst hQ
                                              exact W.iret (v := iI 1) hx hb hr (fun t h9 hW => ⟨_, rfl, by first | (exfalso; omega) | (unfold pairF; repeat (first | rw [if_pos (by omega)] | rw [if_neg (by omega)])), h9⟩) (fun _ h9 => by cases h9) d_MO_pair_197
                                        · exact absurd c_141 (by decide)
                                      · refine ix_if_ne (tgt := 172) hx hb d_MO_pair_141 (by decide) (by omega) (fun c_141 => ?_) (fun c_141 => ?_)
                                        · exact absurd c_141 (by decide)
                                        · refine lv_aload_n hx hb d_MO_pair_144 rfl (lv_at hl 0 rfl) ?_
                                          refine lv_iload_n hx hb d_MO_pair_145 rfl (lv_at hl 1 rfl) ?_
                                          refine lv_sipush (v := iI 330) hx hb d_MO_pair_146 (by decide) ?_
                                          refine lv_sipush (v := iI 375) hx hb d_MO_pair_149 (by decide) ?_
                                          refine zcV (ci := 4) (q0 := 0) (As := [.int (iI c), .int (iI 330), .int (iI 375)]) (rest := []) ⟨hx, hb, hml, hown, ht⟩ v_MO_79 (c_MO_inAny l g r ut uc la wo bw mt ms c 330 375 (by omega) (by omega)) ⟨Nat.le_of_ble_eq_true rfl, Nat.le_of_ble_eq_true rfl⟩ ⟨Nat.zero_le _, Nat.zero_le _⟩ hK hZ hS hP rfl rfl rfl rfl hl.1 rfl (Nat.le_of_ble_eq_true rfl) d_MO_pair_152 (fun r_152 h_152 => ?_)
                                          rcases h_152 with ⟨h_152, rfl⟩ | ⟨h_152, rfl⟩
                                          · refine ix_if_ne (tgt := 172) hx hb d_MO_pair_155 (by decide) (by omega) (fun c_155 => ?_) (fun c_155 => ?_)
                                            · refine lv_iconst (v := iI 1) hx hb d_MO_pair_172 rfl ?_
                                              refine lv_goto (tgt := 177) hx hb d_MO_pair_173 (by decide) ?_
                                              refine lv_istore_n (lv' := [(2, .int (iI 1)), (0, .ref (r 0)), (1, .int (iI c))]) hx hb d_MO_pair_177 rfl hl (by decide) rfl (fun ls hl => ?_)
                                              refine lv_iload_n hx hb d_MO_pair_178 rfl (lv_at hl 0 rfl) ?_
                                              refine ix_if_eq (tgt := 196) hx hb d_MO_pair_179 (by decide) (by omega) (fun c_179 => ?_) (fun c_179 => ?_)
                                              · exact absurd c_179 (by decide)
                                              · refine lv_aload_n hx hb d_MO_pair_182 rfl (lv_at hl 1 rfl) ?_
                                                refine lv_iload_n hx hb d_MO_pair_183 rfl (lv_at hl 2 rfl) ?_
                                                refine zcV (ci := 4) (q0 := 0) (As := [.int (iI c)]) (rest := []) ⟨hx, hb, hml, hown, ht⟩ v_MO_75 (c_MO_category l g r ut uc la wo bw mt ms c (by omega)) ⟨Nat.le_of_ble_eq_true rfl, Nat.le_of_ble_eq_true rfl⟩ ⟨Nat.zero_le _, Nat.zero_le _⟩ hK hZ hS hP rfl rfl rfl rfl hl.1 rfl (Nat.le_of_ble_eq_true rfl) d_MO_pair_184 (fun r_184 h_184 => ?_)
                                                subst h_184
                                                have q_184 := catF_bd c (by omega)
                                                refine lv_bipush (v := iI 6) hx hb d_MO_pair_187 (by decide) ?_
                                                refine ix_icmp_ne (tgt := 196) hx hb d_MO_pair_189 (by decide) (by omega) (fun c_189 => ?_) (fun c_189 => ?_)
                                                · refine lv_iconst (v := iI 0) hx hb d_MO_pair_196 rfl ?_
                                                  subst hQ
                                                  exact W.iret (v := iI 0) hx hb hr (fun t h9 hW => ⟨_, rfl, by first | (exfalso; omega) | (unfold pairF; repeat (first | rw [if_pos (by omega)] | rw [if_neg (by omega)])), h9⟩) (fun _ h9 => by cases h9) d_MO_pair_197
                                                · refine lv_iconst (v := iI 1) hx hb d_MO_pair_192 rfl ?_
                                                  refine lv_goto (tgt := 197) hx hb d_MO_pair_193 (by decide) ?_
                                                  subst hQ
                                                  exact W.iret (v := iI 1) hx hb hr (fun t h9 hW => ⟨_, rfl, by first | (exfalso; omega) | (unfold pairF; repeat (first | rw [if_pos (by omega)] | rw [if_neg (by omega)])), h9⟩) (fun _ h9 => by cases h9) d_MO_pair_197
                                            · exact absurd c_155 (by decide)
                                          · refine ix_if_ne (tgt := 172) hx hb d_MO_pair_155 (by decide) (by omega) (fun c_155 => ?_) (fun c_155 => ?_)
                                            · exact absurd c_155 (by decide)
                                            · refine lv_aload_n hx hb d_MO_pair_158 rfl (lv_at hl 0 rfl) ?_
                                              refine lv_iload_n hx hb d_MO_pair_159 rfl (lv_at hl 1 rfl) ?_
                                              refine lv_sipush (v := iI 377) hx hb d_MO_pair_160 (by decide) ?_
                                              refine lv_sipush (v := iI 382) hx hb d_MO_pair_163 (by decide) ?_
                                              refine zcV (ci := 4) (q0 := 0) (As := [.int (iI c), .int (iI 377), .int (iI 382)]) (rest := []) ⟨hx, hb, hml, hown, ht⟩ v_MO_79 (c_MO_inAny l g r ut uc la wo bw mt ms c 377 382 (by omega) (by omega)) ⟨Nat.le_of_ble_eq_true rfl, Nat.le_of_ble_eq_true rfl⟩ ⟨Nat.zero_le _, Nat.zero_le _⟩ hK hZ hS hP rfl rfl rfl rfl hl.1 rfl (Nat.le_of_ble_eq_true rfl) d_MO_pair_166 (fun r_166 h_166 => ?_)
                                              rcases h_166 with ⟨h_166, rfl⟩ | ⟨h_166, rfl⟩
                                              · refine ix_if_eq (tgt := 176) hx hb d_MO_pair_169 (by decide) (by omega) (fun c_169 => ?_) (fun c_169 => ?_)
                                                · exact absurd c_169 (by decide)
                                                · refine lv_iconst (v := iI 1) hx hb d_MO_pair_172 rfl ?_
                                                  refine lv_goto (tgt := 177) hx hb d_MO_pair_173 (by decide) ?_
                                                  refine lv_istore_n (lv' := [(2, .int (iI 1)), (0, .ref (r 0)), (1, .int (iI c))]) hx hb d_MO_pair_177 rfl hl (by decide) rfl (fun ls hl => ?_)
                                                  refine lv_iload_n hx hb d_MO_pair_178 rfl (lv_at hl 0 rfl) ?_
                                                  refine ix_if_eq (tgt := 196) hx hb d_MO_pair_179 (by decide) (by omega) (fun c_179 => ?_) (fun c_179 => ?_)
                                                  · exact absurd c_179 (by decide)
                                                  · refine lv_aload_n hx hb d_MO_pair_182 rfl (lv_at hl 1 rfl) ?_
                                                    refine lv_iload_n hx hb d_MO_pair_183 rfl (lv_at hl 2 rfl) ?_
                                                    refine zcV (ci := 4) (q0 := 0) (As := [.int (iI c)]) (rest := []) ⟨hx, hb, hml, hown, ht⟩ v_MO_75 (c_MO_category l g r ut uc la wo bw mt ms c (by omega)) ⟨Nat.le_of_ble_eq_true rfl, Nat.le_of_ble_eq_true rfl⟩ ⟨Nat.zero_le _, Nat.zero_le _⟩ hK hZ hS hP rfl rfl rfl rfl hl.1 rfl (Nat.le_of_ble_eq_true rfl) d_MO_pair_184 (fun r_184 h_184 => ?_)
                                                    subst h_184
                                                    have q_184 := catF_bd c (by omega)
                                                    refine lv_bipush (v := iI 6) hx hb d_MO_pair_187 (by decide) ?_
                                                    refine ix_icmp_ne (tgt := 196) hx hb d_MO_pair_189 (by decide) (by omega) (fun c_189 => ?_) (fun c_189 => ?_)
                                                    · refine lv_iconst (v := iI 0) hx hb d_MO_pair_196 rfl ?_
                                                      subst hQ
                                                      exact W.iret (v := iI 0) hx hb hr (fun t h9 hW => ⟨_, rfl, by first | (exfalso; omega) | (unfold pairF; repeat (first | rw [if_pos (by omega)] | rw [if_neg (by omega)])), h9⟩) (fun _ h9 => by cases h9) d_MO_pair_197
                                                    · refine lv_iconst (v := iI 1) hx hb d_MO_pair_192 rfl ?_
                                                      refine lv_goto (tgt := 197) hx hb d_MO_pair_193 (by decide) ?_
                                                      subst hQ
                                                      exact W.iret (v := iI 1) hx hb hr (fun t h9 hW => ⟨_, rfl, by first | (exfalso; omega) | (unfold pairF; repeat (first | rw [if_pos (by omega)] | rw [if_neg (by omega)])), h9⟩) (fun _ h9 => by cases h9) d_MO_pair_197
                                              · refine ix_if_eq (tgt := 176) hx hb d_MO_pair_169 (by decide) (by omega) (fun c_169 => ?_) (fun c_169 => ?_)
                                                · refine lv_iconst (v := iI 0) hx hb d_MO_pair_176 rfl ?_
                                                  refine lv_istore_n (lv' := [(2, .int (iI 0)), (0, .ref (r 0)), (1, .int (iI c))]) hx hb d_MO_pair_177 rfl hl (by decide) rfl (fun ls hl => ?_)
                                                  refine lv_iload_n hx hb d_MO_pair_178 rfl (lv_at hl 0 rfl) ?_
                                                  refine ix_if_eq (tgt := 196) hx hb d_MO_pair_179 (by decide) (by omega) (fun c_179 => ?_) (fun c_179 => ?_)
                                                  · refine lv_iconst (v := iI 0) hx hb d_MO_pair_196 rfl ?_
                                                    subst hQ
                                                    exact W.iret (v := iI 0) hx hb hr (fun t h9 hW => ⟨_, rfl, by first | (exfalso; omega) | (unfold pairF; repeat (first | rw [if_pos (by omega)] | rw [if_neg (by omega)])), h9⟩) (fun _ h9 => by cases h9) d_MO_pair_197
                                                  · exact absurd c_179 (by decide)
                                                · exact absurd c_169 (by decide)
                            · exact absurd c_96 (by decide)
                        · exact absurd c_79 (by decide)
