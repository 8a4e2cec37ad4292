def abF (ut uc la c w : Int) : Int := if c < 0 ∨ 1114111 < c ∨ w < 0 ∨ 4 < w then -2 else if w = 0 then catF c else if w = 1 then scrF c else if la < c then -2 else if w = 2 then upF ut uc la c else if w = 3 then lwF ut uc la c else nxR c (kinL ut uc la c)
set_option maxHeartbeats 4000000 in
set_option maxRecDepth 100000 in
theorem c_MO_about (l : Launch) (g : zG) (sz : Nat) (r : Nat → Nat) (ut uc la wo : Int) (bw : Nat → Nat) (mt : Nat → Int) (ms : Int) (c w9 : Int) (hc : -2147483648 ≤ c ∧ c ≤ 2147483647) (hw9 : -2147483648 ≤ w9 ∧ w9 ≤ 2147483647) (hut : 0 ≤ ut ∧ ut ≤ 1) (huc : 0 ≤ uc ∧ uc ≤ 1) (hla : 0 ≤ la ∧ la ≤ 1114111) : Met l y_MO_about w_MO_about { frames := 5, cells := 0, slots := 0, locals := 113 } (zPw g [.ref (r 0), .int (iI c), .int (iI w9)] ([(r 0, .inr (4, [.int (iI ut), .int (iI uc), .int (iI la), .int (iI wo), .ref (r 1), .ref (r 2), .ref (r 3), .int (iI ms), .ref (r 4)])), (r 1, .inl (zJ g, 139264, .inr (.inl (lA bw)))), (r 2, .inl (zBt g, 12544, .inl (ai kF))), (r 3, .inl (zI g, 4, .inl (ai mt))), (r 4, .inl (zI g, 14, .inl (ai PT)))]) [] sz) (va_Qi (fun z w => ∃ (m9 : Nat → Int) (n9 : Int), w = [(r 0, .inr (4, [.int (iI ut), .int (iI uc), .int (iI la), .int (iI wo), .ref (r 1), .ref (r 2), .ref (r 3), .int (iI n9), .ref (r 4)])), (r 1, .inl (zJ g, 139264, .inr (.inl (lA bw)))), (r 2, .inl (zBt g, 12544, .inl (ai kF))), (r 3, .inl (zI g, 4, .inl (ai m9))), (r 4, .inl (zI g, 14, .inl (ai PT)))] ∧ z = iI (abF ut uc la c w9)) (zB g (va_A ([(r 0, .inr (4, [.int (iI ut), .int (iI uc), .int (iI la), .int (iI wo), .ref (r 1), .ref (r 2), .ref (r 3), .int (iI ms), .ref (r 4)])), (r 1, .inl (zJ g, 139264, .inr (.inl (lA bw)))), (r 2, .inl (zBt g, 12544, .inl (ai kF))), (r 3, .inl (zI g, 4, .inl (ai mt))), (r 4, .inl (zI g, 14, .inl (ai PT)))]) sz)) (va_A ([(r 0, .inr (4, [.int (iI ut), .int (iI uc), .int (iI la), .int (iI wo), .ref (r 1), .ref (r 2), .ref (r 3), .int (iI ms), .ref (r 4)])), (r 1, .inl (zJ g, 139264, .inr (.inl (lA bw)))), (r 2, .inl (zBt g, 12544, .inl (ai kF))), (r 3, .inl (zI g, 4, .inl (ai mt))), (r 4, .inl (zI g, 14, .inl (ai PT)))]) sz)) 0 0 (va_A ([(r 0, .inr (4, [.int (iI ut), .int (iI uc), .int (iI la), .int (iI wo), .ref (r 1), .ref (r 2), .ref (r 3), .int (iI ms), .ref (r 4)])), (r 1, .inl (zJ g, 139264, .inr (.inl (lA bw)))), (r 2, .inl (zBt g, 12544, .inl (ai kF))), (r 3, .inl (zI g, 4, .inl (ai mt))), (r 4, .inl (zI g, 14, .inl (ai PT)))]) sz) := by
  refine Met.ofW (cc := b_MO_about) (maxL := 3) (ret := (some .int)) (by decide) rfl ?_
  intro p e s m args below meth cd s₁ B hml hv
  obtain ⟨hargs, hsz, hP, hK, hD0, hZ, hO0, hAp⟩ := hv
  have hx := B.exec
  have hb := B.bytes
  have hr := B.returns
  have ht : ∀ w ∈ lw_ok, w.before args s = true := fun w h => atoms_spec (ws := w_MO_about) B.pre w (List.mem_cons_of_mem _ h)
  have hown : s.vm.findClass R_MO = some m.cls := findClass_of_methodNamed B.named
  have hlocks := B.notSynchronized
  subst hsz
  have hD := hD0.self (sz := s.heap.size)
  generalize hAe : va_A ([(r 0, .inr (4, [.int (iI ut), .int (iI uc), .int (iI la), .int (iI wo), .ref (r 1), .ref (r 2), .ref (r 3), .int (iI ms), .ref (r 4)])), (r 1, .inl (zJ g, 139264, .inr (.inl (lA bw)))), (r 2, .inl (zBt g, 12544, .inl (ai kF))), (r 3, .inl (zI g, 4, .inl (ai mt))), (r 4, .inl (zI g, 14, .inl (ai PT)))]) s.heap.size = A at hD hZ hAp ⊢
  have hA : ∀ q : Nat, s.heap.size ≤ q → A q := fun q h => by rw [← hAe]; exact Or.inr h
  have hS : va_S A s.heap s.heap [] := va_S.rf
  generalize hQ : MQ below _ args s 0 0 _ = Q
  have hl := lv_entry ([.ref (r 0), .int (iI c), .int (iI w9)]) (n := 3) (Nat.le_of_ble_eq_true rfl)
  rw [show entryFrame m args 3 = entryFrame m ([.ref (r 0), .int (iI c), .int (iI w9)] : List Value).toArray 3 by rw [hargs], lg_entry_eq]
  generalize (lg_sl ([.ref (r 0), .int (iI c), .int (iI w9)]) ++ List.replicate (3 - (lg_sl ([.ref (r 0), .int (iI c), .int (iI w9)])).length) Slot.unset).toArray = ls at hl ⊢
  have hl : lv_has ls 3 [(0, .ref (r 0)), (1, .int (iI c)), (2, .int (iI w9))] := hl
  obtain ⟨H, locs, hHe, hLe⟩ : ∃ (H : Heap) (locs : List Loc), H = s.heap ∧ locs = [] := ⟨_, _, rfl, rfl⟩
  rw [show W p l e _ s m args below meth cd s.heap [] 0 0 Q = W p l e _ s m args below meth cd H locs 0 0 Q by rw [hHe, hLe]]
  rw [← hHe] at hP
  have hS : va_S A s.heap H locs := by rw [hHe, hLe]; exact hS
  refine lv_iload_n hx hb d_MO_about_0 rfl (lv_at hl 1 rfl) ?_
  refine ix_if_lt (tgt := 19) hx hb d_MO_about_1 (by decide) (by omega) (fun c_1 => ?_) (fun c_1 => ?_)
  · refine lv_bipush (v := iI (-2)) hx hb d_MO_about_19 (by decide) ?_
    subst hQ
    exact W.iret (v := iI ((-2))) hx hb hr (fun t h9 hW => ⟨⟨_, _, rfl, ⟨_, _, rfl, congrArg iI (by first | (exfalso; omega) | (unfold abF; first | (rw [if_pos (show c < 0 ∨ 1114111 < c ∨ w9 < 0 ∨ 4 < w9 by omega)]) | (rw [if_neg (show ¬ (c < 0 ∨ 1114111 < c ∨ w9 < 0 ∨ 4 < w9) by omega)]; repeat (first | rw [if_pos (by omega)] | rw [if_neg (by omega)]))))⟩, by rw [h9]; exact hP, va_K.moved hW.alike hK, hD⟩, hS.F h9⟩) hS.2.2 d_MO_about_21
  · refine lv_iload_n hx hb d_MO_about_4 rfl (lv_at hl 1 rfl) ?_
    refine lv_ldc (v := iI 1114111) hx hb hown (ht _ k_397) d_MO_about_5 ?_
    refine ix_icmp_gt (tgt := 19) hx hb d_MO_about_7 (by decide) (by omega) (fun c_7 => ?_) (fun c_7 => ?_)
    · refine lv_bipush (v := iI (-2)) hx hb d_MO_about_19 (by decide) ?_
      subst hQ
      exact W.iret (v := iI ((-2))) hx hb hr (fun t h9 hW => ⟨⟨_, _, rfl, ⟨_, _, rfl, congrArg iI (by first | (exfalso; omega) | (unfold abF; first | (rw [if_pos (show c < 0 ∨ 1114111 < c ∨ w9 < 0 ∨ 4 < w9 by omega)]) | (rw [if_neg (show ¬ (c < 0 ∨ 1114111 < c ∨ w9 < 0 ∨ 4 < w9) by omega)]; repeat (first | rw [if_pos (by omega)] | rw [if_neg (by omega)]))))⟩, by rw [h9]; exact hP, va_K.moved hW.alike hK, hD⟩, hS.F h9⟩) hS.2.2 d_MO_about_21
    · refine lv_iload_n hx hb d_MO_about_10 rfl (lv_at hl 2 rfl) ?_
      refine ix_if_lt (tgt := 19) hx hb d_MO_about_11 (by decide) (by omega) (fun c_11 => ?_) (fun c_11 => ?_)
      · refine lv_bipush (v := iI (-2)) hx hb d_MO_about_19 (by decide) ?_
        subst hQ
        exact W.iret (v := iI ((-2))) hx hb hr (fun t h9 hW => ⟨⟨_, _, rfl, ⟨_, _, rfl, congrArg iI (by first | (exfalso; omega) | (unfold abF; first | (rw [if_pos (show c < 0 ∨ 1114111 < c ∨ w9 < 0 ∨ 4 < w9 by omega)]) | (rw [if_neg (show ¬ (c < 0 ∨ 1114111 < c ∨ w9 < 0 ∨ 4 < w9) by omega)]; repeat (first | rw [if_pos (by omega)] | rw [if_neg (by omega)]))))⟩, by rw [h9]; exact hP, va_K.moved hW.alike hK, hD⟩, hS.F h9⟩) hS.2.2 d_MO_about_21
      · refine lv_iload_n hx hb d_MO_about_14 rfl (lv_at hl 2 rfl) ?_
        refine lv_iconst (v := iI 4) hx hb d_MO_about_15 rfl ?_
        refine ix_icmp_le (tgt := 22) hx hb d_MO_about_16 (by decide) (by omega) (fun c_16 => ?_) (fun c_16 => ?_)
        · refine lv_iload_n hx hb d_MO_about_22 rfl (lv_at hl 2 rfl) ?_
          refine ix_if_ne (tgt := 32) hx hb d_MO_about_23 (by decide) (by omega) (fun c_23 => ?_) (fun c_23 => ?_)
          · refine lv_iload_n hx hb d_MO_about_32 rfl (lv_at hl 2 rfl) ?_
            refine lv_iconst (v := iI 1) hx hb d_MO_about_33 rfl ?_
            refine ix_icmp_ne (tgt := 43) hx hb d_MO_about_34 (by decide) (by omega) (fun c_34 => ?_) (fun c_34 => ?_)
            · refine lv_iload_n hx hb d_MO_about_43 rfl (lv_at hl 1 rfl) ?_
              refine lv_aload_n hx hb d_MO_about_44 rfl (lv_at hl 0 rfl) ?_
              refine va_get (D := g.1) (ci := 4) (v := .int (iI la)) (C := R_MO) (T := F_MO) (N := 9) hx hb ht i_MO hown hK hP 0 rfl rfl 2 (by decide) (ht _ k_420) (fun _ h9 => h9) rfl d_MO_about_45 ?_
              refine ix_icmp_le (tgt := 54) hx hb d_MO_about_48 (by decide) (by omega) (fun c_48 => ?_) (fun c_48 => ?_)
              · refine lv_iload_n hx hb d_MO_about_54 rfl (lv_at hl 2 rfl) ?_
                refine lv_iconst (v := iI 2) hx hb d_MO_about_55 rfl ?_
                refine ix_icmp_ne (tgt := 67) hx hb d_MO_about_56 (by decide) (by omega) (fun c_56 => ?_) (fun c_56 => ?_)
                · refine lv_iload_n hx hb d_MO_about_67 rfl (lv_at hl 2 rfl) ?_
                  refine lv_iconst (v := iI 3) hx hb d_MO_about_68 rfl ?_
                  refine ix_icmp_ne (tgt := 80) hx hb d_MO_about_69 (by decide) (by omega) (fun c_69 => ?_) (fun c_69 => ?_)
                  · refine lv_aload_n hx hb d_MO_about_80 rfl (lv_at hl 0 rfl) ?_
                    refine lv_iload_n hx hb d_MO_about_81 rfl (lv_at hl 1 rfl) ?_
                    have hF_82 := va_free (wc := [(r 0, .inr (4, [.int (iI ut), .int (iI uc), .int (iI la), .int (iI wo), .ref (r 1), .ref (r 2), .ref (r 3), .int (iI ms), .ref (r 4)])), (r 1, .inl (zJ g, 139264, .inr (.inl (lA bw)))), (r 2, .inl (zBt g, 12544, .inl (ai kF))), (r 3, .inl (zI g, 4, .inl (ai mt))), (r 4, .inl (zI g, 14, .inl (ai PT)))]) hD hS hA [0, 1, 2, 3, 4] rfl
                    refine zcVi (ci := 4) (q0 := 0) (As := [.int (iI c)]) (rest := []) ⟨hx, hb, hml, hown, ht⟩ v_MO_174 (c_MO_next l g H.size r ut uc la wo bw mt ms c hut huc hla (by omega)) ⟨Nat.le_of_ble_eq_true rfl, Nat.le_of_ble_eq_true rfl⟩ ⟨Nat.zero_le _, Nat.zero_le _⟩ hK hZ hS hP (hD.weaken (fun _ _ _ _ => trivial)) hF_82 zP_nil zAp_nil rfl rfl rfl rfl hl.1 rfl (Nat.le_of_ble_eq_true rfl) d_MO_about_82 (fun r_82 w_82 H locs h_82 pp_82 dd_82 zz_82 kk_82 hS => ?_)
                    obtain ⟨m82, n82, rfl, rfl⟩ := h_82
                    have hP : va_P g.1 classes [(r 0, .inr (4, [.int (iI ut), .int (iI uc), .int (iI la), .int (iI wo), .ref (r 1), .ref (r 2), .ref (r 3), .int (iI n82), .ref (r 4)])), (r 1, .inl (zJ g, 139264, .inr (.inl (lA bw)))), (r 2, .inl (zBt g, 12544, .inl (ai kF))), (r 3, .inl (zI g, 4, .inl (ai m82))), (r 4, .inl (zI g, 14, .inl (ai PT)))] H := pp_82
                    have hD : va_D A [(r 0, .inr (4, [.int (iI ut), .int (iI uc), .int (iI la), .int (iI wo), .ref (r 1), .ref (r 2), .ref (r 3), .int (iI n82), .ref (r 4)])), (r 1, .inl (zJ g, 139264, .inr (.inl (lA bw)))), (r 2, .inl (zBt g, 12544, .inl (ai kF))), (r 3, .inl (zI g, 4, .inl (ai m82))), (r 4, .inl (zI g, 14, .inl (ai PT)))] := dd_82.weaken (fun _ _ _ h9 => hF_82 _ h9)
                    subst hQ
                    exact W.iret (v := iI (nxR c (kinL ut uc la c))) hx hb hr (fun t h9 hW => ⟨⟨_, _, rfl, ⟨_, _, rfl, congrArg iI (by first | (exfalso; omega) | (unfold abF; first | (rw [if_pos (show c < 0 ∨ 1114111 < c ∨ w9 < 0 ∨ 4 < w9 by omega)]) | (rw [if_neg (show ¬ (c < 0 ∨ 1114111 < c ∨ w9 < 0 ∨ 4 < w9) by omega)]; repeat (first | rw [if_pos (by omega)] | rw [if_neg (by omega)]))))⟩, by rw [h9]; exact hP, va_K.moved hW.alike hK, hD⟩, hS.F h9⟩) hS.2.2 d_MO_about_85
                  · refine lv_aload_n hx hb d_MO_about_72 rfl (lv_at hl 0 rfl) ?_
                    refine lv_iload_n hx hb d_MO_about_73 rfl (lv_at hl 1 rfl) ?_
                    have hF_74 := va_free (wc := [(r 0, .inr (4, [.int (iI ut), .int (iI uc), .int (iI la), .int (iI wo), .ref (r 1), .ref (r 2), .ref (r 3), .int (iI ms), .ref (r 4)])), (r 1, .inl (zJ g, 139264, .inr (.inl (lA bw)))), (r 2, .inl (zBt g, 12544, .inl (ai kF))), (r 3, .inl (zI g, 4, .inl (ai mt))), (r 4, .inl (zI g, 14, .inl (ai PT)))]) hD hS hA [0, 1, 2, 3, 4] rfl
                    refine zcVi (ci := 4) (q0 := 0) (As := [.int (iI c)]) (rest := []) ⟨hx, hb, hml, hown, ht⟩ v_MO_171 (c_MO_lower l g H.size r ut uc la wo bw mt ms c hut huc hla (by omega)) ⟨Nat.le_of_ble_eq_true rfl, Nat.le_of_ble_eq_true rfl⟩ ⟨Nat.zero_le _, Nat.zero_le _⟩ hK hZ hS hP (hD.weaken (fun _ _ _ _ => trivial)) hF_74 zP_nil zAp_nil rfl rfl rfl rfl hl.1 rfl (Nat.le_of_ble_eq_true rfl) d_MO_about_74 (fun r_74 w_74 H locs h_74 pp_74 dd_74 zz_74 kk_74 hS => ?_)
                    obtain ⟨m74, n74, rfl, rfl⟩ := h_74
                    have hP : va_P g.1 classes [(r 0, .inr (4, [.int (iI ut), .int (iI uc), .int (iI la), .int (iI wo), .ref (r 1), .ref (r 2), .ref (r 3), .int (iI n74), .ref (r 4)])), (r 1, .inl (zJ g, 139264, .inr (.inl (lA bw)))), (r 2, .inl (zBt g, 12544, .inl (ai kF))), (r 3, .inl (zI g, 4, .inl (ai m74))), (r 4, .inl (zI g, 14, .inl (ai PT)))] H := pp_74
                    have hD : va_D A [(r 0, .inr (4, [.int (iI ut), .int (iI uc), .int (iI la), .int (iI wo), .ref (r 1), .ref (r 2), .ref (r 3), .int (iI n74), .ref (r 4)])), (r 1, .inl (zJ g, 139264, .inr (.inl (lA bw)))), (r 2, .inl (zBt g, 12544, .inl (ai kF))), (r 3, .inl (zI g, 4, .inl (ai m74))), (r 4, .inl (zI g, 14, .inl (ai PT)))] := dd_74.weaken (fun _ _ _ h9 => hF_74 _ h9)
                    refine lv_goto (tgt := 85) hx hb d_MO_about_77 (by decide) ?_
                    subst hQ
                    exact W.iret (v := iI (lwF ut uc la c)) hx hb hr (fun t h9 hW => ⟨⟨_, _, rfl, ⟨_, _, rfl, congrArg iI (by first | (exfalso; omega) | (unfold abF; first | (rw [if_pos (show c < 0 ∨ 1114111 < c ∨ w9 < 0 ∨ 4 < w9 by omega)]) | (rw [if_neg (show ¬ (c < 0 ∨ 1114111 < c ∨ w9 < 0 ∨ 4 < w9) by omega)]; repeat (first | rw [if_pos (by omega)] | rw [if_neg (by omega)]))))⟩, by rw [h9]; exact hP, va_K.moved hW.alike hK, hD⟩, hS.F h9⟩) hS.2.2 d_MO_about_85
                · refine lv_aload_n hx hb d_MO_about_59 rfl (lv_at hl 0 rfl) ?_
                  refine lv_iload_n hx hb d_MO_about_60 rfl (lv_at hl 1 rfl) ?_
                  have hF_61 := va_free (wc := [(r 0, .inr (4, [.int (iI ut), .int (iI uc), .int (iI la), .int (iI wo), .ref (r 1), .ref (r 2), .ref (r 3), .int (iI ms), .ref (r 4)])), (r 1, .inl (zJ g, 139264, .inr (.inl (lA bw)))), (r 2, .inl (zBt g, 12544, .inl (ai kF))), (r 3, .inl (zI g, 4, .inl (ai mt))), (r 4, .inl (zI g, 14, .inl (ai PT)))]) hD hS hA [0, 1, 2, 3, 4] rfl
                  refine zcVi (ci := 4) (q0 := 0) (As := [.int (iI c)]) (rest := []) ⟨hx, hb, hml, hown, ht⟩ v_MO_168 (c_MO_upper l g H.size r ut uc la wo bw mt ms c hut huc hla (by omega)) ⟨Nat.le_of_ble_eq_true rfl, Nat.le_of_ble_eq_true rfl⟩ ⟨Nat.zero_le _, Nat.zero_le _⟩ hK hZ hS hP (hD.weaken (fun _ _ _ _ => trivial)) hF_61 zP_nil zAp_nil rfl rfl rfl rfl hl.1 rfl (Nat.le_of_ble_eq_true rfl) d_MO_about_61 (fun r_61 w_61 H locs h_61 pp_61 dd_61 zz_61 kk_61 hS => ?_)
                  obtain ⟨m61, n61, rfl, rfl⟩ := h_61
                  have hP : va_P g.1 classes [(r 0, .inr (4, [.int (iI ut), .int (iI uc), .int (iI la), .int (iI wo), .ref (r 1), .ref (r 2), .ref (r 3), .int (iI n61), .ref (r 4)])), (r 1, .inl (zJ g, 139264, .inr (.inl (lA bw)))), (r 2, .inl (zBt g, 12544, .inl (ai kF))), (r 3, .inl (zI g, 4, .inl (ai m61))), (r 4, .inl (zI g, 14, .inl (ai PT)))] H := pp_61
                  have hD : va_D A [(r 0, .inr (4, [.int (iI ut), .int (iI uc), .int (iI la), .int (iI wo), .ref (r 1), .ref (r 2), .ref (r 3), .int (iI n61), .ref (r 4)])), (r 1, .inl (zJ g, 139264, .inr (.inl (lA bw)))), (r 2, .inl (zBt g, 12544, .inl (ai kF))), (r 3, .inl (zI g, 4, .inl (ai m61))), (r 4, .inl (zI g, 14, .inl (ai PT)))] := dd_61.weaken (fun _ _ _ h9 => hF_61 _ h9)
                  refine lv_goto (tgt := 85) hx hb d_MO_about_64 (by decide) ?_
                  subst hQ
                  exact W.iret (v := iI (upF ut uc la c)) hx hb hr (fun t h9 hW => ⟨⟨_, _, rfl, ⟨_, _, rfl, congrArg iI (by first | (exfalso; omega) | (unfold abF; first | (rw [if_pos (show c < 0 ∨ 1114111 < c ∨ w9 < 0 ∨ 4 < w9 by omega)]) | (rw [if_neg (show ¬ (c < 0 ∨ 1114111 < c ∨ w9 < 0 ∨ 4 < w9) by omega)]; repeat (first | rw [if_pos (by omega)] | rw [if_neg (by omega)]))))⟩, by rw [h9]; exact hP, va_K.moved hW.alike hK, hD⟩, hS.F h9⟩) hS.2.2 d_MO_about_85
              · refine lv_bipush (v := iI (-2)) hx hb d_MO_about_51 (by decide) ?_
                subst hQ
                exact W.iret (v := iI ((-2))) hx hb hr (fun t h9 hW => ⟨⟨_, _, rfl, ⟨_, _, rfl, congrArg iI (by first | (exfalso; omega) | (unfold abF; first | (rw [if_pos (show c < 0 ∨ 1114111 < c ∨ w9 < 0 ∨ 4 < w9 by omega)]) | (rw [if_neg (show ¬ (c < 0 ∨ 1114111 < c ∨ w9 < 0 ∨ 4 < w9) by omega)]; repeat (first | rw [if_pos (by omega)] | rw [if_neg (by omega)]))))⟩, by rw [h9]; exact hP, va_K.moved hW.alike hK, hD⟩, hS.F h9⟩) hS.2.2 d_MO_about_53
            · refine lv_aload_n hx hb d_MO_about_37 rfl (lv_at hl 0 rfl) ?_
              refine lv_iload_n hx hb d_MO_about_38 rfl (lv_at hl 1 rfl) ?_
              refine zcV (ci := 4) (q0 := 0) (As := [.int (iI c)]) (rest := []) ⟨hx, hb, hml, hown, ht⟩ v_MO_131 (c_MO_script l g r ut uc la wo bw mt ms c (by omega)) ⟨Nat.le_of_ble_eq_true rfl, Nat.le_of_ble_eq_true rfl⟩ ⟨Nat.zero_le _, Nat.zero_le _⟩ hK hZ hS hP rfl rfl rfl rfl hl.1 rfl (Nat.le_of_ble_eq_true rfl) d_MO_about_39 (fun r_39 h_39 => ?_)
              subst h_39
              subst hQ
              exact W.iret (v := iI (scrF c)) hx hb hr (fun t h9 hW => ⟨⟨_, _, rfl, ⟨_, _, rfl, congrArg iI (by first | (exfalso; omega) | (unfold abF; first | (rw [if_pos (show c < 0 ∨ 1114111 < c ∨ w9 < 0 ∨ 4 < w9 by omega)]) | (rw [if_neg (show ¬ (c < 0 ∨ 1114111 < c ∨ w9 < 0 ∨ 4 < w9) by omega)]; repeat (first | rw [if_pos (by omega)] | rw [if_neg (by omega)]))))⟩, by rw [h9]; exact hP, va_K.moved hW.alike hK, hD⟩, hS.F h9⟩) hS.2.2 d_MO_about_42
          · refine lv_aload_n hx hb d_MO_about_26 rfl (lv_at hl 0 rfl) ?_
            refine lv_iload_n hx hb d_MO_about_27 rfl (lv_at hl 1 rfl) ?_
            refine zcV (ci := 4) (q0 := 0) (As := [.int (iI c)]) (rest := []) ⟨hx, hb, hml, hown, ht⟩ v_MO_75 (c_MO_category l g r ut uc la wo bw mt ms c (by omega)) ⟨Nat.le_of_ble_eq_true rfl, Nat.le_of_ble_eq_true rfl⟩ ⟨Nat.zero_le _, Nat.zero_le _⟩ hK hZ hS hP rfl rfl rfl rfl hl.1 rfl (Nat.le_of_ble_eq_true rfl) d_MO_about_28 (fun r_28 h_28 => ?_)
            subst h_28
            subst hQ
            exact W.iret (v := iI (catF c)) hx hb hr (fun t h9 hW => ⟨⟨_, _, rfl, ⟨_, _, rfl, congrArg iI (by first | (exfalso; omega) | (unfold abF; first | (rw [if_pos (show c < 0 ∨ 1114111 < c ∨ w9 < 0 ∨ 4 < w9 by omega)]) | (rw [if_neg (show ¬ (c < 0 ∨ 1114111 < c ∨ w9 < 0 ∨ 4 < w9) by omega)]; repeat (first | rw [if_pos (by omega)] | rw [if_neg (by omega)]))))⟩, by rw [h9]; exact hP, va_K.moved hW.alike hK, hD⟩, hS.F h9⟩) hS.2.2 d_MO_about_31
        · refine lv_bipush (v := iI (-2)) hx hb d_MO_about_19 (by decide) ?_
          subst hQ
          exact W.iret (v := iI ((-2))) hx hb hr (fun t h9 hW => ⟨⟨_, _, rfl, ⟨_, _, rfl, congrArg iI (by first | (exfalso; omega) | (unfold abF; first | (rw [if_pos (show c < 0 ∨ 1114111 < c ∨ w9 < 0 ∨ 4 < w9 by omega)]) | (rw [if_neg (show ¬ (c < 0 ∨ 1114111 < c ∨ w9 < 0 ∨ 4 < w9) by omega)]; repeat (first | rw [if_pos (by omega)] | rw [if_neg (by omega)]))))⟩, by rw [h9]; exact hP, va_K.moved hW.alike hK, hD⟩, hS.F h9⟩) hS.2.2 d_MO_about_21
