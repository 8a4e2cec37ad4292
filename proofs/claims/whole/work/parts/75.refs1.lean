set_option maxHeartbeats 4000000 in
set_option maxRecDepth 100000 in
theorem c_MO_range (l : Launch) (g : zG) (sz : Nat) (r : Nat → Nat) (ut uc la wo : Int) (bw : Nat → Nat) (mt : Nat → Int) (ms : Int) (s9 low high : Int) (hs9 : -2147483648 ≤ s9 ∧ s9 ≤ 2147483647)(hlow : -2147483648 ≤ low ∧ low ≤ 2147483647)(hhigh : -2147483648 ≤ high ∧ high ≤ 2147483647)(nw last : Nat) (hwo : wo = ((nw : Nat) : Int)) (hnw : nw ≤ 17408) (hla : la = ((last : Nat) : Int)) (hlw : 64 * nw = last + 1) (hbw : ∀ j, bw j < 18446744073709551616) : Met l y_MO_range w_MO_range { frames := 2, cells := 0, slots := 0, locals := 51 } (zPw g [.ref (r 0), .int (iI s9), .int (iI low), .int (iI high)] [(r 0, .inr (4, [.int (iI ut), .int (iI uc), .int (iI la), .int (iI wo), .ref (r 1), .ref (r 2), .ref (r 3), .int (iI ms), .ref (r 4)])), (r 1, .inl (zJ g, 139264, .inr (.inl (lA bw)))), (r 2, .inl (zBt g, 12544, .inl (ai kF))), (r 3, .inl (zI g, 4, .inl (ai mt))), (r 4, .inl (zI g, 14, .inl (ai PT)))] [] sz) (va_Qi (fun z w => ((¬ (0 ≤ s9 ∧ s9 ≤ 7) ∨ low < 0 ∨ high < low ∨ la < high) ∧ z = iI (-2) ∧ w = [(r 0, .inr (4, [.int (iI ut), .int (iI uc), .int (iI la), .int (iI wo), .ref (r 1), .ref (r 2), .ref (r 3), .int (iI ms), .ref (r 4)])), (r 1, .inl (zJ g, 139264, .inr (.inl (lA bw)))), (r 2, .inl (zBt g, 12544, .inl (ai kF))), (r 3, .inl (zI g, 4, .inl (ai mt))), (r 4, .inl (zI g, 14, .inl (ai PT)))]) ∨ (¬ (¬ (0 ≤ s9 ∧ s9 ≤ 7) ∨ low < 0 ∨ high < low ∨ la < high) ∧ ∃ b2 : Nat → Nat, w = [(r 0, .inr (4, [.int (iI ut), .int (iI uc), .int (iI la), .int (iI wo), .ref (r 1), .ref (r 2), .ref (r 3), .int (iI ms), .ref (r 4)])), (r 1, .inl (zJ g, 139264, .inr (.inl (lA b2)))), (r 2, .inl (zBt g, 12544, .inl (ai kF))), (r 3, .inl (zI g, 4, .inl (ai mt))), (r 4, .inl (zI g, 14, .inl (ai PT)))] ∧ chg bw b2 s9.toNat (last + 1) (fun c => bt bw s9.toNat c || (decide (low.toNat ≤ c) && decide (c ≤ high.toNat))) ∧ z = iI ((cnt (rst (fun c => bt bw s9.toNat c || (decide (low.toNat ≤ c) && decide (c ≤ high.toNat)))) (last + 1) : Nat) : Int))) (zB g (va_A [(r 0, .inr (4, [.int (iI ut), .int (iI uc), .int (iI la), .int (iI wo), .ref (r 1), .ref (r 2), .ref (r 3), .int (iI ms), .ref (r 4)])), (r 1, .inl (zJ g, 139264, .inr (.inl (lA bw)))), (r 2, .inl (zBt g, 12544, .inl (ai kF))), (r 3, .inl (zI g, 4, .inl (ai mt))), (r 4, .inl (zI g, 14, .inl (ai PT)))] sz)) (va_A [(r 0, .inr (4, [.int (iI ut), .int (iI uc), .int (iI la), .int (iI wo), .ref (r 1), .ref (r 2), .ref (r 3), .int (iI ms), .ref (r 4)])), (r 1, .inl (zJ g, 139264, .inr (.inl (lA bw)))), (r 2, .inl (zBt g, 12544, .inl (ai kF))), (r 3, .inl (zI g, 4, .inl (ai mt))), (r 4, .inl (zI g, 14, .inl (ai PT)))] sz)) 0 0 (va_A [(r 0, .inr (4, [.int (iI ut), .int (iI uc), .int (iI la), .int (iI wo), .ref (r 1), .ref (r 2), .ref (r 3), .int (iI ms), .ref (r 4)])), (r 1, .inl (zJ g, 139264, .inr (.inl (lA bw)))), (r 2, .inl (zBt g, 12544, .inl (ai kF))), (r 3, .inl (zI g, 4, .inl (ai mt))), (r 4, .inl (zI g, 14, .inl (ai PT)))] sz) := by
  refine Met.ofW (cc := b_MO_range) (maxL := 4) (ret := (some .int)) (by decide) rfl ?_
  intro p e s m args below meth cd s₁ B hml hv
  obtain ⟨hargs, hsz, hP, hK, hD0, hZ, hO0, hAp⟩ := hv
  have hx := B.exec
  have hb := B.bytes
  have hr := B.returns
  have ht : ∀ w ∈ lw_ok, w.before args s = true := fun w h => atoms_spec (ws := w_MO_range) B.pre w (List.mem_cons_of_mem _ h)
  have hown : s.vm.findClass R_MO = some m.cls := findClass_of_methodNamed B.named
  have hlocks := B.notSynchronized
  subst hsz
  have hD := hD0.self (sz := s.heap.size)
  generalize hAe : va_A [(r 0, .inr (4, [.int (iI ut), .int (iI uc), .int (iI la), .int (iI wo), .ref (r 1), .ref (r 2), .ref (r 3), .int (iI ms), .ref (r 4)])), (r 1, .inl (zJ g, 139264, .inr (.inl (lA bw)))), (r 2, .inl (zBt g, 12544, .inl (ai kF))), (r 3, .inl (zI g, 4, .inl (ai mt))), (r 4, .inl (zI g, 14, .inl (ai PT)))] s.heap.size = A at hD hZ hAp ⊢
  have hA : ∀ q : Nat, s.heap.size ≤ q → A q := fun q h => by rw [← hAe]; exact Or.inr h
  have hS : va_S A s.heap s.heap [] := va_S.rf
  generalize hQ : MQ below _ args s 0 0 _ = Q
  have hl := lv_entry ([.ref (r 0), .int (iI s9), .int (iI low), .int (iI high)]) (n := 4) (Nat.le_of_ble_eq_true rfl)
  rw [show entryFrame m args 4 = entryFrame m ([.ref (r 0), .int (iI s9), .int (iI low), .int (iI high)] : List Value).toArray 4 by rw [hargs], lg_entry_eq]
  generalize (lg_sl ([.ref (r 0), .int (iI s9), .int (iI low), .int (iI high)]) ++ List.replicate (4 - (lg_sl ([.ref (r 0), .int (iI s9), .int (iI low), .int (iI high)])).length) Slot.unset).toArray = ls at hl ⊢
  have hl : lv_has ls 4 [(0, .ref (r 0)), (1, .int (iI s9)), (2, .int (iI low)), (3, .int (iI high))] := hl
  obtain ⟨H, locs, hHe, hLe⟩ : ∃ (H : Heap) (locs : List Loc), H = s.heap ∧ locs = [] := ⟨_, _, rfl, rfl⟩
  rw [show W p l e _ s m args below meth cd s.heap [] 0 0 Q = W p l e _ s m args below meth cd H locs 0 0 Q by rw [hHe, hLe]]
  rw [← hHe] at hP
  have hS : va_S A s.heap H locs := by rw [hHe, hLe]; exact hS
  refine lv_aload_n hx hb d_MO_range_0 rfl (lv_at hl 0 rfl) ?_
  refine lv_iload_n hx hb d_MO_range_1 rfl (lv_at hl 1 rfl) ?_
  refine zcV (ci := 4) (q0 := 0) (As := [.int (iI s9)]) (rest := []) ⟨hx, hb, hml, hown, ht⟩ v_MO_117 (c_MO_none l g r ut uc la wo bw mt ms s9 (by omega)) ⟨Nat.le_of_ble_eq_true rfl, Nat.le_of_ble_eq_true rfl⟩ ⟨Nat.zero_le _, Nat.zero_le _⟩ hK hZ hS hP rfl rfl rfl rfl hl.1 rfl (Nat.le_of_ble_eq_true rfl) d_MO_range_2 (fun r_2 h_2 => ?_)
  rcases h_2 with ⟨h_2, rfl⟩ | ⟨h_2, rfl⟩
  · refine ix_if_ne (tgt := 25) hx hb d_MO_range_5 (by decide) (by omega) (fun c_5 => ?_) (fun c_5 => ?_)
    · refine lv_bipush (v := iI (-2)) hx hb d_MO_range_25 (by decide) ?_
      subst hQ
      exact W.iret (v := iI ((-2))) hx hb hr (fun t h9 hW => ⟨⟨_, _, rfl, Or.inl ⟨by omega, rfl, rfl⟩, by rw [h9]; exact hP, va_K.moved hW.alike hK, hD⟩, hS.F h9⟩) hS.2.2 d_MO_range_27
    · exact absurd c_5 (by decide)
  · refine ix_if_ne (tgt := 25) hx hb d_MO_range_5 (by decide) (by omega) (fun c_5 => ?_) (fun c_5 => ?_)
    · exact absurd c_5 (by decide)
    · refine lv_iload_n hx hb d_MO_range_8 rfl (lv_at hl 2 rfl) ?_
      refine ix_if_lt (tgt := 25) hx hb d_MO_range_9 (by decide) (by omega) (fun c_9 => ?_) (fun c_9 => ?_)
      · refine lv_bipush (v := iI (-2)) hx hb d_MO_range_25 (by decide) ?_
        subst hQ
        exact W.iret (v := iI ((-2))) hx hb hr (fun t h9 hW => ⟨⟨_, _, rfl, Or.inl ⟨by omega, rfl, rfl⟩, by rw [h9]; exact hP, va_K.moved hW.alike hK, hD⟩, hS.F h9⟩) hS.2.2 d_MO_range_27
      · refine lv_iload_n hx hb d_MO_range_12 rfl (lv_at hl 2 rfl) ?_
        refine lv_iload_n hx hb d_MO_range_13 rfl (lv_at hl 3 rfl) ?_
        refine ix_icmp_gt (tgt := 25) hx hb d_MO_range_14 (by decide) (by omega) (fun c_14 => ?_) (fun c_14 => ?_)
        · refine lv_bipush (v := iI (-2)) hx hb d_MO_range_25 (by decide) ?_
          subst hQ
          exact W.iret (v := iI ((-2))) hx hb hr (fun t h9 hW => ⟨⟨_, _, rfl, Or.inl ⟨by omega, rfl, rfl⟩, by rw [h9]; exact hP, va_K.moved hW.alike hK, hD⟩, hS.F h9⟩) hS.2.2 d_MO_range_27
        · refine lv_iload_n hx hb d_MO_range_17 rfl (lv_at hl 3 rfl) ?_
          refine lv_aload_n hx hb d_MO_range_18 rfl (lv_at hl 0 rfl) ?_
          refine va_get (D := g.1) (ci := 4) (v := .int (iI la)) (C := R_MO) (T := F_MO) (N := 9) hx hb ht i_MO hown hK hP 0 rfl rfl 2 (by decide) (ht _ k_420) (fun _ h9 => h9) rfl d_MO_range_19 ?_
          refine ix_icmp_le (tgt := 28) hx hb d_MO_range_22 (by decide) (by omega) (fun c_22 => ?_) (fun c_22 => ?_)
          · obtain ⟨sn, hsn⟩ : ∃ sn : Nat, s9 = ((sn : Nat) : Int) := ⟨s9.toNat, by omega⟩
            obtain ⟨lo, hlo⟩ : ∃ lo : Nat, low = ((lo : Nat) : Int) := ⟨low.toNat, by omega⟩
            obtain ⟨hi, hhi⟩ : ∃ hi : Nat, high = ((hi : Nat) : Int) := ⟨high.toNat, by omega⟩
            rw [hsn, hlo, hhi] at hl
            refine lv_aload_n hx hb d_MO_range_28 rfl (lv_at hl 0 rfl) ?_
            refine lv_iload_n hx hb d_MO_range_29 rfl (lv_at hl 1 rfl) ?_
            refine lv_iload_n hx hb d_MO_range_30 rfl (lv_at hl 2 rfl) ?_
            refine lv_iload_n hx hb d_MO_range_31 rfl (lv_at hl 3 rfl) ?_
            have hF_32 := va_free (wc := [(r 0, .inr (4, [.int (iI ut), .int (iI uc), .int (iI la), .int (iI wo), .ref (r 1), .ref (r 2), .ref (r 3), .int (iI ms), .ref (r 4)])), (r 1, .inl (zJ g, 139264, .inr (.inl (lA bw)))), (r 2, .inl (zBt g, 12544, .inl (ai kF))), (r 3, .inl (zI g, 4, .inl (ai mt))), (r 4, .inl (zI g, 14, .inl (ai PT)))]) hD hS hA [0, 1, 2, 3, 4] rfl
            refine zcVv (ci := 4) (q0 := 0) (As := [.int (iI (((sn : Nat) : Int))), .int (iI (((lo : Nat) : Int))), .int (iI (((hi : Nat) : Int)))]) (rest := []) ⟨hx, hb, hml, hown, ht⟩ v_MO_121 (c_MO_fill l g H.size r ut uc la wo bw mt ms sn lo hi (by omega) (by omega) (by omega) hbw) ⟨Nat.le_of_ble_eq_true rfl, Nat.le_of_ble_eq_true rfl⟩ ⟨Nat.zero_le _, Nat.zero_le _⟩ hK hZ hS hP (hD.weaken (fun _ _ _ _ => trivial)) hF_32 zP_nil zAp_nil rfl rfl rfl rfl hl.1 rfl (Nat.le_of_ble_eq_true rfl) d_MO_range_32 (fun w_32 H locs h_32 pp_32 dd_32 zz_32 kk_32 hS => ?_)
            obtain ⟨b2, rfl, hfl⟩ := h_32
            have hP : va_P g.1 classes [(r 0, .inr (4, [.int (iI ut), .int (iI uc), .int (iI la), .int (iI wo), .ref (r 1), .ref (r 2), .ref (r 3), .int (iI ms), .ref (r 4)])), (r 1, .inl (zJ g, 139264, .inr (.inl (lA b2)))), (r 2, .inl (zBt g, 12544, .inl (ai kF))), (r 3, .inl (zI g, 4, .inl (ai mt))), (r 4, .inl (zI g, 14, .inl (ai PT)))] H := pp_32
            have hD : va_D A [(r 0, .inr (4, [.int (iI ut), .int (iI uc), .int (iI la), .int (iI wo), .ref (r 1), .ref (r 2), .ref (r 3), .int (iI ms), .ref (r 4)])), (r 1, .inl (zJ g, 139264, .inr (.inl (lA b2)))), (r 2, .inl (zBt g, 12544, .inl (ai kF))), (r 3, .inl (zI g, 4, .inl (ai mt))), (r 4, .inl (zI g, 14, .inl (ai PT)))] := dd_32.weaken (fun _ _ _ h9 => hF_32 _ h9)
            refine lv_aload_n hx hb d_MO_range_35 rfl (lv_at hl 0 rfl) ?_
            refine lv_iload_n hx hb d_MO_range_36 rfl (lv_at hl 1 rfl) ?_
            refine zcV (ci := 4) (q0 := 0) (As := [.int (iI (((sn : Nat) : Int)))]) (rest := []) ⟨hx, hb, hml, hown, ht⟩ v_MO_124 (c_MO_ranges l g r ut uc la wo (b2) mt ms sn nw hwo hnw (by omega) (hfl.1)) ⟨Nat.le_of_ble_eq_true rfl, Nat.le_of_ble_eq_true rfl⟩ ⟨Nat.zero_le _, Nat.zero_le _⟩ hK hZ hS hP rfl rfl rfl rfl hl.1 rfl (Nat.le_of_ble_eq_true rfl) d_MO_range_37 (fun r_37 h_37 => ?_)
            subst h_37
            subst hQ
            exact W.iret (v := iI ((((cnt (rst (bt (b2) sn)) (64 * nw)) : Nat) : Int))) hx hb hr (fun t h9 hW => ⟨⟨_, _, rfl, Or.inr ⟨by omega, b2, rfl, by rw [hsn, hlo, hhi]; exact chg_fl hfl (by omega), by rw [hsn, hlo, hhi, hlw]; exact congrArg (fun x : Nat => iI (x : Int)) (chg_r (chg_fl hfl (by omega)))⟩, by rw [h9]; exact hP, va_K.moved hW.alike hK, hD⟩, hS.F h9⟩) hS.2.2 d_MO_range_40
          · refine lv_bipush (v := iI (-2)) hx hb d_MO_range_25 (by decide) ?_
            subst hQ
            exact W.iret (v := iI ((-2))) hx hb hr (fun t h9 hW => ⟨⟨_, _, rfl, Or.inl ⟨by omega, rfl, rfl⟩, by rw [h9]; exact hP, va_K.moved hW.alike hK, hD⟩, hS.F h9⟩) hS.2.2 d_MO_range_27
