set_option maxHeartbeats 4000000 in
set_option maxRecDepth 100000 in
theorem c_RG_insertAll_same (l : Launch) (g : zG) (sz : Nat) (h q : Nat) (n : Nat) (es : Nat → Int)  : Met l y_RG_insertAll w_RG_insertAll { frames := 0, cells := 0, slots := 0, locals := 0 } (zPw g [.ref h, .ref h] ([(h, .inr (1, [.ref q, .int (iI (((n : Nat) : Int)))])), (q, .inl (zI g, 2048, .inl (ai es)))]) [] sz) (va_Qv (fun w => w = [(h, .inr (1, [.ref q, .int (iI (((n : Nat) : Int)))])), (q, .inl (zI g, 2048, .inl (ai es)))]) (zB g (va_A ([(h, .inr (1, [.ref q, .int (iI (((n : Nat) : Int)))])), (q, .inl (zI g, 2048, .inl (ai es)))]) sz)) (va_A ([(h, .inr (1, [.ref q, .int (iI (((n : Nat) : Int)))])), (q, .inl (zI g, 2048, .inl (ai es)))]) sz)) 0 0 (va_A ([(h, .inr (1, [.ref q, .int (iI (((n : Nat) : Int)))])), (q, .inl (zI g, 2048, .inl (ai es)))]) sz) := by
  refine Met.ofW (cc := b_RG_insertAll) (maxL := 3) (ret := none) (by decide) rfl ?_
  intro p e s m args below meth cd s₁ B hml hv
  obtain ⟨hargs, hsz, hP, hK, hD0, hZ, hO0, hAp⟩ := hv
  have hx := B.exec
  have hb := B.bytes
  have hr := B.returns
  have ht : ∀ w ∈ lw_ok, w.before args s = true := fun w h => atoms_spec (ws := w_RG_insertAll) B.pre w (List.mem_cons_of_mem _ h)
  have hown : s.vm.findClass R_RG = some m.cls := findClass_of_methodNamed B.named
  have hlocks := B.notSynchronized
  subst hsz
  have hD := hD0.self (sz := s.heap.size)
  generalize hAe : va_A ([(h, .inr (1, [.ref q, .int (iI (((n : Nat) : Int)))])), (q, .inl (zI g, 2048, .inl (ai es)))]) s.heap.size = A at hD hZ hAp ⊢
  have hA : ∀ q : Nat, s.heap.size ≤ q → A q := fun q h => by rw [← hAe]; exact Or.inr h
  have hS : va_S A s.heap s.heap [] := va_S.rf
  generalize hQ : MQ below _ args s 0 0 _ = Q
  have hl := lv_entry ([.ref h, .ref h]) (n := 3) (Nat.le_of_ble_eq_true rfl)
  rw [show entryFrame m args 3 = entryFrame m ([.ref h, .ref h] : List Value).toArray 3 by rw [hargs], lg_entry_eq]
  generalize (lg_sl ([.ref h, .ref h]) ++ List.replicate (3 - (lg_sl ([.ref h, .ref h])).length) Slot.unset).toArray = ls at hl ⊢
  have hl : lv_has ls 3 [(0, .ref h), (1, .ref h)] := hl
  obtain ⟨H, locs, hHe, hLe⟩ : ∃ (H : Heap) (locs : List Loc), H = s.heap ∧ locs = [] := ⟨_, _, rfl, rfl⟩
  rw [show W p l e _ s m args below meth cd s.heap [] 0 0 Q = W p l e _ s m args below meth cd H locs 0 0 Q by rw [hHe, hLe]]
  rw [← hHe] at hP
  have hS : va_S A s.heap H locs := by rw [hHe, hLe]; exact hS
  refine lv_aload_n hx hb d_RG_insertAll_0 rfl (lv_at hl 1 rfl) ?_
  refine lv_aload_n hx hb d_RG_insertAll_1 rfl (lv_at hl 0 rfl) ?_
  refine lv_acmp_ne (rx := some h) (ry := some h) (tgt := 6) hx hb d_RG_insertAll_2 (by decide) (fun c_2 => ?_) (fun c_2 => ?_)
  · exact absurd rfl c_2
  · subst hQ
    exact W.vret hx hb hr (fun t h9 hW => ⟨⟨_, rfl, rfl, by rw [h9]; exact hP, va_K.moved hW.alike hK, hD⟩, hS.F h9⟩) hS.2.2 d_RG_insertAll_5
set_option maxHeartbeats 4000000 in
set_option maxRecDepth 100000 in
theorem c_CS_clear (l : Launch) (g : zG) (sz : Nat) (q : Nat → Nat) (u la : Int) (NX : Nat → Int) (n : Nat → Nat) (es : Nat → Nat → Int) (s9 : Int) (hs9 : -2147483648 ≤ s9 ∧ s9 ≤ 2147483647)  : Met l y_CS_clear w_CS_clear { frames := 1, cells := 0, slots := 0, locals := 20 } (zPw g [.ref (q 0), .int (iI s9)] (cw g q u la NX n es) [] sz) (va_Qi (fun z w => ((¬ (0 ≤ s9 ∧ s9 ≤ 7)) ∧ z = iI (-2) ∧ w = cw g q u la NX n es) ∨ (¬ (¬ (0 ≤ s9 ∧ s9 ≤ 7)) ∧ z = iI 0 ∧ w = cw g q u la NX (va_up n s9.toNat (0)) (va_up es s9.toNat (es s9.toNat)))) (zB g (va_A (cw g q u la NX n es) sz)) (va_A (cw g q u la NX n es) sz)) 0 0 (va_A (cw g q u la NX n es) sz) := by
  refine Met.ofW (cc := b_CS_clear) (maxL := 2) (ret := (some .int)) (by decide) rfl ?_
  intro p e s m args below meth cd s₁ B hml hv
  obtain ⟨hargs, hsz, hP, hK, hD0, hZ, hO0, hAp⟩ := hv
  have hx := B.exec
  have hb := B.bytes
  have hr := B.returns
  have ht : ∀ w ∈ lw_ok, w.before args s = true := fun w h => atoms_spec (ws := w_CS_clear) B.pre w (List.mem_cons_of_mem _ h)
  have hown : s.vm.findClass R_CS = some m.cls := findClass_of_methodNamed B.named
  have hlocks := B.notSynchronized
  subst hsz
  have hD := hD0.self (sz := s.heap.size)
  generalize hAe : va_A (cw g q u la NX n es) s.heap.size = A at hD hZ hAp ⊢
  have hA : ∀ q : Nat, s.heap.size ≤ q → A q := fun q h => by rw [← hAe]; exact Or.inr h
  have hS : va_S A s.heap s.heap [] := va_S.rf
  generalize hQ : MQ below _ args s 0 0 _ = Q
  have hl := lv_entry ([.ref (q 0), .int (iI s9)]) (n := 2) (Nat.le_of_ble_eq_true rfl)
  rw [show entryFrame m args 2 = entryFrame m ([.ref (q 0), .int (iI s9)] : List Value).toArray 2 by rw [hargs], lg_entry_eq]
  generalize (lg_sl ([.ref (q 0), .int (iI s9)]) ++ List.replicate (2 - (lg_sl ([.ref (q 0), .int (iI s9)])).length) Slot.unset).toArray = ls at hl ⊢
  have hl : lv_has ls 2 [(0, .ref (q 0)), (1, .int (iI s9))] := hl
  obtain ⟨H, locs, hHe, hLe⟩ : ∃ (H : Heap) (locs : List Loc), H = s.heap ∧ locs = [] := ⟨_, _, rfl, rfl⟩
  rw [show W p l e _ s m args below meth cd s.heap [] 0 0 Q = W p l e _ s m args below meth cd H locs 0 0 Q by rw [hHe, hLe]]
  rw [← hHe] at hP
  have hS : va_S A s.heap H locs := by rw [hHe, hLe]; exact hS
  refine lv_iload_n hx hb d_CS_clear_0 rfl (lv_at hl 1 rfl) ?_
  refine zcS (As := [.int (iI s9)]) (rest := []) ⟨hx, hb, hml, hown, ht⟩ t_CS_45 (c_CS_isSet l g s9 (by omega)) ⟨Nat.le_of_ble_eq_true rfl, Nat.le_of_ble_eq_true rfl⟩ ⟨Nat.zero_le _, Nat.zero_le _⟩ hK hZ hS zP_nil rfl hl.1 rfl (Nat.le_of_ble_eq_true rfl) d_CS_clear_1 (fun r_1 h_1 => ?_)
  rcases h_1 with ⟨h_1, rfl⟩ | ⟨h_1, rfl⟩
  · refine ix_if_ne (tgt := 10) hx hb d_CS_clear_4 (by decide) (by omega) (fun c_4 => ?_) (fun c_4 => ?_)
    · obtain ⟨sn, hsn⟩ : ∃ sn : Nat, s9 = ((sn : Nat) : Int) := ⟨s9.toNat, by omega⟩
      have hsnT : s9.toNat = sn := by omega
      rw [hsn] at hl
      refine lv_aload_n hx hb d_CS_clear_10 rfl (lv_at hl 0 rfl) ?_
      refine va_get (D := g.1) (ci := 0) (v := .ref (q 7)) (C := R_CS) (T := F_CS) (N := 6) hx hb ht i_CS hown hK hP 0 rfl rfl 4 (by decide) (ht _ k_105) (fun _ h9 => h9) rfl d_CS_clear_11 ?_
      refine lv_iload_n hx hb d_CS_clear_14 rfl (lv_at hl 1 rfl) ?_
      refine ix_aald hx hb hK hP 7 3 rfl rfl (i := (((sn : Nat) : Int))) (q (8 + 2 * sn)) sn (by omega) rfl d_CS_clear_15 ?_
      have hF_16 := cw_prF hD hS hA (k := sn) (by omega)
      refine zcVv (ci := 1) (q0 := 0) (As := []) (rest := []) ⟨hx, hb, hml, hown, ht⟩ v_CS_49 (c_RG_empty l g H.size (q (8 + 2 * sn)) (q (9 + 2 * sn)) (n sn) (es sn)  ) ⟨Nat.le_of_ble_eq_true rfl, Nat.le_of_ble_eq_true rfl⟩ ⟨Nat.zero_le _, Nat.zero_le _⟩ hK hZ hS (cw_pr hP (k := sn) (by omega)) ((cw_prD hD (k := sn) (by omega)).weaken (fun _ _ _ _ => trivial)) hF_16 zP_nil zAp_nil rfl rfl rfl rfl hl.1 rfl (Nat.le_of_ble_eq_true rfl) d_CS_clear_16 (fun w_16 H locs h_16 pp_16 dd_16 zz_16 kk_16 hS => ?_)
      subst h_16
      obtain ⟨hP, hD⟩ := cw_put hP hD (k := sn) (n1 := 0) (e1 := es sn) (by omega) kk_16 hF_16 pp_16 dd_16
      obtain ⟨n16, hn16⟩ : ∃ f9, f9 = va_up n sn (0) := ⟨_, rfl⟩
      obtain ⟨e16, he16⟩ : ∃ f9, f9 = va_up es sn (es sn) := ⟨_, rfl⟩
      rw [← hn16, ← he16] at hP hD
      have n16k : n16 sn = 0 := by rw [hn16]; exact up_same _ _ _
      have e16k : e16 sn = es sn := by rw [he16]; exact up_same _ _ _
      refine lv_iconst (v := iI 0) hx hb d_CS_clear_19 rfl ?_
      subst hQ
      exact W.iret (v := iI 0) hx hb hr (fun t h9 hW => ⟨⟨_, _, rfl, Or.inr ⟨by omega, rfl, by rw [hsnT, hn16, he16]⟩, by rw [h9]; exact hP, va_K.moved hW.alike hK, hD⟩, hS.F h9⟩) hS.2.2 d_CS_clear_20
    · exact absurd c_4 (by decide)
  · refine ix_if_ne (tgt := 10) hx hb d_CS_clear_4 (by decide) (by omega) (fun c_4 => ?_) (fun c_4 => ?_)
    · exact absurd c_4 (by decide)
    · refine lv_bipush (v := iI (-2)) hx hb d_CS_clear_7 (by decide) ?_
      subst hQ
      exact W.iret (v := iI ((-2))) hx hb hr (fun t h9 hW => ⟨⟨_, _, rfl, Or.inl ⟨by omega, rfl, rfl⟩, by rw [h9]; exact hP, va_K.moved hW.alike hK, hD⟩, hS.F h9⟩) hS.2.2 d_CS_clear_9
set_option maxHeartbeats 4000000 in
set_option maxRecDepth 100000 in
theorem c_CS_range (l : Launch) (g : zG) (sz : Nat) (q : Nat → Nat) (u la : Int) (NX : Nat → Int) (n : Nat → Nat) (es : Nat → Nat → Int) (s9 low high : Int) (hs9 : -2147483648 ≤ s9 ∧ s9 ≤ 2147483647) (hlow : -2147483648 ≤ low ∧ low ≤ 2147483647) (hhigh : -2147483648 ≤ high ∧ high ≤ 2147483647) (hla : 0 ≤ la ∧ la ≤ 1114111) (hok : ∀ k, k < 9 → asc (es k) (n k) ∧ n k ≤ 2046 ∧ ∀ i, i < n k → 0 ≤ es k i ∧ es k i ≤ 1114112) (Bs : List Int) (hBl : Bs.length ≤ 2046) (hBs : ∀ k, k < 9 → ∀ i, i < n k → es k i ∈ Bs) (hB1 : low ∈ Bs) (hB2 : high + 1 ∈ Bs) : Met l y_CS_range w_CS_range { frames := 2, cells := 0, slots := 0, locals := 52 } (zPw g [.ref (q 0), .int (iI s9), .int (iI low), .int (iI high)] (cw g q u la NX n es) [] sz) (va_Qi (fun z w => ((¬ (0 ≤ s9 ∧ s9 ≤ 7) ∨ low < 0 ∨ high < low ∨ la < high) ∧ z = iI (-2) ∧ w = cw g q u la NX n es) ∨ (¬ (¬ (0 ≤ s9 ∧ s9 ≤ 7) ∨ low < 0 ∨ high < low ∨ la < high) ∧ ∃ (e2 : Nat → Int) (n2 : Nat), Ins (es s9.toNat) (n s9.toNat) low high e2 n2 ∧ z = iI ((n2 / 2 : Nat) : Int) ∧ w = cw g q u la NX (va_up n s9.toNat (n2)) (va_up es s9.toNat (e2)))) (zB g (va_A (cw g q u la NX n es) sz)) (va_A (cw g q u la NX n es) sz)) 0 0 (va_A (cw g q u la NX n es) sz) := by
  refine Met.ofW (cc := b_CS_range) (maxL := 4) (ret := (some .int)) (by decide) rfl ?_
  intro p e s m args below meth cd s₁ B hml hv
  obtain ⟨hargs, hsz, hP, hK, hD0, hZ, hO0, hAp⟩ := hv
  have hx := B.exec
  have hb := B.bytes
  have hr := B.returns
  have ht : ∀ w ∈ lw_ok, w.before args s = true := fun w h => atoms_spec (ws := w_CS_range) B.pre w (List.mem_cons_of_mem _ h)
  have hown : s.vm.findClass R_CS = some m.cls := findClass_of_methodNamed B.named
  have hlocks := B.notSynchronized
  subst hsz
  have hD := hD0.self (sz := s.heap.size)
  generalize hAe : va_A (cw g q u la NX n es) s.heap.size = A at hD hZ hAp ⊢
  have hA : ∀ q : Nat, s.heap.size ≤ q → A q := fun q h => by rw [← hAe]; exact Or.inr h
  have hS : va_S A s.heap s.heap [] := va_S.rf
  generalize hQ : MQ below _ args s 0 0 _ = Q
  have hl := lv_entry ([.ref (q 0), .int (iI s9), .int (iI low), .int (iI high)]) (n := 4) (Nat.le_of_ble_eq_true rfl)
  rw [show entryFrame m args 4 = entryFrame m ([.ref (q 0), .int (iI s9), .int (iI low), .int (iI high)] : List Value).toArray 4 by rw [hargs], lg_entry_eq]
  generalize (lg_sl ([.ref (q 0), .int (iI s9), .int (iI low), .int (iI high)]) ++ List.replicate (4 - (lg_sl ([.ref (q 0), .int (iI s9), .int (iI low), .int (iI high)])).length) Slot.unset).toArray = ls at hl ⊢
  have hl : lv_has ls 4 [(0, .ref (q 0)), (1, .int (iI s9)), (2, .int (iI low)), (3, .int (iI high))] := hl
  obtain ⟨H, locs, hHe, hLe⟩ : ∃ (H : Heap) (locs : List Loc), H = s.heap ∧ locs = [] := ⟨_, _, rfl, rfl⟩
  rw [show W p l e _ s m args below meth cd s.heap [] 0 0 Q = W p l e _ s m args below meth cd H locs 0 0 Q by rw [hHe, hLe]]
  rw [← hHe] at hP
  have hS : va_S A s.heap H locs := by rw [hHe, hLe]; exact hS
  refine lv_iload_n hx hb d_CS_range_0 rfl (lv_at hl 1 rfl) ?_
  refine zcS (As := [.int (iI s9)]) (rest := []) ⟨hx, hb, hml, hown, ht⟩ t_CS_45 (c_CS_isSet l g s9 (by omega)) ⟨Nat.le_of_ble_eq_true rfl, Nat.le_of_ble_eq_true rfl⟩ ⟨Nat.zero_le _, Nat.zero_le _⟩ hK hZ hS zP_nil rfl hl.1 rfl (Nat.le_of_ble_eq_true rfl) d_CS_range_1 (fun r_1 h_1 => ?_)
  rcases h_1 with ⟨h_1, rfl⟩ | ⟨h_1, rfl⟩
  · refine ix_if_eq (tgt := 28) hx hb d_CS_range_4 (by decide) (by omega) (fun c_4 => ?_) (fun c_4 => ?_)
    · exact absurd c_4 (by decide)
    · refine lv_aload_n hx hb d_CS_range_7 rfl (lv_at hl 0 rfl) ?_
      refine lv_iload_n hx hb d_CS_range_8 rfl (lv_at hl 2 rfl) ?_
      refine zcV (ci := 0) (q0 := 0) (As := [.int (iI low)]) (rest := []) ⟨hx, hb, hml, hown, ht⟩ v_CS_52 (c_CS_isThere l g q u la NX n es low (by omega) hla) ⟨Nat.le_of_ble_eq_true rfl, Nat.le_of_ble_eq_true rfl⟩ ⟨Nat.zero_le _, Nat.zero_le _⟩ hK hZ hS hP rfl rfl rfl rfl hl.1 rfl (Nat.le_of_ble_eq_true rfl) d_CS_range_9 (fun r_9 h_9 => ?_)
      rcases h_9 with ⟨h_9, rfl⟩ | ⟨h_9, rfl⟩
      · refine ix_if_eq (tgt := 28) hx hb d_CS_range_12 (by decide) (by omega) (fun c_12 => ?_) (fun c_12 => ?_)
        · exact absurd c_12 (by decide)
        · refine lv_aload_n hx hb d_CS_range_15 rfl (lv_at hl 0 rfl) ?_
          refine lv_iload_n hx hb d_CS_range_16 rfl (lv_at hl 3 rfl) ?_
          refine zcV (ci := 0) (q0 := 0) (As := [.int (iI high)]) (rest := []) ⟨hx, hb, hml, hown, ht⟩ v_CS_52 (c_CS_isThere l g q u la NX n es high (by omega) hla) ⟨Nat.le_of_ble_eq_true rfl, Nat.le_of_ble_eq_true rfl⟩ ⟨Nat.zero_le _, Nat.zero_le _⟩ hK hZ hS hP rfl rfl rfl rfl hl.1 rfl (Nat.le_of_ble_eq_true rfl) d_CS_range_17 (fun r_17 h_17 => ?_)
          rcases h_17 with ⟨h_17, rfl⟩ | ⟨h_17, rfl⟩
          · refine ix_if_eq (tgt := 28) hx hb d_CS_range_20 (by decide) (by omega) (fun c_20 => ?_) (fun c_20 => ?_)
            · exact absurd c_20 (by decide)
            · refine lv_iload_n hx hb d_CS_range_23 rfl (lv_at hl 2 rfl) ?_
              refine lv_iload_n hx hb d_CS_range_24 rfl (lv_at hl 3 rfl) ?_
              refine ix_icmp_le (tgt := 31) hx hb d_CS_range_25 (by decide) (by omega) (fun c_25 => ?_) (fun c_25 => ?_)
              · obtain ⟨sn, hsn⟩ : ∃ sn : Nat, s9 = ((sn : Nat) : Int) := ⟨s9.toNat, by omega⟩
                have hsnT : s9.toNat = sn := by omega
                rw [hsn] at hl
                refine lv_aload_n hx hb d_CS_range_31 rfl (lv_at hl 0 rfl) ?_
                refine va_get (D := g.1) (ci := 0) (v := .ref (q 7)) (C := R_CS) (T := F_CS) (N := 6) hx hb ht i_CS hown hK hP 0 rfl rfl 4 (by decide) (ht _ k_105) (fun _ h9 => h9) rfl d_CS_range_32 ?_
                refine lv_iload_n hx hb d_CS_range_35 rfl (lv_at hl 1 rfl) ?_
                refine ix_aald hx hb hK hP 7 3 rfl rfl (i := (((sn : Nat) : Int))) (q (8 + 2 * sn)) sn (by omega) rfl d_CS_range_36 ?_
                refine lv_iload_n hx hb d_CS_range_37 rfl (lv_at hl 2 rfl) ?_
                refine lv_iload_n hx hb d_CS_range_38 rfl (lv_at hl 3 rfl) ?_
                have hF_39 := cw_prF hD hS hA (k := sn) (by omega)
                refine zcVv (ci := 1) (q0 := 0) (As := [.int (iI low), .int (iI high)]) (rest := []) ⟨hx, hb, hml, hown, ht⟩ v_CS_55 (c_RG_insert l g H.size (q (8 + 2 * sn)) (q (9 + 2 * sn)) (n sn) (es sn) low high (hok sn (by omega)).1 (by have := (hok sn (by omega)).2.1; omega) (hok sn (by omega)).2.2 (by omega) (by omega) (by omega) Bs (hBs sn (by omega)) hB1 hB2 (by omega)) ⟨Nat.le_of_ble_eq_true rfl, Nat.le_of_ble_eq_true rfl⟩ ⟨Nat.zero_le _, Nat.zero_le _⟩ hK hZ hS (cw_pr hP (k := sn) (by omega)) ((cw_prD hD (k := sn) (by omega)).weaken (fun _ _ _ _ => trivial)) hF_39 zP_nil zAp_nil rfl rfl rfl rfl hl.1 rfl (Nat.le_of_ble_eq_true rfl) d_CS_range_39 (fun w_39 H locs h_39 pp_39 dd_39 zz_39 kk_39 hS => ?_)
                obtain ⟨e2, n2, rfl, hI⟩ := h_39
                have hL2 := Ins_len hI Bs (hBs sn (by omega)) hB1 hB2
                obtain ⟨hP, hD⟩ := cw_put hP hD (k := sn) (n1 := n2) (e1 := e2) (by omega) kk_39 hF_39 pp_39 dd_39
                obtain ⟨n39, hn39⟩ : ∃ f9, f9 = va_up n sn (n2) := ⟨_, rfl⟩
                obtain ⟨e39, he39⟩ : ∃ f9, f9 = va_up es sn (e2) := ⟨_, rfl⟩
                rw [← hn39, ← he39] at hP hD
                have n39k : n39 sn = n2 := by rw [hn39]; exact up_same _ _ _
                have e39k : e39 sn = e2 := by rw [he39]; exact up_same _ _ _
                refine lv_aload_n hx hb d_CS_range_42 rfl (lv_at hl 0 rfl) ?_
                refine va_get (D := g.1) (ci := 0) (v := .ref (q 7)) (C := R_CS) (T := F_CS) (N := 6) hx hb ht i_CS hown hK hP 0 rfl rfl 4 (by decide) (ht _ k_105) (fun _ h9 => h9) rfl d_CS_range_43 ?_
                refine lv_iload_n hx hb d_CS_range_46 rfl (lv_at hl 1 rfl) ?_
                refine ix_aald hx hb hK hP 7 3 rfl rfl (i := (((sn : Nat) : Int))) (q (8 + 2 * sn)) sn (by omega) rfl d_CS_range_47 ?_
                refine zcV (ci := 1) (q0 := 0) (As := []) (rest := []) ⟨hx, hb, hml, hown, ht⟩ v_CS_59 (c_RG_rangeCount l g (q (8 + 2 * sn)) (q (9 + 2 * sn)) (n39 sn) (e39 sn) (by rw [n39k]; omega)) ⟨Nat.le_of_ble_eq_true rfl, Nat.le_of_ble_eq_true rfl⟩ ⟨Nat.zero_le _, Nat.zero_le _⟩ hK hZ hS (cw_pr hP (k := sn) (by omega)) rfl rfl rfl rfl hl.1 rfl (Nat.le_of_ble_eq_true rfl) d_CS_range_48 (fun r_48 h_48 => ?_)
                subst h_48
                subst hQ
                exact W.iret (v := iI ((((n39 sn / 2) : Nat) : Int))) hx hb hr (fun t h9 hW => ⟨⟨_, _, rfl, Or.inr ⟨by omega, e2, n2, by rw [hsnT]; exact hI, by rw [n39k], by rw [hsnT, hn39, he39]⟩, by rw [h9]; exact hP, va_K.moved hW.alike hK, hD⟩, hS.F h9⟩) hS.2.2 d_CS_range_51
              · refine lv_bipush (v := iI (-2)) hx hb d_CS_range_28 (by decide) ?_
                subst hQ
                exact W.iret (v := iI ((-2))) hx hb hr (fun t h9 hW => ⟨⟨_, _, rfl, Or.inl ⟨by omega, rfl, rfl⟩, by rw [h9]; exact hP, va_K.moved hW.alike hK, hD⟩, hS.F h9⟩) hS.2.2 d_CS_range_30
          · refine ix_if_eq (tgt := 28) hx hb d_CS_range_20 (by decide) (by omega) (fun c_20 => ?_) (fun c_20 => ?_)
            · refine lv_bipush (v := iI (-2)) hx hb d_CS_range_28 (by decide) ?_
              subst hQ
              exact W.iret (v := iI ((-2))) hx hb hr (fun t h9 hW => ⟨⟨_, _, rfl, Or.inl ⟨by omega, rfl, rfl⟩, by rw [h9]; exact hP, va_K.moved hW.alike hK, hD⟩, hS.F h9⟩) hS.2.2 d_CS_range_30
            · exact absurd c_20 (by decide)
      · refine ix_if_eq (tgt := 28) hx hb d_CS_range_12 (by decide) (by omega) (fun c_12 => ?_) (fun c_12 => ?_)
        · refine lv_bipush (v := iI (-2)) hx hb d_CS_range_28 (by decide) ?_
          subst hQ
          exact W.iret (v := iI ((-2))) hx hb hr (fun t h9 hW => ⟨⟨_, _, rfl, Or.inl ⟨by omega, rfl, rfl⟩, by rw [h9]; exact hP, va_K.moved hW.alike hK, hD⟩, hS.F h9⟩) hS.2.2 d_CS_range_30
        · exact absurd c_12 (by decide)
  · refine ix_if_eq (tgt := 28) hx hb d_CS_range_4 (by decide) (by omega) (fun c_4 => ?_) (fun c_4 => ?_)
    · refine lv_bipush (v := iI (-2)) hx hb d_CS_range_28 (by decide) ?_
      subst hQ
      exact W.iret (v := iI ((-2))) hx hb hr (fun t h9 hW => ⟨⟨_, _, rfl, Or.inl ⟨by omega, rfl, rfl⟩, by rw [h9]; exact hP, va_K.moved hW.alike hK, hD⟩, hS.F h9⟩) hS.2.2 d_CS_range_30
    · exact absurd c_4 (by decide)
set_option maxHeartbeats 4000000 in
set_option maxRecDepth 100000 in
theorem c_CS_invert (l : Launch) (g : zG) (sz : Nat) (q : Nat → Nat) (u la : Int) (NX : Nat → Int) (n : Nat → Nat) (es : Nat → Nat → Int) (s9 : Int) (hs9 : -2147483648 ≤ s9 ∧ s9 ≤ 2147483647) (last : Nat) (hla : la = ((last : Nat) : Int)) (hla2 : last ≤ 1114111) (hok : ∀ k, k < 9 → asc (es k) (n k) ∧ n k ≤ 2046 ∧ ∀ i, i < n k → 0 ≤ es k i ∧ es k i ≤ 1114112) : Met l y_CS_invert w_CS_invert { frames := 2, cells := 0, slots := 0, locals := 39 } (zPw g [.ref (q 0), .int (iI s9)] (cw g q u la NX n es) [] sz) (va_Qi (fun z w => ((¬ (0 ≤ s9 ∧ s9 ≤ 7)) ∧ z = iI (-2) ∧ w = cw g q u la NX n es) ∨ (¬ (¬ (0 ≤ s9 ∧ s9 ≤ 7)) ∧ ∃ (e2 : Nat → Int) (n2 : Nat), Cmp ((last : Nat) : Int) (es s9.toNat) (n s9.toNat) e2 n2 ∧ z = iI ((n2 / 2 : Nat) : Int) ∧ w = cw g q u la NX (va_up n s9.toNat (n2)) (va_up es s9.toNat (e2)))) (zB g (va_A (cw g q u la NX n es) sz)) (va_A (cw g q u la NX n es) sz)) 0 0 (va_A (cw g q u la NX n es) sz) := by
  refine Met.ofW (cc := b_CS_invert) (maxL := 2) (ret := (some .int)) (by decide) rfl ?_
  intro p e s m args below meth cd s₁ B hml hv
  obtain ⟨hargs, hsz, hP, hK, hD0, hZ, hO0, hAp⟩ := hv
  have hx := B.exec
  have hb := B.bytes
  have hr := B.returns
  have ht : ∀ w ∈ lw_ok, w.before args s = true := fun w h => atoms_spec (ws := w_CS_invert) B.pre w (List.mem_cons_of_mem _ h)
  have hown : s.vm.findClass R_CS = some m.cls := findClass_of_methodNamed B.named
  have hlocks := B.notSynchronized
  subst hsz
  have hD := hD0.self (sz := s.heap.size)
  generalize hAe : va_A (cw g q u la NX n es) s.heap.size = A at hD hZ hAp ⊢
  have hA : ∀ q : Nat, s.heap.size ≤ q → A q := fun q h => by rw [← hAe]; exact Or.inr h
  have hS : va_S A s.heap s.heap [] := va_S.rf
  generalize hQ : MQ below _ args s 0 0 _ = Q
  have hl := lv_entry ([.ref (q 0), .int (iI s9)]) (n := 2) (Nat.le_of_ble_eq_true rfl)
  rw [show entryFrame m args 2 = entryFrame m ([.ref (q 0), .int (iI s9)] : List Value).toArray 2 by rw [hargs], lg_entry_eq]
  generalize (lg_sl ([.ref (q 0), .int (iI s9)]) ++ List.replicate (2 - (lg_sl ([.ref (q 0), .int (iI s9)])).length) Slot.unset).toArray = ls at hl ⊢
  have hl : lv_has ls 2 [(0, .ref (q 0)), (1, .int (iI s9))] := hl
  obtain ⟨H, locs, hHe, hLe⟩ : ∃ (H : Heap) (locs : List Loc), H = s.heap ∧ locs = [] := ⟨_, _, rfl, rfl⟩
  rw [show W p l e _ s m args below meth cd s.heap [] 0 0 Q = W p l e _ s m args below meth cd H locs 0 0 Q by rw [hHe, hLe]]
  rw [← hHe] at hP
  have hS : va_S A s.heap H locs := by rw [hHe, hLe]; exact hS
  refine lv_iload_n hx hb d_CS_invert_0 rfl (lv_at hl 1 rfl) ?_
  refine zcS (As := [.int (iI s9)]) (rest := []) ⟨hx, hb, hml, hown, ht⟩ t_CS_45 (c_CS_isSet l g s9 (by omega)) ⟨Nat.le_of_ble_eq_true rfl, Nat.le_of_ble_eq_true rfl⟩ ⟨Nat.zero_le _, Nat.zero_le _⟩ hK hZ hS zP_nil rfl hl.1 rfl (Nat.le_of_ble_eq_true rfl) d_CS_invert_1 (fun r_1 h_1 => ?_)
  rcases h_1 with ⟨h_1, rfl⟩ | ⟨h_1, rfl⟩
  · refine ix_if_ne (tgt := 10) hx hb d_CS_invert_4 (by decide) (by omega) (fun c_4 => ?_) (fun c_4 => ?_)
    · obtain ⟨sn, hsn⟩ : ∃ sn : Nat, s9 = ((sn : Nat) : Int) := ⟨s9.toNat, by omega⟩
      have hsnT : s9.toNat = sn := by omega
      rw [hsn] at hl
      refine lv_aload_n hx hb d_CS_invert_10 rfl (lv_at hl 0 rfl) ?_
      refine va_get (D := g.1) (ci := 0) (v := .ref (q 7)) (C := R_CS) (T := F_CS) (N := 6) hx hb ht i_CS hown hK hP 0 rfl rfl 4 (by decide) (ht _ k_105) (fun _ h9 => h9) rfl d_CS_invert_11 ?_
      refine lv_iload_n hx hb d_CS_invert_14 rfl (lv_at hl 1 rfl) ?_
      refine ix_aald hx hb hK hP 7 3 rfl rfl (i := (((sn : Nat) : Int))) (q (8 + 2 * sn)) sn (by omega) rfl d_CS_invert_15 ?_
      refine lv_aload_n hx hb d_CS_invert_16 rfl (lv_at hl 0 rfl) ?_
      refine va_get (D := g.1) (ci := 0) (v := .int (iI la)) (C := R_CS) (T := F_CS) (N := 6) hx hb ht i_CS hown hK hP 0 rfl rfl 1 (by decide) (ht _ k_102) (fun _ h9 => h9) rfl d_CS_invert_17 ?_
      have hla9 : iI la = iI ((last : Nat) : Int) := by rw [hla]
      rw [hla9]
      have hF_20 := cw_prF hD hS hA (k := sn) (by omega)
      refine zcVv (ci := 1) (q0 := 0) (As := [.int (iI (((last : Nat) : Int)))]) (rest := []) ⟨hx, hb, hml, hown, ht⟩ v_CS_82 (c_RG_complement l g H.size (q (8 + 2 * sn)) (q (9 + 2 * sn)) (n sn) (es sn)  (hok sn (by omega)).1 (by have := (hok sn (by omega)).2.1; omega) (hok sn (by omega)).2.2 last hla2 (by have := (hok sn (by omega)).2.1; omega)) ⟨Nat.le_of_ble_eq_true rfl, Nat.le_of_ble_eq_true rfl⟩ ⟨Nat.zero_le _, Nat.zero_le _⟩ hK hZ hS (cw_pr hP (k := sn) (by omega)) ((cw_prD hD (k := sn) (by omega)).weaken (fun _ _ _ _ => trivial)) hF_20 zP_nil zAp_nil rfl rfl rfl rfl hl.1 rfl (Nat.le_of_ble_eq_true rfl) d_CS_invert_20 (fun w_20 H locs h_20 pp_20 dd_20 zz_20 kk_20 hS => ?_)
      obtain ⟨e2, n2, rfl, hI⟩ := h_20
      have hL2 : n2 ≤ 2048 := by have := (hok sn (by omega)).2.1; have := Cmp_len hI; omega
      obtain ⟨hP, hD⟩ := cw_put hP hD (k := sn) (n1 := n2) (e1 := e2) (by omega) kk_20 hF_20 pp_20 dd_20
      obtain ⟨n20, hn20⟩ : ∃ f9, f9 = va_up n sn (n2) := ⟨_, rfl⟩
      obtain ⟨e20, he20⟩ : ∃ f9, f9 = va_up es sn (e2) := ⟨_, rfl⟩
      rw [← hn20, ← he20] at hP hD
      have n20k : n20 sn = n2 := by rw [hn20]; exact up_same _ _ _
      have e20k : e20 sn = e2 := by rw [he20]; exact up_same _ _ _
      refine lv_aload_n hx hb d_CS_invert_23 rfl (lv_at hl 0 rfl) ?_
      refine va_get (D := g.1) (ci := 0) (v := .ref (q 7)) (C := R_CS) (T := F_CS) (N := 6) hx hb ht i_CS hown hK hP 0 rfl rfl 4 (by decide) (ht _ k_105) (fun _ h9 => h9) rfl d_CS_invert_24 ?_
      refine lv_iload_n hx hb d_CS_invert_27 rfl (lv_at hl 1 rfl) ?_
      refine ix_aald hx hb hK hP 7 3 rfl rfl (i := (((sn : Nat) : Int))) (q (8 + 2 * sn)) sn (by omega) rfl d_CS_invert_28 ?_
      refine zcV (ci := 1) (q0 := 0) (As := []) (rest := []) ⟨hx, hb, hml, hown, ht⟩ v_CS_59 (c_RG_rangeCount l g (q (8 + 2 * sn)) (q (9 + 2 * sn)) (n20 sn) (e20 sn) (by rw [n20k]; omega)) ⟨Nat.le_of_ble_eq_true rfl, Nat.le_of_ble_eq_true rfl⟩ ⟨Nat.zero_le _, Nat.zero_le _⟩ hK hZ hS (cw_pr hP (k := sn) (by omega)) rfl rfl rfl rfl hl.1 rfl (Nat.le_of_ble_eq_true rfl) d_CS_invert_29 (fun r_29 h_29 => ?_)
      subst h_29
      subst hQ
      exact W.iret (v := iI ((((n20 sn / 2) : Nat) : Int))) hx hb hr (fun t h9 hW => ⟨⟨_, _, rfl, Or.inr ⟨by omega, e2, n2, by rw [hsnT]; exact hI, by rw [n20k], by rw [hsnT, hn20, he20]⟩, by rw [h9]; exact hP, va_K.moved hW.alike hK, hD⟩, hS.F h9⟩) hS.2.2 d_CS_invert_32
    · exact absurd c_4 (by decide)
  · refine ix_if_ne (tgt := 10) hx hb d_CS_invert_4 (by decide) (by omega) (fun c_4 => ?_) (fun c_4 => ?_)
    · exact absurd c_4 (by decide)
    · refine lv_bipush (v := iI (-2)) hx hb d_CS_invert_7 (by decide) ?_
      subst hQ
      exact W.iret (v := iI ((-2))) hx hb hr (fun t h9 hW => ⟨⟨_, _, rfl, Or.inl ⟨by omega, rfl, rfl⟩, by rw [h9]; exact hP, va_K.moved hW.alike hK, hD⟩, hS.F h9⟩) hS.2.2 d_CS_invert_9
set_option maxHeartbeats 4000000 in
set_option maxRecDepth 100000 in
theorem c_CS_join (l : Launch) (g : zG) (sz : Nat) (q : Nat → Nat) (u la : Int) (NX : Nat → Int) (n : Nat → Nat) (es : Nat → Nat → Int) (s9 t9 : Int) (hs9 : -2147483648 ≤ s9 ∧ s9 ≤ 2147483647) (ht9 : -2147483648 ≤ t9 ∧ t9 ≤ 2147483647) (hok : ∀ k, k < 9 → asc (es k) (n k) ∧ n k ≤ 2046 ∧ ∀ i, i < n k → 0 ≤ es k i ∧ es k i ≤ 1114112) (Bs : List Int) (hBl : Bs.length ≤ 2046) (hBs : ∀ k, k < 9 → ∀ i, i < n k → es k i ∈ Bs)  : Met l y_CS_join w_CS_join { frames := 3, cells := 0, slots := 0, locals := 74 } (zPw g [.ref (q 0), .int (iI s9), .int (iI t9)] (cw g q u la NX n es) [] sz) (va_Qi (fun z w => ((¬ (0 ≤ s9 ∧ s9 ≤ 7) ∨ ¬ (0 ≤ t9 ∧ t9 ≤ 7)) ∧ z = iI (-2) ∧ w = cw g q u la NX n es) ∨ (¬ (¬ (0 ≤ s9 ∧ s9 ≤ 7) ∨ ¬ (0 ≤ t9 ∧ t9 ≤ 7)) ∧ ∃ (e2 : Nat → Int) (n2 : Nat), ((s9 = t9 ∧ e2 = es s9.toNat ∧ n2 = n s9.toNat) ∨ (¬ s9 = t9 ∧ IA (es s9.toNat) (n s9.toNat) (es t9.toNat) (n t9.toNat / 2) e2 n2)) ∧ z = iI ((n2 / 2 : Nat) : Int) ∧ w = cw g q u la NX (va_up n s9.toNat (n2)) (va_up es s9.toNat (e2)))) (zB g (va_A (cw g q u la NX n es) sz)) (va_A (cw g q u la NX n es) sz)) 0 0 (va_A (cw g q u la NX n es) sz) := by
  refine Met.ofW (cc := b_CS_join) (maxL := 3) (ret := (some .int)) (by decide) rfl ?_
  intro p e s m args below meth cd s₁ B hml hv
  obtain ⟨hargs, hsz, hP, hK, hD0, hZ, hO0, hAp⟩ := hv
  have hx := B.exec
  have hb := B.bytes
  have hr := B.returns
  have ht : ∀ w ∈ lw_ok, w.before args s = true := fun w h => atoms_spec (ws := w_CS_join) B.pre w (List.mem_cons_of_mem _ h)
  have hown : s.vm.findClass R_CS = some m.cls := findClass_of_methodNamed B.named
  have hlocks := B.notSynchronized
  subst hsz
  have hD := hD0.self (sz := s.heap.size)
  generalize hAe : va_A (cw g q u la NX n es) s.heap.size = A at hD hZ hAp ⊢
  have hA : ∀ q : Nat, s.heap.size ≤ q → A q := fun q h => by rw [← hAe]; exact Or.inr h
  have hS : va_S A s.heap s.heap [] := va_S.rf
  generalize hQ : MQ below _ args s 0 0 _ = Q
  have hl := lv_entry ([.ref (q 0), .int (iI s9), .int (iI t9)]) (n := 3) (Nat.le_of_ble_eq_true rfl)
  rw [show entryFrame m args 3 = entryFrame m ([.ref (q 0), .int (iI s9), .int (iI t9)] : List Value).toArray 3 by rw [hargs], lg_entry_eq]
  generalize (lg_sl ([.ref (q 0), .int (iI s9), .int (iI t9)]) ++ List.replicate (3 - (lg_sl ([.ref (q 0), .int (iI s9), .int (iI t9)])).length) Slot.unset).toArray = ls at hl ⊢
  have hl : lv_has ls 3 [(0, .ref (q 0)), (1, .int (iI s9)), (2, .int (iI t9))] := hl
  obtain ⟨H, locs, hHe, hLe⟩ : ∃ (H : Heap) (locs : List Loc), H = s.heap ∧ locs = [] := ⟨_, _, rfl, rfl⟩
  rw [show W p l e _ s m args below meth cd s.heap [] 0 0 Q = W p l e _ s m args below meth cd H locs 0 0 Q by rw [hHe, hLe]]
  rw [← hHe] at hP
  have hS : va_S A s.heap H locs := by rw [hHe, hLe]; exact hS
  refine lv_iload_n hx hb d_CS_join_0 rfl (lv_at hl 1 rfl) ?_
  refine zcS (As := [.int (iI s9)]) (rest := []) ⟨hx, hb, hml, hown, ht⟩ t_CS_45 (c_CS_isSet l g s9 (by omega)) ⟨Nat.le_of_ble_eq_true rfl, Nat.le_of_ble_eq_true rfl⟩ ⟨Nat.zero_le _, Nat.zero_le _⟩ hK hZ hS zP_nil rfl hl.1 rfl (Nat.le_of_ble_eq_true rfl) d_CS_join_1 (fun r_1 h_1 => ?_)
  rcases h_1 with ⟨h_1, rfl⟩ | ⟨h_1, rfl⟩
  · refine ix_if_eq (tgt := 14) hx hb d_CS_join_4 (by decide) (by omega) (fun c_4 => ?_) (fun c_4 => ?_)
    · exact absurd c_4 (by decide)
    · refine lv_iload_n hx hb d_CS_join_7 rfl (lv_at hl 2 rfl) ?_
      refine zcS (As := [.int (iI t9)]) (rest := []) ⟨hx, hb, hml, hown, ht⟩ t_CS_45 (c_CS_isSet l g t9 (by omega)) ⟨Nat.le_of_ble_eq_true rfl, Nat.le_of_ble_eq_true rfl⟩ ⟨Nat.zero_le _, Nat.zero_le _⟩ hK hZ hS zP_nil rfl hl.1 rfl (Nat.le_of_ble_eq_true rfl) d_CS_join_8 (fun r_8 h_8 => ?_)
      rcases h_8 with ⟨h_8, rfl⟩ | ⟨h_8, rfl⟩
      · refine ix_if_ne (tgt := 17) hx hb d_CS_join_11 (by decide) (by omega) (fun c_11 => ?_) (fun c_11 => ?_)
        · obtain ⟨sn, hsn⟩ : ∃ sn : Nat, s9 = ((sn : Nat) : Int) := ⟨s9.toNat, by omega⟩
          have hsnT : s9.toNat = sn := by omega
          rw [hsn] at hl
          obtain ⟨tn, htn⟩ : ∃ tn : Nat, t9 = ((tn : Nat) : Int) := ⟨t9.toNat, by omega⟩
          have htnT : t9.toNat = tn := by omega
          rw [htn] at hl
          by_cases hst : sn = tn
          · subst hst
            have hn9 := (hok sn (by omega)).2.1
            refine lv_aload_n hx hb d_CS_join_17 rfl (lv_at hl 0 rfl) ?_
            refine va_get (D := g.1) (ci := 0) (v := .ref (q 7)) (C := R_CS) (T := F_CS) (N := 6) hx hb ht i_CS hown hK hP 0 rfl rfl 4 (by decide) (ht _ k_105) (fun _ h9 => h9) rfl d_CS_join_18 ?_
            refine lv_iload_n hx hb d_CS_join_21 rfl (lv_at hl 1 rfl) ?_
            refine ix_aald hx hb hK hP 7 3 rfl rfl (i := (((sn : Nat) : Int))) (q (8 + 2 * sn)) sn (by omega) rfl d_CS_join_22 ?_
            refine lv_aload_n hx hb d_CS_join_23 rfl (lv_at hl 0 rfl) ?_
            refine va_get (D := g.1) (ci := 0) (v := .ref (q 7)) (C := R_CS) (T := F_CS) (N := 6) hx hb ht i_CS hown hK hP 0 rfl rfl 4 (by decide) (ht _ k_105) (fun _ h9 => h9) rfl d_CS_join_24 ?_
            refine lv_iload_n hx hb d_CS_join_27 rfl (lv_at hl 2 rfl) ?_
            refine ix_aald hx hb hK hP 7 3 rfl rfl (i := (((sn : Nat) : Int))) (q (8 + 2 * sn)) sn (by omega) rfl d_CS_join_28 ?_
            have hF_29 := cw_prF hD hS hA (k := sn) (by omega)
            refine zcVv (ci := 1) (q0 := 0) (As := [.ref (q (8 + 2 * sn))]) (rest := []) ⟨hx, hb, hml, hown, ht⟩ v_CS_85 (c_RG_insertAll_same l g H.size (q (8 + 2 * sn)) (q (9 + 2 * sn)) (n sn) (es sn)  ) ⟨Nat.le_of_ble_eq_true rfl, Nat.le_of_ble_eq_true rfl⟩ ⟨Nat.zero_le _, Nat.zero_le _⟩ hK hZ hS (cw_pr hP (k := sn) (by omega)) ((cw_prD hD (k := sn) (by omega)).weaken (fun _ _ _ _ => trivial)) hF_29 zP_nil zAp_nil rfl rfl rfl rfl hl.1 rfl (Nat.le_of_ble_eq_true rfl) d_CS_join_29 (fun w_29 H locs h_29 pp_29 dd_29 zz_29 kk_29 hS => ?_)
            subst h_29
            obtain ⟨hP, hD⟩ := cw_put hP hD (k := sn) (n1 := n sn) (e1 := es sn) (by omega) kk_29 hF_29 pp_29 dd_29
            obtain ⟨n29, hn29⟩ : ∃ f9, f9 = va_up n sn (n sn) := ⟨_, rfl⟩
            obtain ⟨e29, he29⟩ : ∃ f9, f9 = va_up es sn (es sn) := ⟨_, rfl⟩
            rw [← hn29, ← he29] at hP hD
            have n29k : n29 sn = n sn := by rw [hn29]; exact up_same _ _ _
            have e29k : e29 sn = es sn := by rw [he29]; exact up_same _ _ _
            refine lv_aload_n hx hb d_CS_join_32 rfl (lv_at hl 0 rfl) ?_
            refine va_get (D := g.1) (ci := 0) (v := .ref (q 7)) (C := R_CS) (T := F_CS) (N := 6) hx hb ht i_CS hown hK hP 0 rfl rfl 4 (by decide) (ht _ k_105) (fun _ h9 => h9) rfl d_CS_join_33 ?_
            refine lv_iload_n hx hb d_CS_join_36 rfl (lv_at hl 1 rfl) ?_
            refine ix_aald hx hb hK hP 7 3 rfl rfl (i := (((sn : Nat) : Int))) (q (8 + 2 * sn)) sn (by omega) rfl d_CS_join_37 ?_
            refine zcV (ci := 1) (q0 := 0) (As := []) (rest := []) ⟨hx, hb, hml, hown, ht⟩ v_CS_59 (c_RG_rangeCount l g (q (8 + 2 * sn)) (q (9 + 2 * sn)) (n29 sn) (e29 sn) (by rw [n29k]; omega)) ⟨Nat.le_of_ble_eq_true rfl, Nat.le_of_ble_eq_true rfl⟩ ⟨Nat.zero_le _, Nat.zero_le _⟩ hK hZ hS (cw_pr hP (k := sn) (by omega)) rfl rfl rfl rfl hl.1 rfl (Nat.le_of_ble_eq_true rfl) d_CS_join_38 (fun r_38 h_38 => ?_)
            subst h_38
            subst hQ
            exact W.iret (v := iI ((((n29 sn / 2) : Nat) : Int))) hx hb hr (fun t h9 hW => ⟨⟨_, _, rfl, by first | exact Or.inr ⟨by omega, es sn, n sn, Or.inl ⟨by omega, by rw [hsnT], by rw [hsnT]⟩, by rw [n29k], by rw [hsnT, hn29, he29]⟩ | exact Or.inr ⟨by omega, e2, n2, Or.inr ⟨by omega, by rw [hsnT, htnT]; exact hI⟩, by rw [n29k], by rw [hsnT, hn29, he29]⟩, by rw [h9]; exact hP, va_K.moved hW.alike hK, hD⟩, hS.F h9⟩) hS.2.2 d_CS_join_41
          · refine lv_aload_n hx hb d_CS_join_17 rfl (lv_at hl 0 rfl) ?_
            refine va_get (D := g.1) (ci := 0) (v := .ref (q 7)) (C := R_CS) (T := F_CS) (N := 6) hx hb ht i_CS hown hK hP 0 rfl rfl 4 (by decide) (ht _ k_105) (fun _ h9 => h9) rfl d_CS_join_18 ?_
            refine lv_iload_n hx hb d_CS_join_21 rfl (lv_at hl 1 rfl) ?_
            refine ix_aald hx hb hK hP 7 3 rfl rfl (i := (((sn : Nat) : Int))) (q (8 + 2 * sn)) sn (by omega) rfl d_CS_join_22 ?_
            refine lv_aload_n hx hb d_CS_join_23 rfl (lv_at hl 0 rfl) ?_
            refine va_get (D := g.1) (ci := 0) (v := .ref (q 7)) (C := R_CS) (T := F_CS) (N := 6) hx hb ht i_CS hown hK hP 0 rfl rfl 4 (by decide) (ht _ k_105) (fun _ h9 => h9) rfl d_CS_join_24 ?_
            refine lv_iload_n hx hb d_CS_join_27 rfl (lv_at hl 2 rfl) ?_
            refine ix_aald hx hb hK hP 7 3 rfl rfl (i := (((tn : Nat) : Int))) (q (8 + 2 * tn)) tn (by omega) rfl d_CS_join_28 ?_
            have hF_29 := cw_prF hD hS hA (k := sn) (by omega)
            refine zcVv (ci := 1) (q0 := 0) (As := [.ref (q (8 + 2 * tn))]) (rest := []) ⟨hx, hb, hml, hown, ht⟩ v_CS_85 (c_RG_insertAll l g H.size (q (8 + 2 * sn)) (q (9 + 2 * sn)) (n sn) (es sn) (q (8 + 2 * tn)) (q (9 + 2 * tn)) (n tn) (es tn) (hok sn (by omega)).1 (by have := (hok sn (by omega)).2.1; omega) (hok sn (by omega)).2.2 (hok tn (by omega)).1 (by have := (hok tn (by omega)).2.1; omega) (hok tn (by omega)).2.2 Bs (hBs sn (by omega)) (hBs tn (by omega)) (by omega)) ⟨Nat.le_of_ble_eq_true rfl, Nat.le_of_ble_eq_true rfl⟩ ⟨Nat.zero_le _, Nat.zero_le _⟩ hK hZ hS (cw_pr hP (k := sn) (by omega)) ((cw_prD hD (k := sn) (by omega)).weaken (fun _ _ _ _ => trivial)) hF_29 (cw_pr hP (k := tn) (by omega)) (cw_ap hP hD (s := sn) (t := tn) (by omega) (by omega) hst) rfl rfl rfl rfl hl.1 rfl (Nat.le_of_ble_eq_true rfl) d_CS_join_29 (fun w_29 H locs h_29 pp_29 dd_29 zz_29 kk_29 hS => ?_)
            obtain ⟨e2, n2, rfl, hI⟩ := h_29
            have hL2 := IA_len hI Bs (hok sn (by omega)).1 (hBs sn (by omega)) (hBs tn (by omega)) (by have := (hok tn (by omega)).2.1; omega)
            obtain ⟨hP, hD⟩ := cw_put hP hD (k := sn) (n1 := n2) (e1 := e2) (by omega) kk_29 hF_29 pp_29 dd_29
            obtain ⟨n29, hn29⟩ : ∃ f9, f9 = va_up n sn (n2) := ⟨_, rfl⟩
            obtain ⟨e29, he29⟩ : ∃ f9, f9 = va_up es sn (e2) := ⟨_, rfl⟩
            rw [← hn29, ← he29] at hP hD
            have n29k : n29 sn = n2 := by rw [hn29]; exact up_same _ _ _
            have e29k : e29 sn = e2 := by rw [he29]; exact up_same _ _ _
            refine lv_aload_n hx hb d_CS_join_32 rfl (lv_at hl 0 rfl) ?_
            refine va_get (D := g.1) (ci := 0) (v := .ref (q 7)) (C := R_CS) (T := F_CS) (N := 6) hx hb ht i_CS hown hK hP 0 rfl rfl 4 (by decide) (ht _ k_105) (fun _ h9 => h9) rfl d_CS_join_33 ?_
            refine lv_iload_n hx hb d_CS_join_36 rfl (lv_at hl 1 rfl) ?_
            refine ix_aald hx hb hK hP 7 3 rfl rfl (i := (((sn : Nat) : Int))) (q (8 + 2 * sn)) sn (by omega) rfl d_CS_join_37 ?_
            refine zcV (ci := 1) (q0 := 0) (As := []) (rest := []) ⟨hx, hb, hml, hown, ht⟩ v_CS_59 (c_RG_rangeCount l g (q (8 + 2 * sn)) (q (9 + 2 * sn)) (n29 sn) (e29 sn) (by rw [n29k]; omega)) ⟨Nat.le_of_ble_eq_true rfl, Nat.le_of_ble_eq_true rfl⟩ ⟨Nat.zero_le _, Nat.zero_le _⟩ hK hZ hS (cw_pr hP (k := sn) (by omega)) rfl rfl rfl rfl hl.1 rfl (Nat.le_of_ble_eq_true rfl) d_CS_join_38 (fun r_38 h_38 => ?_)
            subst h_38
            subst hQ
            exact W.iret (v := iI ((((n29 sn / 2) : Nat) : Int))) hx hb hr (fun t h9 hW => ⟨⟨_, _, rfl, by first | exact Or.inr ⟨by omega, es sn, n sn, Or.inl ⟨by omega, by rw [hsnT], by rw [hsnT]⟩, by rw [n29k], by rw [hsnT, hn29, he29]⟩ | exact Or.inr ⟨by omega, e2, n2, Or.inr ⟨by omega, by rw [hsnT, htnT]; exact hI⟩, by rw [n29k], by rw [hsnT, hn29, he29]⟩, by rw [h9]; exact hP, va_K.moved hW.alike hK, hD⟩, hS.F h9⟩) hS.2.2 d_CS_join_41
        · exact absurd c_11 (by decide)
      · refine ix_if_ne (tgt := 17) hx hb d_CS_join_11 (by decide) (by omega) (fun c_11 => ?_) (fun c_11 => ?_)
        · exact absurd c_11 (by decide)
        · refine lv_bipush (v := iI (-2)) hx hb d_CS_join_14 (by decide) ?_
          subst hQ
          exact W.iret (v := iI ((-2))) hx hb hr (fun t h9 hW => ⟨⟨_, _, rfl, Or.inl ⟨by omega, rfl, rfl⟩, by rw [h9]; exact hP, va_K.moved hW.alike hK, hD⟩, hS.F h9⟩) hS.2.2 d_CS_join_16
  · refine ix_if_eq (tgt := 14) hx hb d_CS_join_4 (by decide) (by omega) (fun c_4 => ?_) (fun c_4 => ?_)
    · refine lv_bipush (v := iI (-2)) hx hb d_CS_join_14 (by decide) ?_
      subst hQ
      exact W.iret (v := iI ((-2))) hx hb hr (fun t h9 hW => ⟨⟨_, _, rfl, Or.inl ⟨by omega, rfl, rfl⟩, by rw [h9]; exact hP, va_K.moved hW.alike hK, hD⟩, hS.F h9⟩) hS.2.2 d_CS_join_16
    · exact absurd c_4 (by decide)
