set_option maxHeartbeats 4000000 in
set_option maxRecDepth 100000 in
theorem c_CS_isSet (l : Launch) (g : zG) (s9 : Int) (hs9 : -2147483648 ≤ s9 ∧ s9 ≤ 2147483647)  : Met l y_CS_isSet w_CS_isSet (zr 0 0) (zP g [.int (iI s9)] ([])) (vp_Si (fun z => ((0 ≤ s9 ∧ s9 ≤ 7) ∧ z = iI 1) ∨ (¬ (0 ≤ s9 ∧ s9 ≤ 7) ∧ z = iI 0))) 0 0 (fun _ => False) := by
  refine Met.ofW (cc := b_CS_isSet) (maxL := 1) (ret := (some .boolean)) (by decide) rfl ?_
  intro p e s m args below meth cd s₁ B hml hv
  obtain ⟨hargs, hP, hK, hZ⟩ := hv
  have hx := B.exec
  have hb := B.bytes
  have hr := B.returns
  have ht : ∀ w ∈ lw_ok, w.before args s = true := fun w h => atoms_spec (ws := w_CS_isSet) B.pre w (List.mem_cons_of_mem _ h)
  have hown : s.vm.findClass R_CS = some m.cls := findClass_of_methodNamed B.named
  have hlocks := B.notSynchronized
  have hS : va_S (fun _ => False) s.heap s.heap [] := va_S.rf
  generalize hQ : MQ below _ args s 0 0 _ = Q
  have hl := lv_entry ([.int (iI s9)]) (n := 1) (Nat.le_of_ble_eq_true rfl)
  rw [show entryFrame m args 1 = entryFrame m ([.int (iI s9)] : List Value).toArray 1 by rw [hargs], lg_entry_eq]
  generalize (lg_sl ([.int (iI s9)]) ++ List.replicate (1 - (lg_sl ([.int (iI s9)])).length) Slot.unset).toArray = ls at hl ⊢
  have hl : lv_has ls 1 [(0, .int (iI s9))] := hl
  refine lv_iload_n hx hb d_CS_isSet_0 rfl (lv_at hl 0 rfl) ?_
  refine ix_if_lt (tgt := 14) hx hb d_CS_isSet_1 (by decide) (by omega) (fun c_1 => ?_) (fun c_1 => ?_)
  · refine lv_iconst (v := iI 0) hx hb d_CS_isSet_14 rfl ?_
    subst hQ
    exact W.zret (v := iI 0) hx hb hr (by decide) (fun t h9 hW => ⟨_, rfl, Or.inr ⟨by omega, rfl⟩, h9⟩) (fun _ h9 => by cases h9) d_CS_isSet_15
  · refine lv_iload_n hx hb d_CS_isSet_4 rfl (lv_at hl 0 rfl) ?_
    refine lv_bipush (v := iI 8) hx hb d_CS_isSet_5 (by decide) ?_
    refine ix_icmp_ge (tgt := 14) hx hb d_CS_isSet_7 (by decide) (by omega) (fun c_7 => ?_) (fun c_7 => ?_)
    · refine lv_iconst (v := iI 0) hx hb d_CS_isSet_14 rfl ?_
      subst hQ
      exact W.zret (v := iI 0) hx hb hr (by decide) (fun t h9 hW => ⟨_, rfl, Or.inr ⟨by omega, rfl⟩, h9⟩) (fun _ h9 => by cases h9) d_CS_isSet_15
    · refine lv_iconst (v := iI 1) hx hb d_CS_isSet_10 rfl ?_
      refine lv_goto (tgt := 15) hx hb d_CS_isSet_11 (by decide) ?_
      subst hQ
      exact W.zret (v := iI 1) hx hb hr (by decide) (fun t h9 hW => ⟨_, rfl, Or.inl ⟨by omega, rfl⟩, h9⟩) (fun _ h9 => by cases h9) d_CS_isSet_15
set_option maxHeartbeats 4000000 in
set_option maxRecDepth 100000 in
theorem c_CS_isThere (l : Launch) (g : zG) (q : Nat → Nat) (u la : Int) (NX : Nat → Int) (n : Nat → Nat) (es : Nat → Nat → Int) (c : Int) (hc : -2147483648 ≤ c ∧ c ≤ 2147483647) (hla : 0 ≤ la ∧ la ≤ 1114111) : Met l y_CS_isThere w_CS_isThere (zr 0 0) (zP g [.ref (q 0), .int (iI c)] (cw g q u la NX n es)) (vp_Si (fun z => ((0 ≤ c ∧ c ≤ la) ∧ z = iI 1) ∨ (¬ (0 ≤ c ∧ c ≤ la) ∧ z = iI 0))) 0 0 (fun _ => False) := by
  refine Met.ofW (cc := b_CS_isThere) (maxL := 2) (ret := (some .boolean)) (by decide) rfl ?_
  intro p e s m args below meth cd s₁ B hml hv
  obtain ⟨hargs, hP, hK, hZ⟩ := hv
  have hx := B.exec
  have hb := B.bytes
  have hr := B.returns
  have ht : ∀ w ∈ lw_ok, w.before args s = true := fun w h => atoms_spec (ws := w_CS_isThere) B.pre w (List.mem_cons_of_mem _ h)
  have hown : s.vm.findClass R_CS = some m.cls := findClass_of_methodNamed B.named
  have hlocks := B.notSynchronized
  have hS : va_S (fun _ => False) s.heap s.heap [] := va_S.rf
  generalize hQ : MQ below _ args s 0 0 _ = Q
  have hl := lv_entry ([.ref (q 0), .int (iI c)]) (n := 2) (Nat.le_of_ble_eq_true rfl)
  rw [show entryFrame m args 2 = entryFrame m ([.ref (q 0), .int (iI c)] : List Value).toArray 2 by rw [hargs], lg_entry_eq]
  generalize (lg_sl ([.ref (q 0), .int (iI c)]) ++ List.replicate (2 - (lg_sl ([.ref (q 0), .int (iI c)])).length) Slot.unset).toArray = ls at hl ⊢
  have hl : lv_has ls 2 [(0, .ref (q 0)), (1, .int (iI c))] := hl
  refine lv_iload_n hx hb d_CS_isThere_0 rfl (lv_at hl 1 rfl) ?_
  refine ix_if_lt (tgt := 16) hx hb d_CS_isThere_1 (by decide) (by omega) (fun c_1 => ?_) (fun c_1 => ?_)
  · refine lv_iconst (v := iI 0) hx hb d_CS_isThere_16 rfl ?_
    subst hQ
    exact W.zret (v := iI 0) hx hb hr (by decide) (fun t h9 hW => ⟨_, rfl, Or.inr ⟨by omega, rfl⟩, h9⟩) (fun _ h9 => by cases h9) d_CS_isThere_17
  · refine lv_iload_n hx hb d_CS_isThere_4 rfl (lv_at hl 1 rfl) ?_
    refine lv_aload_n hx hb d_CS_isThere_5 rfl (lv_at hl 0 rfl) ?_
    refine va_get (D := g.1) (ci := 0) (v := .int (iI la)) (C := R_CS) (T := F_CS) (N := 6) hx hb ht i_CS hown hK hP 0 rfl rfl 1 (by decide) (ht _ k_102) (fun _ h9 => h9) rfl d_CS_isThere_6 ?_
    refine ix_icmp_gt (tgt := 16) hx hb d_CS_isThere_9 (by decide) (by omega) (fun c_9 => ?_) (fun c_9 => ?_)
    · refine lv_iconst (v := iI 0) hx hb d_CS_isThere_16 rfl ?_
      subst hQ
      exact W.zret (v := iI 0) hx hb hr (by decide) (fun t h9 hW => ⟨_, rfl, Or.inr ⟨by omega, rfl⟩, h9⟩) (fun _ h9 => by cases h9) d_CS_isThere_17
    · refine lv_iconst (v := iI 1) hx hb d_CS_isThere_12 rfl ?_
      refine lv_goto (tgt := 17) hx hb d_CS_isThere_13 (by decide) ?_
      subst hQ
      exact W.zret (v := iI 1) hx hb hr (by decide) (fun t h9 hW => ⟨_, rfl, Or.inl ⟨by omega, rfl⟩, h9⟩) (fun _ h9 => by cases h9) d_CS_isThere_17
set_option maxHeartbeats 4000000 in
set_option maxRecDepth 100000 in
theorem c_CS_has (l : Launch) (g : zG) (q : Nat → Nat) (u la : Int) (NX : Nat → Int) (n : Nat → Nat) (es : Nat → Nat → Int) (s9 c : Int) (hs9 : -2147483648 ≤ s9 ∧ s9 ≤ 2147483647) (hc : -2147483648 ≤ c ∧ c ≤ 2147483647) (hok : ∀ k, k < 9 → asc (es k) (n k) ∧ n k ≤ 2046 ∧ ∀ i, i < n k → 0 ≤ es k i ∧ es k i ≤ 1114112) : Met l y_CS_has w_CS_has (zr 2 45) (zP g [.ref (q 0), .int (iI s9), .int (iI c)] (cw g q u la NX n es)) (vp_Si (fun z => ((¬ (0 ≤ s9 ∧ s9 ≤ 7)) ∧ z = iI (-2)) ∨ (¬ (¬ (0 ≤ s9 ∧ s9 ≤ 7)) ∧ (((∃ k, Up (es s9.toNat) (n s9.toNat) c k ∧ k % 2 = 1) ∧ z = iI 1) ∨ (¬ (∃ k, Up (es s9.toNat) (n s9.toNat) c k ∧ k % 2 = 1) ∧ z = iI 0))))) 0 0 (fun _ => False) := by
  refine Met.ofW (cc := b_CS_has) (maxL := 3) (ret := (some .int)) (by decide) rfl ?_
  intro p e s m args below meth cd s₁ B hml hv
  obtain ⟨hargs, hP, hK, hZ⟩ := hv
  have hx := B.exec
  have hb := B.bytes
  have hr := B.returns
  have ht : ∀ w ∈ lw_ok, w.before args s = true := fun w h => atoms_spec (ws := w_CS_has) B.pre w (List.mem_cons_of_mem _ h)
  have hown : s.vm.findClass R_CS = some m.cls := findClass_of_methodNamed B.named
  have hlocks := B.notSynchronized
  have hS : va_S (fun _ => False) s.heap s.heap [] := va_S.rf
  generalize hQ : MQ below _ args s 0 0 _ = Q
  have hl := lv_entry ([.ref (q 0), .int (iI s9), .int (iI c)]) (n := 3) (Nat.le_of_ble_eq_true rfl)
  rw [show entryFrame m args 3 = entryFrame m ([.ref (q 0), .int (iI s9), .int (iI c)] : List Value).toArray 3 by rw [hargs], lg_entry_eq]
  generalize (lg_sl ([.ref (q 0), .int (iI s9), .int (iI c)]) ++ List.replicate (3 - (lg_sl ([.ref (q 0), .int (iI s9), .int (iI c)])).length) Slot.unset).toArray = ls at hl ⊢
  have hl : lv_has ls 3 [(0, .ref (q 0)), (1, .int (iI s9)), (2, .int (iI c))] := hl
  refine lv_iload_n hx hb d_CS_has_0 rfl (lv_at hl 1 rfl) ?_
  refine zcS (As := [.int (iI s9)]) (rest := []) ⟨hx, hb, hml, hown, ht⟩ t_CS_45 (c_CS_isSet l g s9 (by omega)) ⟨Nat.le_of_ble_eq_true rfl, Nat.le_of_ble_eq_true rfl⟩ ⟨Nat.zero_le _, Nat.zero_le _⟩ hK hZ hS zP_nil rfl hl.1 rfl (Nat.le_of_ble_eq_true rfl) d_CS_has_1 (fun r_1 h_1 => ?_)
  rcases h_1 with ⟨h_1, rfl⟩ | ⟨h_1, rfl⟩
  · refine ix_if_ne (tgt := 10) hx hb d_CS_has_4 (by decide) (by omega) (fun c_4 => ?_) (fun c_4 => ?_)
    · obtain ⟨sn, hsn⟩ : ∃ sn : Nat, s9 = ((sn : Nat) : Int) := ⟨s9.toNat, by omega⟩
      have hsnT : s9.toNat = sn := by omega
      rw [hsn] at hl
      refine lv_aload_n hx hb d_CS_has_10 rfl (lv_at hl 0 rfl) ?_
      refine va_get (D := g.1) (ci := 0) (v := .ref (q 7)) (C := R_CS) (T := F_CS) (N := 6) hx hb ht i_CS hown hK hP 0 rfl rfl 4 (by decide) (ht _ k_105) (fun _ h9 => h9) rfl d_CS_has_11 ?_
      refine lv_iload_n hx hb d_CS_has_14 rfl (lv_at hl 1 rfl) ?_
      refine ix_aald hx hb hK hP 7 3 rfl rfl (i := (((sn : Nat) : Int))) (q (8 + 2 * sn)) sn (by omega) rfl d_CS_has_15 ?_
      refine lv_iload_n hx hb d_CS_has_16 rfl (lv_at hl 2 rfl) ?_
      refine zcV (ci := 1) (q0 := 0) (As := [.int (iI c)]) (rest := []) ⟨hx, hb, hml, hown, ht⟩ v_CS_96 (c_RG_contains l g (q (8 + 2 * sn)) (q (9 + 2 * sn)) (n sn) (es sn) c (hok sn (by omega)).1 (by have := (hok sn (by omega)).2.1; omega) (hok sn (by omega)).2.2 (by omega)) ⟨Nat.le_of_ble_eq_true rfl, Nat.le_of_ble_eq_true rfl⟩ ⟨Nat.zero_le _, Nat.zero_le _⟩ hK hZ hS (cw_pr hP (k := sn) (by omega)) rfl rfl rfl rfl hl.1 rfl (Nat.le_of_ble_eq_true rfl) d_CS_has_17 (fun r_17 h_17 => ?_)
      rcases h_17 with ⟨h_17, rfl⟩ | ⟨h_17, rfl⟩
      · refine ix_if_eq (tgt := 27) hx hb d_CS_has_20 (by decide) (by omega) (fun c_20 => ?_) (fun c_20 => ?_)
        · exact absurd c_20 (by decide)
        · refine lv_iconst (v := iI 1) hx hb d_CS_has_23 rfl ?_
          refine lv_goto (tgt := 28) hx hb d_CS_has_24 (by decide) ?_
          subst hQ
          exact W.iret (v := iI 1) hx hb hr (fun t h9 hW => ⟨_, rfl, Or.inr ⟨by omega, Or.inl ⟨by rw [hsnT]; exact h_17, rfl⟩⟩, h9⟩) (fun _ h9 => by cases h9) d_CS_has_28
      · refine ix_if_eq (tgt := 27) hx hb d_CS_has_20 (by decide) (by omega) (fun c_20 => ?_) (fun c_20 => ?_)
        · refine lv_iconst (v := iI 0) hx hb d_CS_has_27 rfl ?_
          subst hQ
          exact W.iret (v := iI 0) hx hb hr (fun t h9 hW => ⟨_, rfl, Or.inr ⟨by omega, Or.inr ⟨by rw [hsnT]; exact h_17, rfl⟩⟩, h9⟩) (fun _ h9 => by cases h9) d_CS_has_28
        · exact absurd c_20 (by decide)
    · exact absurd c_4 (by decide)
  · refine ix_if_ne (tgt := 10) hx hb d_CS_has_4 (by decide) (by omega) (fun c_4 => ?_) (fun c_4 => ?_)
    · exact absurd c_4 (by decide)
    · refine lv_bipush (v := iI (-2)) hx hb d_CS_has_7 (by decide) ?_
      subst hQ
      exact W.iret (v := iI ((-2))) hx hb hr (fun t h9 hW => ⟨_, rfl, Or.inl ⟨by omega, rfl⟩, h9⟩) (fun _ h9 => by cases h9) d_CS_has_9
set_option maxHeartbeats 4000000 in
set_option maxRecDepth 100000 in
theorem c_CS_size (l : Launch) (g : zG) (q : Nat → Nat) (u la : Int) (NX : Nat → Int) (n : Nat → Nat) (es : Nat → Nat → Int) (s9 : Int) (hs9 : -2147483648 ≤ s9 ∧ s9 ≤ 2147483647) (hok : ∀ k, k < 9 → asc (es k) (n k) ∧ n k ≤ 2046 ∧ ∀ i, i < n k → 0 ≤ es k i ∧ es k i ≤ 1114112) : Met l y_CS_size w_CS_size (zr 1 22) (zP g [.ref (q 0), .int (iI s9)] (cw g q u la NX n es)) (vp_Si (fun z => ((¬ (0 ≤ s9 ∧ s9 ≤ 7)) ∧ z = iI (-2)) ∨ (¬ (¬ (0 ≤ s9 ∧ s9 ≤ 7)) ∧ z = iI (msum (es s9.toNat) (n s9.toNat / 2))))) 0 0 (fun _ => False) := by
  refine Met.ofW (cc := b_CS_size) (maxL := 2) (ret := (some .int)) (by decide) rfl ?_
  intro p e s m args below meth cd s₁ B hml hv
  obtain ⟨hargs, hP, hK, hZ⟩ := hv
  have hx := B.exec
  have hb := B.bytes
  have hr := B.returns
  have ht : ∀ w ∈ lw_ok, w.before args s = true := fun w h => atoms_spec (ws := w_CS_size) B.pre w (List.mem_cons_of_mem _ h)
  have hown : s.vm.findClass R_CS = some m.cls := findClass_of_methodNamed B.named
  have hlocks := B.notSynchronized
  have hS : va_S (fun _ => False) s.heap s.heap [] := va_S.rf
  generalize hQ : MQ below _ args s 0 0 _ = Q
  have hl := lv_entry ([.ref (q 0), .int (iI s9)]) (n := 2) (Nat.le_of_ble_eq_true rfl)
  rw [show entryFrame m args 2 = entryFrame m ([.ref (q 0), .int (iI s9)] : List Value).toArray 2 by rw [hargs], lg_entry_eq]
  generalize (lg_sl ([.ref (q 0), .int (iI s9)]) ++ List.replicate (2 - (lg_sl ([.ref (q 0), .int (iI s9)])).length) Slot.unset).toArray = ls at hl ⊢
  have hl : lv_has ls 2 [(0, .ref (q 0)), (1, .int (iI s9))] := hl
  refine lv_iload_n hx hb d_CS_size_0 rfl (lv_at hl 1 rfl) ?_
  refine zcS (As := [.int (iI s9)]) (rest := []) ⟨hx, hb, hml, hown, ht⟩ t_CS_45 (c_CS_isSet l g s9 (by omega)) ⟨Nat.le_of_ble_eq_true rfl, Nat.le_of_ble_eq_true rfl⟩ ⟨Nat.zero_le _, Nat.zero_le _⟩ hK hZ hS zP_nil rfl hl.1 rfl (Nat.le_of_ble_eq_true rfl) d_CS_size_1 (fun r_1 h_1 => ?_)
  rcases h_1 with ⟨h_1, rfl⟩ | ⟨h_1, rfl⟩
  · refine ix_if_ne (tgt := 10) hx hb d_CS_size_4 (by decide) (by omega) (fun c_4 => ?_) (fun c_4 => ?_)
    · obtain ⟨sn, hsn⟩ : ∃ sn : Nat, s9 = ((sn : Nat) : Int) := ⟨s9.toNat, by omega⟩
      have hsnT : s9.toNat = sn := by omega
      rw [hsn] at hl
      refine lv_aload_n hx hb d_CS_size_10 rfl (lv_at hl 0 rfl) ?_
      refine va_get (D := g.1) (ci := 0) (v := .ref (q 7)) (C := R_CS) (T := F_CS) (N := 6) hx hb ht i_CS hown hK hP 0 rfl rfl 4 (by decide) (ht _ k_105) (fun _ h9 => h9) rfl d_CS_size_11 ?_
      refine lv_iload_n hx hb d_CS_size_14 rfl (lv_at hl 1 rfl) ?_
      refine ix_aald hx hb hK hP 7 3 rfl rfl (i := (((sn : Nat) : Int))) (q (8 + 2 * sn)) sn (by omega) rfl d_CS_size_15 ?_
      refine zcV (ci := 1) (q0 := 0) (As := []) (rest := []) ⟨hx, hb, hml, hown, ht⟩ v_CS_99 (c_RG_memberCount l g (q (8 + 2 * sn)) (q (9 + 2 * sn)) (n sn) (es sn)  (hok sn (by omega)).1 (by have := (hok sn (by omega)).2.1; omega) (hok sn (by omega)).2.2) ⟨Nat.le_of_ble_eq_true rfl, Nat.le_of_ble_eq_true rfl⟩ ⟨Nat.zero_le _, Nat.zero_le _⟩ hK hZ hS (cw_pr hP (k := sn) (by omega)) rfl rfl rfl rfl hl.1 rfl (Nat.le_of_ble_eq_true rfl) d_CS_size_16 (fun r_16 h_16 => ?_)
      subst h_16
      subst hQ
      exact W.iret (v := iI (msum (es sn) (n sn / 2))) hx hb hr (fun t h9 hW => ⟨_, rfl, Or.inr ⟨by omega, by rw [hsnT]⟩, h9⟩) (fun _ h9 => by cases h9) d_CS_size_19
    · exact absurd c_4 (by decide)
  · refine ix_if_ne (tgt := 10) hx hb d_CS_size_4 (by decide) (by omega) (fun c_4 => ?_) (fun c_4 => ?_)
    · exact absurd c_4 (by decide)
    · refine lv_bipush (v := iI (-2)) hx hb d_CS_size_7 (by decide) ?_
      subst hQ
      exact W.iret (v := iI ((-2))) hx hb hr (fun t h9 hW => ⟨_, rfl, Or.inl ⟨by omega, rfl⟩, h9⟩) (fun _ h9 => by cases h9) d_CS_size_9
set_option maxHeartbeats 4000000 in
set_option maxRecDepth 100000 in
theorem c_CS_least (l : Launch) (g : zG) (q : Nat → Nat) (u la : Int) (NX : Nat → Int) (n : Nat → Nat) (es : Nat → Nat → Int) (s9 c : Int) (hs9 : -2147483648 ≤ s9 ∧ s9 ≤ 2147483647) (hc : -2147483648 ≤ c ∧ c ≤ 2147483647) (hok : ∀ k, k < 9 → asc (es k) (n k) ∧ n k ≤ 2046 ∧ ∀ i, i < n k → 0 ≤ es k i ∧ es k i ≤ 1114112) : Met l y_CS_least w_CS_least (zr 2 46) (zP g [.ref (q 0), .int (iI s9), .int (iI c)] (cw g q u la NX n es)) (vp_Si (fun z => ((¬ (0 ≤ s9 ∧ s9 ≤ 7)) ∧ z = iI (-2)) ∨ (¬ (¬ (0 ≤ s9 ∧ s9 ≤ 7)) ∧ ∃ m9 : Int, z = iI m9 ∧ FF (es s9.toNat) (n s9.toNat) c m9))) 0 0 (fun _ => False) := by
  refine Met.ofW (cc := b_CS_least) (maxL := 3) (ret := (some .int)) (by decide) rfl ?_
  intro p e s m args below meth cd s₁ B hml hv
  obtain ⟨hargs, hP, hK, hZ⟩ := hv
  have hx := B.exec
  have hb := B.bytes
  have hr := B.returns
  have ht : ∀ w ∈ lw_ok, w.before args s = true := fun w h => atoms_spec (ws := w_CS_least) B.pre w (List.mem_cons_of_mem _ h)
  have hown : s.vm.findClass R_CS = some m.cls := findClass_of_methodNamed B.named
  have hlocks := B.notSynchronized
  have hS : va_S (fun _ => False) s.heap s.heap [] := va_S.rf
  generalize hQ : MQ below _ args s 0 0 _ = Q
  have hl := lv_entry ([.ref (q 0), .int (iI s9), .int (iI c)]) (n := 3) (Nat.le_of_ble_eq_true rfl)
  rw [show entryFrame m args 3 = entryFrame m ([.ref (q 0), .int (iI s9), .int (iI c)] : List Value).toArray 3 by rw [hargs], lg_entry_eq]
  generalize (lg_sl ([.ref (q 0), .int (iI s9), .int (iI c)]) ++ List.replicate (3 - (lg_sl ([.ref (q 0), .int (iI s9), .int (iI c)])).length) Slot.unset).toArray = ls at hl ⊢
  have hl : lv_has ls 3 [(0, .ref (q 0)), (1, .int (iI s9)), (2, .int (iI c))] := hl
  refine lv_iload_n hx hb d_CS_least_0 rfl (lv_at hl 1 rfl) ?_
  refine zcS (As := [.int (iI s9)]) (rest := []) ⟨hx, hb, hml, hown, ht⟩ t_CS_45 (c_CS_isSet l g s9 (by omega)) ⟨Nat.le_of_ble_eq_true rfl, Nat.le_of_ble_eq_true rfl⟩ ⟨Nat.zero_le _, Nat.zero_le _⟩ hK hZ hS zP_nil rfl hl.1 rfl (Nat.le_of_ble_eq_true rfl) d_CS_least_1 (fun r_1 h_1 => ?_)
  rcases h_1 with ⟨h_1, rfl⟩ | ⟨h_1, rfl⟩
  · refine ix_if_ne (tgt := 10) hx hb d_CS_least_4 (by decide) (by omega) (fun c_4 => ?_) (fun c_4 => ?_)
    · obtain ⟨sn, hsn⟩ : ∃ sn : Nat, s9 = ((sn : Nat) : Int) := ⟨s9.toNat, by omega⟩
      have hsnT : s9.toNat = sn := by omega
      rw [hsn] at hl
      refine lv_aload_n hx hb d_CS_least_10 rfl (lv_at hl 0 rfl) ?_
      refine va_get (D := g.1) (ci := 0) (v := .ref (q 7)) (C := R_CS) (T := F_CS) (N := 6) hx hb ht i_CS hown hK hP 0 rfl rfl 4 (by decide) (ht _ k_105) (fun _ h9 => h9) rfl d_CS_least_11 ?_
      refine lv_iload_n hx hb d_CS_least_14 rfl (lv_at hl 1 rfl) ?_
      refine ix_aald hx hb hK hP 7 3 rfl rfl (i := (((sn : Nat) : Int))) (q (8 + 2 * sn)) sn (by omega) rfl d_CS_least_15 ?_
      refine lv_iload_n hx hb d_CS_least_16 rfl (lv_at hl 2 rfl) ?_
      refine zcV (ci := 1) (q0 := 0) (As := [.int (iI c)]) (rest := []) ⟨hx, hb, hml, hown, ht⟩ v_CS_102 (c_RG_firstFrom l g (q (8 + 2 * sn)) (q (9 + 2 * sn)) (n sn) (es sn) c (hok sn (by omega)).1 (by have := (hok sn (by omega)).2.1; omega) (hok sn (by omega)).2.2 (by omega)) ⟨Nat.le_of_ble_eq_true rfl, Nat.le_of_ble_eq_true rfl⟩ ⟨Nat.zero_le _, Nat.zero_le _⟩ hK hZ hS (cw_pr hP (k := sn) (by omega)) rfl rfl rfl rfl hl.1 rfl (Nat.le_of_ble_eq_true rfl) d_CS_least_17 (fun r_17 h_17 => ?_)
      obtain ⟨m9, rfl, hm9, -, -⟩ := h_17
      subst hQ
      exact W.iret (v := iI m9) hx hb hr (fun t h9 hW => ⟨_, rfl, Or.inr ⟨by omega, m9, rfl, by rw [hsnT]; exact hm9⟩, h9⟩) (fun _ h9 => by cases h9) d_CS_least_20
    · exact absurd c_4 (by decide)
  · refine ix_if_ne (tgt := 10) hx hb d_CS_least_4 (by decide) (by omega) (fun c_4 => ?_) (fun c_4 => ?_)
    · exact absurd c_4 (by decide)
    · refine lv_bipush (v := iI (-2)) hx hb d_CS_least_7 (by decide) ?_
      subst hQ
      exact W.iret (v := iI ((-2))) hx hb hr (fun t h9 hW => ⟨_, rfl, Or.inl ⟨by omega, rfl⟩, h9⟩) (fun _ h9 => by cases h9) d_CS_least_9
set_option maxHeartbeats 4000000 in
set_option maxRecDepth 100000 in
theorem c_CS_bound (l : Launch) (g : zG) (q : Nat → Nat) (u la : Int) (NX : Nat → Int) (n : Nat → Nat) (es : Nat → Nat → Int) (s9 k en : Int) (hs9 : -2147483648 ≤ s9 ∧ s9 ≤ 2147483647) (hk : -2147483648 ≤ k ∧ k ≤ 2147483647) (hen : en = 0 ∨ en = 1) (hok : ∀ k, k < 9 → asc (es k) (n k) ∧ n k ≤ 2046 ∧ ∀ i, i < n k → 0 ≤ es k i ∧ es k i ≤ 1114112) : Met l y_CS_bound w_CS_bound (zr 1 21) (zP g [.ref (q 0), .int (iI s9), .int (iI k), .int (iI en)] (cw g q u la NX n es)) (vp_Si (fun z => ((¬ (0 ≤ s9 ∧ s9 ≤ 7) ∨ k < 0 ∨ ((n s9.toNat / 2 : Nat) : Int) ≤ k) ∧ z = iI (-2)) ∨ (¬ (¬ (0 ≤ s9 ∧ s9 ≤ 7) ∨ k < 0 ∨ ((n s9.toNat / 2 : Nat) : Int) ≤ k) ∧ ((en = 0 ∧ z = iI (es s9.toNat (2 * k.toNat))) ∨ (¬ en = 0 ∧ z = iI (es s9.toNat (2 * k.toNat + 1) - 1)))))) 0 0 (fun _ => False) := by
  refine Met.ofW (cc := b_CS_bound) (maxL := 4) (ret := (some .int)) (by decide) rfl ?_
  intro p e s m args below meth cd s₁ B hml hv
  obtain ⟨hargs, hP, hK, hZ⟩ := hv
  have hx := B.exec
  have hb := B.bytes
  have hr := B.returns
  have ht : ∀ w ∈ lw_ok, w.before args s = true := fun w h => atoms_spec (ws := w_CS_bound) B.pre w (List.mem_cons_of_mem _ h)
  have hown : s.vm.findClass R_CS = some m.cls := findClass_of_methodNamed B.named
  have hlocks := B.notSynchronized
  have hS : va_S (fun _ => False) s.heap s.heap [] := va_S.rf
  generalize hQ : MQ below _ args s 0 0 _ = Q
  have hl := lv_entry ([.ref (q 0), .int (iI s9), .int (iI k), .int (iI en)]) (n := 4) (Nat.le_of_ble_eq_true rfl)
  rw [show entryFrame m args 4 = entryFrame m ([.ref (q 0), .int (iI s9), .int (iI k), .int (iI en)] : List Value).toArray 4 by rw [hargs], lg_entry_eq]
  generalize (lg_sl ([.ref (q 0), .int (iI s9), .int (iI k), .int (iI en)]) ++ List.replicate (4 - (lg_sl ([.ref (q 0), .int (iI s9), .int (iI k), .int (iI en)])).length) Slot.unset).toArray = ls at hl ⊢
  have hl : lv_has ls 4 [(0, .ref (q 0)), (1, .int (iI s9)), (2, .int (iI k)), (3, .int (iI en))] := hl
  refine lv_iload_n hx hb d_CS_bound_0 rfl (lv_at hl 1 rfl) ?_
  refine zcS (As := [.int (iI s9)]) (rest := []) ⟨hx, hb, hml, hown, ht⟩ t_CS_45 (c_CS_isSet l g s9 (by omega)) ⟨Nat.le_of_ble_eq_true rfl, Nat.le_of_ble_eq_true rfl⟩ ⟨Nat.zero_le _, Nat.zero_le _⟩ hK hZ hS zP_nil rfl hl.1 rfl (Nat.le_of_ble_eq_true rfl) d_CS_bound_1 (fun r_1 h_1 => ?_)
  rcases h_1 with ⟨h_1, rfl⟩ | ⟨h_1, rfl⟩
  · refine ix_if_eq (tgt := 24) hx hb d_CS_bound_4 (by decide) (by omega) (fun c_4 => ?_) (fun c_4 => ?_)
    · exact absurd c_4 (by decide)
    · refine lv_iload_n hx hb d_CS_bound_7 rfl (lv_at hl 2 rfl) ?_
      refine ix_if_lt (tgt := 24) hx hb d_CS_bound_8 (by decide) (by omega) (fun c_8 => ?_) (fun c_8 => ?_)
      · refine lv_bipush (v := iI (-2)) hx hb d_CS_bound_24 (by decide) ?_
        subst hQ
        exact W.iret (v := iI ((-2))) hx hb hr (fun t h9 hW => ⟨_, rfl, by first | exact Or.inl ⟨by omega, rfl⟩ | exact Or.inl ⟨by rw [hsnT]; omega, rfl⟩, h9⟩) (fun _ h9 => by cases h9) d_CS_bound_26
      · obtain ⟨sn, hsn⟩ : ∃ sn : Nat, s9 = ((sn : Nat) : Int) := ⟨s9.toNat, by omega⟩
        have hsnT : s9.toNat = sn := by omega
        rw [hsn] at hl
        obtain ⟨kn, hkn⟩ : ∃ kn : Nat, k = ((kn : Nat) : Int) := ⟨k.toNat, by omega⟩
        have hknT : k.toNat = kn := by omega
        rw [hkn] at hl
        have hn9 := (hok sn (by omega)).2.1
        refine lv_iload_n hx hb d_CS_bound_11 rfl (lv_at hl 2 rfl) ?_
        refine lv_aload_n hx hb d_CS_bound_12 rfl (lv_at hl 0 rfl) ?_
        refine va_get (D := g.1) (ci := 0) (v := .ref (q 7)) (C := R_CS) (T := F_CS) (N := 6) hx hb ht i_CS hown hK hP 0 rfl rfl 4 (by decide) (ht _ k_105) (fun _ h9 => h9) rfl d_CS_bound_13 ?_
        refine lv_iload_n hx hb d_CS_bound_16 rfl (lv_at hl 1 rfl) ?_
        refine ix_aald hx hb hK hP 7 3 rfl rfl (i := (((sn : Nat) : Int))) (q (8 + 2 * sn)) sn (by omega) rfl d_CS_bound_17 ?_
        refine zcV (ci := 1) (q0 := 0) (As := []) (rest := [.int (iI (((kn : Nat) : Int)))]) ⟨hx, hb, hml, hown, ht⟩ v_CS_59 (c_RG_rangeCount l g (q (8 + 2 * sn)) (q (9 + 2 * sn)) (n sn) (es sn)  (by omega)) ⟨Nat.le_of_ble_eq_true rfl, Nat.le_of_ble_eq_true rfl⟩ ⟨Nat.zero_le _, Nat.zero_le _⟩ hK hZ hS (cw_pr hP (k := sn) (by omega)) rfl rfl rfl rfl hl.1 rfl (Nat.le_of_ble_eq_true rfl) d_CS_bound_18 (fun r_18 h_18 => ?_)
        subst h_18
        refine ix_icmp_lt (tgt := 27) hx hb d_CS_bound_21 (by decide) (by omega) (fun c_21 => ?_) (fun c_21 => ?_)
        · refine lv_iload_n hx hb d_CS_bound_27 rfl (lv_at hl 3 rfl) ?_
          refine ix_if_eq (tgt := 44) hx hb d_CS_bound_28 (by decide) (by omega) (fun c_28 => ?_) (fun c_28 => ?_)
          · refine lv_aload_n hx hb d_CS_bound_44 rfl (lv_at hl 0 rfl) ?_
            refine va_get (D := g.1) (ci := 0) (v := .ref (q 7)) (C := R_CS) (T := F_CS) (N := 6) hx hb ht i_CS hown hK hP 0 rfl rfl 4 (by decide) (ht _ k_105) (fun _ h9 => h9) rfl d_CS_bound_45 ?_
            refine lv_iload_n hx hb d_CS_bound_48 rfl (lv_at hl 1 rfl) ?_
            refine ix_aald hx hb hK hP 7 3 rfl rfl (i := (((sn : Nat) : Int))) (q (8 + 2 * sn)) sn (by omega) rfl d_CS_bound_49 ?_
            refine lv_iload_n hx hb d_CS_bound_50 rfl (lv_at hl 2 rfl) ?_
            refine zcV (ci := 1) (q0 := 0) (As := [.int (iI (((kn : Nat) : Int)))]) (rest := []) ⟨hx, hb, hml, hown, ht⟩ v_CS_108 (c_RG_lowOf l g (q (8 + 2 * sn)) (q (9 + 2 * sn)) (n sn) (es sn) kn (by omega)) ⟨Nat.le_of_ble_eq_true rfl, Nat.le_of_ble_eq_true rfl⟩ ⟨Nat.zero_le _, Nat.zero_le _⟩ hK hZ hS (cw_pr hP (k := sn) (by omega)) rfl rfl rfl rfl hl.1 rfl (Nat.le_of_ble_eq_true rfl) d_CS_bound_51 (fun r_51 h_51 => ?_)
            subst h_51
            subst hQ
            exact W.iret (v := iI (es sn (2 * kn))) hx hb hr (fun t h9 hW => ⟨_, rfl, Or.inr ⟨by rw [hsnT]; omega, Or.inl ⟨by omega, by rw [hsnT, hknT]⟩⟩, h9⟩) (fun _ h9 => by cases h9) d_CS_bound_54
          · refine lv_aload_n hx hb d_CS_bound_31 rfl (lv_at hl 0 rfl) ?_
            refine va_get (D := g.1) (ci := 0) (v := .ref (q 7)) (C := R_CS) (T := F_CS) (N := 6) hx hb ht i_CS hown hK hP 0 rfl rfl 4 (by decide) (ht _ k_105) (fun _ h9 => h9) rfl d_CS_bound_32 ?_
            refine lv_iload_n hx hb d_CS_bound_35 rfl (lv_at hl 1 rfl) ?_
            refine ix_aald hx hb hK hP 7 3 rfl rfl (i := (((sn : Nat) : Int))) (q (8 + 2 * sn)) sn (by omega) rfl d_CS_bound_36 ?_
            refine lv_iload_n hx hb d_CS_bound_37 rfl (lv_at hl 2 rfl) ?_
            refine zcV (ci := 1) (q0 := 0) (As := [.int (iI (((kn : Nat) : Int)))]) (rest := []) ⟨hx, hb, hml, hown, ht⟩ v_CS_105 (c_RG_highOf l g (q (8 + 2 * sn)) (q (9 + 2 * sn)) (n sn) (es sn) kn (by omega)) ⟨Nat.le_of_ble_eq_true rfl, Nat.le_of_ble_eq_true rfl⟩ ⟨Nat.zero_le _, Nat.zero_le _⟩ hK hZ hS (cw_pr hP (k := sn) (by omega)) rfl rfl rfl rfl hl.1 rfl (Nat.le_of_ble_eq_true rfl) d_CS_bound_38 (fun r_38 h_38 => ?_)
            subst h_38
            refine lv_goto (tgt := 54) hx hb d_CS_bound_41 (by decide) ?_
            subst hQ
            exact W.iret (v := iI (es sn (2 * kn + 1) - 1)) hx hb hr (fun t h9 hW => ⟨_, rfl, Or.inr ⟨by rw [hsnT]; omega, Or.inr ⟨by omega, by rw [hsnT, hknT]⟩⟩, h9⟩) (fun _ h9 => by cases h9) d_CS_bound_54
        · refine lv_bipush (v := iI (-2)) hx hb d_CS_bound_24 (by decide) ?_
          subst hQ
          exact W.iret (v := iI ((-2))) hx hb hr (fun t h9 hW => ⟨_, rfl, by first | exact Or.inl ⟨by omega, rfl⟩ | exact Or.inl ⟨by rw [hsnT]; omega, rfl⟩, h9⟩) (fun _ h9 => by cases h9) d_CS_bound_26
  · refine ix_if_eq (tgt := 24) hx hb d_CS_bound_4 (by decide) (by omega) (fun c_4 => ?_) (fun c_4 => ?_)
    · refine lv_bipush (v := iI (-2)) hx hb d_CS_bound_24 (by decide) ?_
      subst hQ
      exact W.iret (v := iI ((-2))) hx hb hr (fun t h9 hW => ⟨_, rfl, by first | exact Or.inl ⟨by omega, rfl⟩ | exact Or.inl ⟨by rw [hsnT]; omega, rfl⟩, h9⟩) (fun _ h9 => by cases h9) d_CS_bound_26
    · exact absurd c_4 (by decide)
set_option maxHeartbeats 4000000 in
set_option maxRecDepth 100000 in
theorem c_CS_meets (l : Launch) (g : zG) (q : Nat → Nat) (u la : Int) (NX : Nat → Int) (n : Nat → Nat) (es : Nat → Nat → Int) (s9 t9 : Int) (hs9 : -2147483648 ≤ s9 ∧ s9 ≤ 2147483647) (ht9 : -2147483648 ≤ t9 ∧ t9 ≤ 2147483647) (hok : ∀ k, k < 9 → asc (es k) (n k) ∧ n k ≤ 2046 ∧ ∀ i, i < n k → 0 ≤ es k i ∧ es k i ≤ 1114112) : Met l y_CS_meets w_CS_meets (zr 3 69) (zP g [.ref (q 0), .int (iI s9), .int (iI t9)] (cw g q u la NX n es)) (vp_Si (fun z => ((¬ (0 ≤ s9 ∧ s9 ≤ 7) ∨ ¬ (0 ≤ t9 ∧ t9 ≤ 7)) ∧ z = iI (-2)) ∨ (¬ (¬ (0 ≤ s9 ∧ s9 ≤ 7) ∨ ¬ (0 ≤ t9 ∧ t9 ≤ 7)) ∧ (((∃ i, 2 * i + 1 < n s9.toNat ∧ hit (es s9.toNat) (es t9.toNat) (n t9.toNat) i) ∧ z = iI 1) ∨ (¬ (∃ i, 2 * i + 1 < n s9.toNat ∧ hit (es s9.toNat) (es t9.toNat) (n t9.toNat) i) ∧ z = iI 0))))) 0 0 (fun _ => False) := by
  refine Met.ofW (cc := b_CS_meets) (maxL := 3) (ret := (some .int)) (by decide) rfl ?_
  intro p e s m args below meth cd s₁ B hml hv
  obtain ⟨hargs, hP, hK, hZ⟩ := hv
  have hx := B.exec
  have hb := B.bytes
  have hr := B.returns
  have ht : ∀ w ∈ lw_ok, w.before args s = true := fun w h => atoms_spec (ws := w_CS_meets) B.pre w (List.mem_cons_of_mem _ h)
  have hown : s.vm.findClass R_CS = some m.cls := findClass_of_methodNamed B.named
  have hlocks := B.notSynchronized
  have hS : va_S (fun _ => False) s.heap s.heap [] := va_S.rf
  generalize hQ : MQ below _ args s 0 0 _ = Q
  have hl := lv_entry ([.ref (q 0), .int (iI s9), .int (iI t9)]) (n := 3) (Nat.le_of_ble_eq_true rfl)
  rw [show entryFrame m args 3 = entryFrame m ([.ref (q 0), .int (iI s9), .int (iI t9)] : List Value).toArray 3 by rw [hargs], lg_entry_eq]
  generalize (lg_sl ([.ref (q 0), .int (iI s9), .int (iI t9)]) ++ List.replicate (3 - (lg_sl ([.ref (q 0), .int (iI s9), .int (iI t9)])).length) Slot.unset).toArray = ls at hl ⊢
  have hl : lv_has ls 3 [(0, .ref (q 0)), (1, .int (iI s9)), (2, .int (iI t9))] := hl
  refine lv_iload_n hx hb d_CS_meets_0 rfl (lv_at hl 1 rfl) ?_
  refine zcS (As := [.int (iI s9)]) (rest := []) ⟨hx, hb, hml, hown, ht⟩ t_CS_45 (c_CS_isSet l g s9 (by omega)) ⟨Nat.le_of_ble_eq_true rfl, Nat.le_of_ble_eq_true rfl⟩ ⟨Nat.zero_le _, Nat.zero_le _⟩ hK hZ hS zP_nil rfl hl.1 rfl (Nat.le_of_ble_eq_true rfl) d_CS_meets_1 (fun r_1 h_1 => ?_)
  rcases h_1 with ⟨h_1, rfl⟩ | ⟨h_1, rfl⟩
  · refine ix_if_eq (tgt := 14) hx hb d_CS_meets_4 (by decide) (by omega) (fun c_4 => ?_) (fun c_4 => ?_)
    · exact absurd c_4 (by decide)
    · refine lv_iload_n hx hb d_CS_meets_7 rfl (lv_at hl 2 rfl) ?_
      refine zcS (As := [.int (iI t9)]) (rest := []) ⟨hx, hb, hml, hown, ht⟩ t_CS_45 (c_CS_isSet l g t9 (by omega)) ⟨Nat.le_of_ble_eq_true rfl, Nat.le_of_ble_eq_true rfl⟩ ⟨Nat.zero_le _, Nat.zero_le _⟩ hK hZ hS zP_nil rfl hl.1 rfl (Nat.le_of_ble_eq_true rfl) d_CS_meets_8 (fun r_8 h_8 => ?_)
      rcases h_8 with ⟨h_8, rfl⟩ | ⟨h_8, rfl⟩
      · refine ix_if_ne (tgt := 17) hx hb d_CS_meets_11 (by decide) (by omega) (fun c_11 => ?_) (fun c_11 => ?_)
        · obtain ⟨sn, hsn⟩ : ∃ sn : Nat, s9 = ((sn : Nat) : Int) := ⟨s9.toNat, by omega⟩
          have hsnT : s9.toNat = sn := by omega
          rw [hsn] at hl
          obtain ⟨tn, htn⟩ : ∃ tn : Nat, t9 = ((tn : Nat) : Int) := ⟨t9.toNat, by omega⟩
          have htnT : t9.toNat = tn := by omega
          rw [htn] at hl
          refine lv_aload_n hx hb d_CS_meets_17 rfl (lv_at hl 0 rfl) ?_
          refine va_get (D := g.1) (ci := 0) (v := .ref (q 7)) (C := R_CS) (T := F_CS) (N := 6) hx hb ht i_CS hown hK hP 0 rfl rfl 4 (by decide) (ht _ k_105) (fun _ h9 => h9) rfl d_CS_meets_18 ?_
          refine lv_iload_n hx hb d_CS_meets_21 rfl (lv_at hl 1 rfl) ?_
          refine ix_aald hx hb hK hP 7 3 rfl rfl (i := (((sn : Nat) : Int))) (q (8 + 2 * sn)) sn (by omega) rfl d_CS_meets_22 ?_
          refine lv_aload_n hx hb d_CS_meets_23 rfl (lv_at hl 0 rfl) ?_
          refine va_get (D := g.1) (ci := 0) (v := .ref (q 7)) (C := R_CS) (T := F_CS) (N := 6) hx hb ht i_CS hown hK hP 0 rfl rfl 4 (by decide) (ht _ k_105) (fun _ h9 => h9) rfl d_CS_meets_24 ?_
          refine lv_iload_n hx hb d_CS_meets_27 rfl (lv_at hl 2 rfl) ?_
          refine ix_aald hx hb hK hP 7 3 rfl rfl (i := (((tn : Nat) : Int))) (q (8 + 2 * tn)) tn (by omega) rfl d_CS_meets_28 ?_
          refine zcV (ci := 1) (q0 := 0) (As := [.ref (q (8 + 2 * tn))]) (rest := []) ⟨hx, hb, hml, hown, ht⟩ v_CS_89 (c_RG_overlaps l g (q (8 + 2 * sn)) (q (9 + 2 * sn)) (n sn) (es sn) (q (8 + 2 * tn)) (q (9 + 2 * tn)) (n tn) (es tn) (hok sn (by omega)).1 (by have := (hok sn (by omega)).2.1; omega) (hok sn (by omega)).2.2 (hok tn (by omega)).1 (by have := (hok tn (by omega)).2.1; omega) (hok tn (by omega)).2.2) ⟨Nat.le_of_ble_eq_true rfl, Nat.le_of_ble_eq_true rfl⟩ ⟨Nat.zero_le _, Nat.zero_le _⟩ hK hZ hS ((cw_pr hP (k := sn) (by omega)).app (cw_pr hP (k := tn) (by omega))) rfl rfl rfl rfl hl.1 rfl (Nat.le_of_ble_eq_true rfl) d_CS_meets_29 (fun r_29 h_29 => ?_)
          rcases h_29 with ⟨h_29, rfl⟩ | ⟨h_29, rfl⟩
          · refine ix_if_eq (tgt := 39) hx hb d_CS_meets_32 (by decide) (by omega) (fun c_32 => ?_) (fun c_32 => ?_)
            · exact absurd c_32 (by decide)
            · refine lv_iconst (v := iI 1) hx hb d_CS_meets_35 rfl ?_
              refine lv_goto (tgt := 40) hx hb d_CS_meets_36 (by decide) ?_
              subst hQ
              exact W.iret (v := iI 1) hx hb hr (fun t h9 hW => ⟨_, rfl, Or.inr ⟨by omega, Or.inl ⟨by rw [hsnT, htnT]; exact h_29, rfl⟩⟩, h9⟩) (fun _ h9 => by cases h9) d_CS_meets_40
          · refine ix_if_eq (tgt := 39) hx hb d_CS_meets_32 (by decide) (by omega) (fun c_32 => ?_) (fun c_32 => ?_)
            · refine lv_iconst (v := iI 0) hx hb d_CS_meets_39 rfl ?_
              subst hQ
              exact W.iret (v := iI 0) hx hb hr (fun t h9 hW => ⟨_, rfl, Or.inr ⟨by omega, Or.inr ⟨by rw [hsnT, htnT]; exact h_29, rfl⟩⟩, h9⟩) (fun _ h9 => by cases h9) d_CS_meets_40
            · exact absurd c_32 (by decide)
        · exact absurd c_11 (by decide)
      · refine ix_if_ne (tgt := 17) hx hb d_CS_meets_11 (by decide) (by omega) (fun c_11 => ?_) (fun c_11 => ?_)
        · exact absurd c_11 (by decide)
        · refine lv_bipush (v := iI (-2)) hx hb d_CS_meets_14 (by decide) ?_
          subst hQ
          exact W.iret (v := iI ((-2))) hx hb hr (fun t h9 hW => ⟨_, rfl, Or.inl ⟨by omega, rfl⟩, h9⟩) (fun _ h9 => by cases h9) d_CS_meets_16
  · refine ix_if_eq (tgt := 14) hx hb d_CS_meets_4 (by decide) (by omega) (fun c_4 => ?_) (fun c_4 => ?_)
    · refine lv_bipush (v := iI (-2)) hx hb d_CS_meets_14 (by decide) ?_
      subst hQ
      exact W.iret (v := iI ((-2))) hx hb hr (fun t h9 hW => ⟨_, rfl, Or.inl ⟨by omega, rfl⟩, h9⟩) (fun _ h9 => by cases h9) d_CS_meets_16
    · exact absurd c_4 (by decide)
set_option maxHeartbeats 4000000 in
set_option maxRecDepth 100000 in
theorem c_CS_same (l : Launch) (g : zG) (q : Nat → Nat) (u la : Int) (NX : Nat → Int) (n : Nat → Nat) (es : Nat → Nat → Int) (s9 t9 : Int) (hs9 : -2147483648 ≤ s9 ∧ s9 ≤ 2147483647) (ht9 : -2147483648 ≤ t9 ∧ t9 ≤ 2147483647) (hok : ∀ k, k < 9 → asc (es k) (n k) ∧ n k ≤ 2046 ∧ ∀ i, i < n k → 0 ≤ es k i ∧ es k i ≤ 1114112) : Met l y_CS_same w_CS_same (zr 1 22) (zP g [.ref (q 0), .int (iI s9), .int (iI t9)] (cw g q u la NX n es)) (vp_Si (fun z => ((¬ (0 ≤ s9 ∧ s9 ≤ 7) ∨ ¬ (0 ≤ t9 ∧ t9 ≤ 7)) ∧ z = iI (-2)) ∨ (¬ (¬ (0 ≤ s9 ∧ s9 ≤ 7) ∨ ¬ (0 ≤ t9 ∧ t9 ≤ 7)) ∧ (((n s9.toNat = n t9.toNat ∧ ∀ i, i < n s9.toNat → es s9.toNat i = es t9.toNat i) ∧ z = iI 1) ∨ (¬ (n s9.toNat = n t9.toNat ∧ ∀ i, i < n s9.toNat → es s9.toNat i = es t9.toNat i) ∧ z = iI 0))))) 0 0 (fun _ => False) := by
  refine Met.ofW (cc := b_CS_same) (maxL := 3) (ret := (some .int)) (by decide) rfl ?_
  intro p e s m args below meth cd s₁ B hml hv
  obtain ⟨hargs, hP, hK, hZ⟩ := hv
  have hx := B.exec
  have hb := B.bytes
  have hr := B.returns
  have ht : ∀ w ∈ lw_ok, w.before args s = true := fun w h => atoms_spec (ws := w_CS_same) B.pre w (List.mem_cons_of_mem _ h)
  have hown : s.vm.findClass R_CS = some m.cls := findClass_of_methodNamed B.named
  have hlocks := B.notSynchronized
  have hS : va_S (fun _ => False) s.heap s.heap [] := va_S.rf
  generalize hQ : MQ below _ args s 0 0 _ = Q
  have hl := lv_entry ([.ref (q 0), .int (iI s9), .int (iI t9)]) (n := 3) (Nat.le_of_ble_eq_true rfl)
  rw [show entryFrame m args 3 = entryFrame m ([.ref (q 0), .int (iI s9), .int (iI t9)] : List Value).toArray 3 by rw [hargs], lg_entry_eq]
  generalize (lg_sl ([.ref (q 0), .int (iI s9), .int (iI t9)]) ++ List.replicate (3 - (lg_sl ([.ref (q 0), .int (iI s9), .int (iI t9)])).length) Slot.unset).toArray = ls at hl ⊢
  have hl : lv_has ls 3 [(0, .ref (q 0)), (1, .int (iI s9)), (2, .int (iI t9))] := hl
  refine lv_iload_n hx hb d_CS_same_0 rfl (lv_at hl 1 rfl) ?_
  refine zcS (As := [.int (iI s9)]) (rest := []) ⟨hx, hb, hml, hown, ht⟩ t_CS_45 (c_CS_isSet l g s9 (by omega)) ⟨Nat.le_of_ble_eq_true rfl, Nat.le_of_ble_eq_true rfl⟩ ⟨Nat.zero_le _, Nat.zero_le _⟩ hK hZ hS zP_nil rfl hl.1 rfl (Nat.le_of_ble_eq_true rfl) d_CS_same_1 (fun r_1 h_1 => ?_)
  rcases h_1 with ⟨h_1, rfl⟩ | ⟨h_1, rfl⟩
  · refine ix_if_eq (tgt := 14) hx hb d_CS_same_4 (by decide) (by omega) (fun c_4 => ?_) (fun c_4 => ?_)
    · exact absurd c_4 (by decide)
    · refine lv_iload_n hx hb d_CS_same_7 rfl (lv_at hl 2 rfl) ?_
      refine zcS (As := [.int (iI t9)]) (rest := []) ⟨hx, hb, hml, hown, ht⟩ t_CS_45 (c_CS_isSet l g t9 (by omega)) ⟨Nat.le_of_ble_eq_true rfl, Nat.le_of_ble_eq_true rfl⟩ ⟨Nat.zero_le _, Nat.zero_le _⟩ hK hZ hS zP_nil rfl hl.1 rfl (Nat.le_of_ble_eq_true rfl) d_CS_same_8 (fun r_8 h_8 => ?_)
      rcases h_8 with ⟨h_8, rfl⟩ | ⟨h_8, rfl⟩
      · refine ix_if_ne (tgt := 17) hx hb d_CS_same_11 (by decide) (by omega) (fun c_11 => ?_) (fun c_11 => ?_)
        · obtain ⟨sn, hsn⟩ : ∃ sn : Nat, s9 = ((sn : Nat) : Int) := ⟨s9.toNat, by omega⟩
          have hsnT : s9.toNat = sn := by omega
          rw [hsn] at hl
          obtain ⟨tn, htn⟩ : ∃ tn : Nat, t9 = ((tn : Nat) : Int) := ⟨t9.toNat, by omega⟩
          have htnT : t9.toNat = tn := by omega
          rw [htn] at hl
          refine lv_aload_n hx hb d_CS_same_17 rfl (lv_at hl 0 rfl) ?_
          refine va_get (D := g.1) (ci := 0) (v := .ref (q 7)) (C := R_CS) (T := F_CS) (N := 6) hx hb ht i_CS hown hK hP 0 rfl rfl 4 (by decide) (ht _ k_105) (fun _ h9 => h9) rfl d_CS_same_18 ?_
          refine lv_iload_n hx hb d_CS_same_21 rfl (lv_at hl 1 rfl) ?_
          refine ix_aald hx hb hK hP 7 3 rfl rfl (i := (((sn : Nat) : Int))) (q (8 + 2 * sn)) sn (by omega) rfl d_CS_same_22 ?_
          refine lv_aload_n hx hb d_CS_same_23 rfl (lv_at hl 0 rfl) ?_
          refine va_get (D := g.1) (ci := 0) (v := .ref (q 7)) (C := R_CS) (T := F_CS) (N := 6) hx hb ht i_CS hown hK hP 0 rfl rfl 4 (by decide) (ht _ k_105) (fun _ h9 => h9) rfl d_CS_same_24 ?_
          refine lv_iload_n hx hb d_CS_same_27 rfl (lv_at hl 2 rfl) ?_
          refine ix_aald hx hb hK hP 7 3 rfl rfl (i := (((tn : Nat) : Int))) (q (8 + 2 * tn)) tn (by omega) rfl d_CS_same_28 ?_
          refine zcV (ci := 1) (q0 := 0) (As := [.ref (q (8 + 2 * tn))]) (rest := []) ⟨hx, hb, hml, hown, ht⟩ v_CS_93 (c_RG_matches l g (q (8 + 2 * sn)) (q (9 + 2 * sn)) (n sn) (es sn) (q (8 + 2 * tn)) (q (9 + 2 * tn)) (n tn) (es tn) (hok sn (by omega)).1 (by have := (hok sn (by omega)).2.1; omega) (hok sn (by omega)).2.2 (hok tn (by omega)).1 (by have := (hok tn (by omega)).2.1; omega) (hok tn (by omega)).2.2) ⟨Nat.le_of_ble_eq_true rfl, Nat.le_of_ble_eq_true rfl⟩ ⟨Nat.zero_le _, Nat.zero_le _⟩ hK hZ hS ((cw_pr hP (k := sn) (by omega)).app (cw_pr hP (k := tn) (by omega))) rfl rfl rfl rfl hl.1 rfl (Nat.le_of_ble_eq_true rfl) d_CS_same_29 (fun r_29 h_29 => ?_)
          rcases h_29 with ⟨h_29, rfl⟩ | ⟨h_29, rfl⟩
          · refine ix_if_eq (tgt := 39) hx hb d_CS_same_32 (by decide) (by omega) (fun c_32 => ?_) (fun c_32 => ?_)
            · exact absurd c_32 (by decide)
            · refine lv_iconst (v := iI 1) hx hb d_CS_same_35 rfl ?_
              refine lv_goto (tgt := 40) hx hb d_CS_same_36 (by decide) ?_
              subst hQ
              exact W.iret (v := iI 1) hx hb hr (fun t h9 hW => ⟨_, rfl, Or.inr ⟨by omega, Or.inl ⟨by rw [hsnT, htnT]; exact h_29, rfl⟩⟩, h9⟩) (fun _ h9 => by cases h9) d_CS_same_40
          · refine ix_if_eq (tgt := 39) hx hb d_CS_same_32 (by decide) (by omega) (fun c_32 => ?_) (fun c_32 => ?_)
            · refine lv_iconst (v := iI 0) hx hb d_CS_same_39 rfl ?_
              subst hQ
              exact W.iret (v := iI 0) hx hb hr (fun t h9 hW => ⟨_, rfl, Or.inr ⟨by omega, Or.inr ⟨by rw [hsnT, htnT]; exact h_29, rfl⟩⟩, h9⟩) (fun _ h9 => by cases h9) d_CS_same_40
            · exact absurd c_32 (by decide)
        · exact absurd c_11 (by decide)
      · refine ix_if_ne (tgt := 17) hx hb d_CS_same_11 (by decide) (by omega) (fun c_11 => ?_) (fun c_11 => ?_)
        · exact absurd c_11 (by decide)
        · refine lv_bipush (v := iI (-2)) hx hb d_CS_same_14 (by decide) ?_
          subst hQ
          exact W.iret (v := iI ((-2))) hx hb hr (fun t h9 hW => ⟨_, rfl, Or.inl ⟨by omega, rfl⟩, h9⟩) (fun _ h9 => by cases h9) d_CS_same_16
  · refine ix_if_eq (tgt := 14) hx hb d_CS_same_4 (by decide) (by omega) (fun c_4 => ?_) (fun c_4 => ?_)
    · refine lv_bipush (v := iI (-2)) hx hb d_CS_same_14 (by decide) ?_
      subst hQ
      exact W.iret (v := iI ((-2))) hx hb hr (fun t h9 hW => ⟨_, rfl, Or.inl ⟨by omega, rfl⟩, h9⟩) (fun _ h9 => by cases h9) d_CS_same_16
    · exact absurd c_4 (by decide)
