set_option maxHeartbeats 4000000 in
set_option maxRecDepth 100000 in
theorem c_MO_inAny (l : Launch) (g : zG) (r : Nat → Nat) (ut uc la wo : Int) (bw : Nat → Nat) (mt : Nat → Int) (ms : Int) (c a b : Int) (hc : -2147483648 ≤ c ∧ c ≤ 2147483647) (hab : -2147483648 ≤ a ∧ a ≤ 2147483647 ∧ -2147483648 ≤ b ∧ b ≤ 2147483647) : Met l y_MO_inAny w_MO_inAny (zr 0 0) (zP g [.ref (r 0), .int (iI c), .int (iI a), .int (iI b)] [(r 0, .inr (4, [.int (iI ut), .int (iI uc), .int (iI la), .int (iI wo), .ref (r 1), .ref (r 2), .ref (r 3), .int (iI ms), .ref (r 4)])), (r 1, .inl (zJ g, 139264, .inr (.inl (lA bw)))), (r 2, .inl (zBt g, 12544, .inl (ai kF))), (r 3, .inl (zI g, 4, .inl (ai mt))), (r 4, .inl (zI g, 14, .inl (ai PT)))]) (vp_Si (fun z => ((a ≤ c ∧ c ≤ b) ∧ z = iI 1) ∨ (¬ (a ≤ c ∧ c ≤ b) ∧ z = iI 0))) 0 0 (fun _ => False) := by
  refine Met.ofW (cc := b_MO_inAny) (maxL := 4) (ret := (some .boolean)) (by decide) rfl ?_
  intro p e s m args below meth cd s₁ B hml hv
  obtain ⟨hargs, hP, hK, hZ⟩ := hv
  have hx := B.exec
  have hb := B.bytes
  have hr := B.returns
  have ht : ∀ w ∈ lw_ok, w.before args s = true := fun w h => atoms_spec (ws := w_MO_inAny) B.pre w (List.mem_cons_of_mem _ h)
  have hown : s.vm.findClass R_MO = some m.cls := findClass_of_methodNamed B.named
  have hlocks := B.notSynchronized
  have hS : va_S (fun _ => False) s.heap s.heap [] := va_S.rf
  generalize hQ : MQ below _ args s 0 0 _ = Q
  have hl := lv_entry ([.ref (r 0), .int (iI c), .int (iI a), .int (iI b)]) (n := 4) (Nat.le_of_ble_eq_true rfl)
  rw [show entryFrame m args 4 = entryFrame m ([.ref (r 0), .int (iI c), .int (iI a), .int (iI b)] : List Value).toArray 4 by rw [hargs], lg_entry_eq]
  generalize (lg_sl ([.ref (r 0), .int (iI c), .int (iI a), .int (iI b)]) ++ List.replicate (4 - (lg_sl ([.ref (r 0), .int (iI c), .int (iI a), .int (iI b)])).length) Slot.unset).toArray = ls at hl ⊢
  have hl : lv_has ls 4 [(0, .ref (r 0)), (1, .int (iI c)), (2, .int (iI a)), (3, .int (iI b))] := hl
  refine lv_iload_n hx hb d_MO_inAny_0 rfl (lv_at hl 1 rfl) ?_
  refine lv_iload_n hx hb d_MO_inAny_1 rfl (lv_at hl 2 rfl) ?_
  refine ix_icmp_lt (tgt := 14) hx hb d_MO_inAny_2 (by decide) (by omega) (fun c_2 => ?_) (fun c_2 => ?_)
  · refine lv_iconst (v := iI 0) hx hb d_MO_inAny_14 rfl ?_
    subst hQ
    exact W.zret (v := iI 0) hx hb hr (by decide) (fun t h9 hW => ⟨_, rfl, Or.inr ⟨by omega, rfl⟩, h9⟩) (fun _ h9 => by cases h9) d_MO_inAny_15
  · refine lv_iload_n hx hb d_MO_inAny_5 rfl (lv_at hl 1 rfl) ?_
    refine lv_iload_n hx hb d_MO_inAny_6 rfl (lv_at hl 3 rfl) ?_
    refine ix_icmp_gt (tgt := 14) hx hb d_MO_inAny_7 (by decide) (by omega) (fun c_7 => ?_) (fun c_7 => ?_)
    · refine lv_iconst (v := iI 0) hx hb d_MO_inAny_14 rfl ?_
      subst hQ
      exact W.zret (v := iI 0) hx hb hr (by decide) (fun t h9 hW => ⟨_, rfl, Or.inr ⟨by omega, rfl⟩, h9⟩) (fun _ h9 => by cases h9) d_MO_inAny_15
    · refine lv_iconst (v := iI 1) hx hb d_MO_inAny_10 rfl ?_
      refine lv_goto (tgt := 15) hx hb d_MO_inAny_11 (by decide) ?_
      subst hQ
      exact W.zret (v := iI 1) hx hb hr (by decide) (fun t h9 hW => ⟨_, rfl, Or.inl ⟨by omega, rfl⟩, h9⟩) (fun _ h9 => by cases h9) d_MO_inAny_15
set_option maxHeartbeats 4000000 in
set_option maxRecDepth 100000 in
theorem c_MO_none (l : Launch) (g : zG) (r : Nat → Nat) (ut uc la wo : Int) (bw : Nat → Nat) (mt : Nat → Int) (ms : Int) (c : Int) (hc : -2147483648 ≤ c ∧ c ≤ 2147483647) : Met l y_MO_none w_MO_none (zr 0 0) (zP g [.ref (r 0), .int (iI c)] [(r 0, .inr (4, [.int (iI ut), .int (iI uc), .int (iI la), .int (iI wo), .ref (r 1), .ref (r 2), .ref (r 3), .int (iI ms), .ref (r 4)])), (r 1, .inl (zJ g, 139264, .inr (.inl (lA bw)))), (r 2, .inl (zBt g, 12544, .inl (ai kF))), (r 3, .inl (zI g, 4, .inl (ai mt))), (r 4, .inl (zI g, 14, .inl (ai PT)))]) (vp_Si (fun z => ((¬ (0 ≤ c ∧ c ≤ 7)) ∧ z = iI 1) ∨ (¬ (¬ (0 ≤ c ∧ c ≤ 7)) ∧ z = iI 0))) 0 0 (fun _ => False) := by
  refine Met.ofW (cc := b_MO_none) (maxL := 2) (ret := (some .boolean)) (by decide) rfl ?_
  intro p e s m args below meth cd s₁ B hml hv
  obtain ⟨hargs, hP, hK, hZ⟩ := hv
  have hx := B.exec
  have hb := B.bytes
  have hr := B.returns
  have ht : ∀ w ∈ lw_ok, w.before args s = true := fun w h => atoms_spec (ws := w_MO_none) B.pre w (List.mem_cons_of_mem _ h)
  have hown : s.vm.findClass R_MO = some m.cls := findClass_of_methodNamed B.named
  have hlocks := B.notSynchronized
  have hS : va_S (fun _ => False) s.heap s.heap [] := va_S.rf
  generalize hQ : MQ below _ args s 0 0 _ = Q
  have hl := lv_entry ([.ref (r 0), .int (iI c)]) (n := 2) (Nat.le_of_ble_eq_true rfl)
  rw [show entryFrame m args 2 = entryFrame m ([.ref (r 0), .int (iI c)] : List Value).toArray 2 by rw [hargs], lg_entry_eq]
  generalize (lg_sl ([.ref (r 0), .int (iI c)]) ++ List.replicate (2 - (lg_sl ([.ref (r 0), .int (iI c)])).length) Slot.unset).toArray = ls at hl ⊢
  have hl : lv_has ls 2 [(0, .ref (r 0)), (1, .int (iI c))] := hl
  refine lv_iload_n hx hb d_MO_none_0 rfl (lv_at hl 1 rfl) ?_
  refine ix_if_lt (tgt := 10) hx hb d_MO_none_1 (by decide) (by omega) (fun c_1 => ?_) (fun c_1 => ?_)
  · refine lv_iconst (v := iI 1) hx hb d_MO_none_10 rfl ?_
    refine lv_goto (tgt := 15) hx hb d_MO_none_11 (by decide) ?_
    subst hQ
    exact W.zret (v := iI 1) hx hb hr (by decide) (fun t h9 hW => ⟨_, rfl, Or.inl ⟨by omega, rfl⟩, h9⟩) (fun _ h9 => by cases h9) d_MO_none_15
  · refine lv_iload_n hx hb d_MO_none_4 rfl (lv_at hl 1 rfl) ?_
    refine lv_bipush (v := iI 7) hx hb d_MO_none_5 (by decide) ?_
    refine ix_icmp_le (tgt := 14) hx hb d_MO_none_7 (by decide) (by omega) (fun c_7 => ?_) (fun c_7 => ?_)
    · refine lv_iconst (v := iI 0) hx hb d_MO_none_14 rfl ?_
      subst hQ
      exact W.zret (v := iI 0) hx hb hr (by decide) (fun t h9 hW => ⟨_, rfl, Or.inr ⟨by omega, rfl⟩, h9⟩) (fun _ h9 => by cases h9) d_MO_none_15
    · refine lv_iconst (v := iI 1) hx hb d_MO_none_10 rfl ?_
      refine lv_goto (tgt := 15) hx hb d_MO_none_11 (by decide) ?_
      subst hQ
      exact W.zret (v := iI 1) hx hb hr (by decide) (fun t h9 hW => ⟨_, rfl, Or.inl ⟨by omega, rfl⟩, h9⟩) (fun _ h9 => by cases h9) d_MO_none_15
set_option maxHeartbeats 4000000 in
set_option maxRecDepth 100000 in
theorem c_MO_alpha (l : Launch) (g : zG) (r : Nat → Nat) (ut uc la wo : Int) (bw : Nat → Nat) (mt : Nat → Int) (ms : Int) (c : Int) (hc : -2147483648 ≤ c ∧ c ≤ 2147483647) : Met l y_MO_alpha w_MO_alpha (zr 0 0) (zP g [.ref (r 0), .int (iI c)] [(r 0, .inr (4, [.int (iI ut), .int (iI uc), .int (iI la), .int (iI wo), .ref (r 1), .ref (r 2), .ref (r 3), .int (iI ms), .ref (r 4)])), (r 1, .inl (zJ g, 139264, .inr (.inl (lA bw)))), (r 2, .inl (zBt g, 12544, .inl (ai kF))), (r 3, .inl (zI g, 4, .inl (ai mt))), (r 4, .inl (zI g, 14, .inl (ai PT)))]) (vp_Si (fun z => ((alpF c) ∧ z = iI 1) ∨ (¬ (alpF c) ∧ z = iI 0))) 0 0 (fun _ => False) := by
  refine Met.ofW (cc := b_MO_alpha) (maxL := 2) (ret := (some .boolean)) (by decide) rfl ?_
  intro p e s m args below meth cd s₁ B hml hv
  obtain ⟨hargs, hP, hK, hZ⟩ := hv
  have hx := B.exec
  have hb := B.bytes
  have hr := B.returns
  have ht : ∀ w ∈ lw_ok, w.before args s = true := fun w h => atoms_spec (ws := w_MO_alpha) B.pre w (List.mem_cons_of_mem _ h)
  have hown : s.vm.findClass R_MO = some m.cls := findClass_of_methodNamed B.named
  have hlocks := B.notSynchronized
  have hS : va_S (fun _ => False) s.heap s.heap [] := va_S.rf
  generalize hQ : MQ below _ args s 0 0 _ = Q
  have hl := lv_entry ([.ref (r 0), .int (iI c)]) (n := 2) (Nat.le_of_ble_eq_true rfl)
  rw [show entryFrame m args 2 = entryFrame m ([.ref (r 0), .int (iI c)] : List Value).toArray 2 by rw [hargs], lg_entry_eq]
  generalize (lg_sl ([.ref (r 0), .int (iI c)]) ++ List.replicate (2 - (lg_sl ([.ref (r 0), .int (iI c)])).length) Slot.unset).toArray = ls at hl ⊢
  have hl : lv_has ls 2 [(0, .ref (r 0)), (1, .int (iI c))] := hl
  refine lv_iload_n hx hb d_MO_alpha_0 rfl (lv_at hl 1 rfl) ?_
  refine lv_bipush (v := iI 65) hx hb d_MO_alpha_1 (by decide) ?_
  refine ix_icmp_lt (tgt := 12) hx hb d_MO_alpha_3 (by decide) (by omega) (fun c_3 => ?_) (fun c_3 => ?_)
  · refine lv_iload_n hx hb d_MO_alpha_12 rfl (lv_at hl 1 rfl) ?_
    refine lv_bipush (v := iI 97) hx hb d_MO_alpha_13 (by decide) ?_
    refine ix_icmp_lt (tgt := 28) hx hb d_MO_alpha_15 (by decide) (by omega) (fun c_15 => ?_) (fun c_15 => ?_)
    · refine lv_iconst (v := iI 0) hx hb d_MO_alpha_28 rfl ?_
      subst hQ
      exact W.zret (v := iI 0) hx hb hr (by decide) (fun t h9 hW => ⟨_, rfl, Or.inr ⟨by unfold alpF; omega, rfl⟩, h9⟩) (fun _ h9 => by cases h9) d_MO_alpha_29
    · refine lv_iload_n hx hb d_MO_alpha_18 rfl (lv_at hl 1 rfl) ?_
      refine lv_bipush (v := iI 122) hx hb d_MO_alpha_19 (by decide) ?_
      refine ix_icmp_gt (tgt := 28) hx hb d_MO_alpha_21 (by decide) (by omega) (fun c_21 => ?_) (fun c_21 => ?_)
      · refine lv_iconst (v := iI 0) hx hb d_MO_alpha_28 rfl ?_
        subst hQ
        exact W.zret (v := iI 0) hx hb hr (by decide) (fun t h9 hW => ⟨_, rfl, Or.inr ⟨by unfold alpF; omega, rfl⟩, h9⟩) (fun _ h9 => by cases h9) d_MO_alpha_29
      · refine lv_iconst (v := iI 1) hx hb d_MO_alpha_24 rfl ?_
        refine lv_goto (tgt := 29) hx hb d_MO_alpha_25 (by decide) ?_
        subst hQ
        exact W.zret (v := iI 1) hx hb hr (by decide) (fun t h9 hW => ⟨_, rfl, Or.inl ⟨by unfold alpF; omega, rfl⟩, h9⟩) (fun _ h9 => by cases h9) d_MO_alpha_29
  · refine lv_iload_n hx hb d_MO_alpha_6 rfl (lv_at hl 1 rfl) ?_
    refine lv_bipush (v := iI 90) hx hb d_MO_alpha_7 (by decide) ?_
    refine ix_icmp_le (tgt := 24) hx hb d_MO_alpha_9 (by decide) (by omega) (fun c_9 => ?_) (fun c_9 => ?_)
    · refine lv_iconst (v := iI 1) hx hb d_MO_alpha_24 rfl ?_
      refine lv_goto (tgt := 29) hx hb d_MO_alpha_25 (by decide) ?_
      subst hQ
      exact W.zret (v := iI 1) hx hb hr (by decide) (fun t h9 hW => ⟨_, rfl, Or.inl ⟨by unfold alpF; omega, rfl⟩, h9⟩) (fun _ h9 => by cases h9) d_MO_alpha_29
    · refine lv_iload_n hx hb d_MO_alpha_12 rfl (lv_at hl 1 rfl) ?_
      refine lv_bipush (v := iI 97) hx hb d_MO_alpha_13 (by decide) ?_
      refine ix_icmp_lt (tgt := 28) hx hb d_MO_alpha_15 (by decide) (by omega) (fun c_15 => ?_) (fun c_15 => ?_)
      · refine lv_iconst (v := iI 0) hx hb d_MO_alpha_28 rfl ?_
        subst hQ
        exact W.zret (v := iI 0) hx hb hr (by decide) (fun t h9 hW => ⟨_, rfl, Or.inr ⟨by unfold alpF; omega, rfl⟩, h9⟩) (fun _ h9 => by cases h9) d_MO_alpha_29
      · refine lv_iload_n hx hb d_MO_alpha_18 rfl (lv_at hl 1 rfl) ?_
        refine lv_bipush (v := iI 122) hx hb d_MO_alpha_19 (by decide) ?_
        refine ix_icmp_gt (tgt := 28) hx hb d_MO_alpha_21 (by decide) (by omega) (fun c_21 => ?_) (fun c_21 => ?_)
        · refine lv_iconst (v := iI 0) hx hb d_MO_alpha_28 rfl ?_
          subst hQ
          exact W.zret (v := iI 0) hx hb hr (by decide) (fun t h9 hW => ⟨_, rfl, Or.inr ⟨by unfold alpF; omega, rfl⟩, h9⟩) (fun _ h9 => by cases h9) d_MO_alpha_29
        · refine lv_iconst (v := iI 1) hx hb d_MO_alpha_24 rfl ?_
          refine lv_goto (tgt := 29) hx hb d_MO_alpha_25 (by decide) ?_
          subst hQ
          exact W.zret (v := iI 1) hx hb hr (by decide) (fun t h9 hW => ⟨_, rfl, Or.inl ⟨by unfold alpF; omega, rfl⟩, h9⟩) (fun _ h9 => by cases h9) d_MO_alpha_29
set_option maxHeartbeats 4000000 in
set_option maxRecDepth 100000 in
theorem c_MO_digit (l : Launch) (g : zG) (r : Nat → Nat) (ut uc la wo : Int) (bw : Nat → Nat) (mt : Nat → Int) (ms : Int) (c : Int) (hc : -2147483648 ≤ c ∧ c ≤ 2147483647) : Met l y_MO_digit w_MO_digit (zr 0 0) (zP g [.ref (r 0), .int (iI c)] [(r 0, .inr (4, [.int (iI ut), .int (iI uc), .int (iI la), .int (iI wo), .ref (r 1), .ref (r 2), .ref (r 3), .int (iI ms), .ref (r 4)])), (r 1, .inl (zJ g, 139264, .inr (.inl (lA bw)))), (r 2, .inl (zBt g, 12544, .inl (ai kF))), (r 3, .inl (zI g, 4, .inl (ai mt))), (r 4, .inl (zI g, 14, .inl (ai PT)))]) (vp_Si (fun z => ((digF c) ∧ z = iI 1) ∨ (¬ (digF c) ∧ z = iI 0))) 0 0 (fun _ => False) := by
  refine Met.ofW (cc := b_MO_digit) (maxL := 2) (ret := (some .boolean)) (by decide) rfl ?_
  intro p e s m args below meth cd s₁ B hml hv
  obtain ⟨hargs, hP, hK, hZ⟩ := hv
  have hx := B.exec
  have hb := B.bytes
  have hr := B.returns
  have ht : ∀ w ∈ lw_ok, w.before args s = true := fun w h => atoms_spec (ws := w_MO_digit) B.pre w (List.mem_cons_of_mem _ h)
  have hown : s.vm.findClass R_MO = some m.cls := findClass_of_methodNamed B.named
  have hlocks := B.notSynchronized
  have hS : va_S (fun _ => False) s.heap s.heap [] := va_S.rf
  generalize hQ : MQ below _ args s 0 0 _ = Q
  have hl := lv_entry ([.ref (r 0), .int (iI c)]) (n := 2) (Nat.le_of_ble_eq_true rfl)
  rw [show entryFrame m args 2 = entryFrame m ([.ref (r 0), .int (iI c)] : List Value).toArray 2 by rw [hargs], lg_entry_eq]
  generalize (lg_sl ([.ref (r 0), .int (iI c)]) ++ List.replicate (2 - (lg_sl ([.ref (r 0), .int (iI c)])).length) Slot.unset).toArray = ls at hl ⊢
  have hl : lv_has ls 2 [(0, .ref (r 0)), (1, .int (iI c))] := hl
  refine lv_iload_n hx hb d_MO_digit_0 rfl (lv_at hl 1 rfl) ?_
  refine lv_bipush (v := iI 48) hx hb d_MO_digit_1 (by decide) ?_
  refine ix_icmp_lt (tgt := 16) hx hb d_MO_digit_3 (by decide) (by omega) (fun c_3 => ?_) (fun c_3 => ?_)
  · refine lv_iconst (v := iI 0) hx hb d_MO_digit_16 rfl ?_
    subst hQ
    exact W.zret (v := iI 0) hx hb hr (by decide) (fun t h9 hW => ⟨_, rfl, Or.inr ⟨by unfold digF; omega, rfl⟩, h9⟩) (fun _ h9 => by cases h9) d_MO_digit_17
  · refine lv_iload_n hx hb d_MO_digit_6 rfl (lv_at hl 1 rfl) ?_
    refine lv_bipush (v := iI 57) hx hb d_MO_digit_7 (by decide) ?_
    refine ix_icmp_gt (tgt := 16) hx hb d_MO_digit_9 (by decide) (by omega) (fun c_9 => ?_) (fun c_9 => ?_)
    · refine lv_iconst (v := iI 0) hx hb d_MO_digit_16 rfl ?_
      subst hQ
      exact W.zret (v := iI 0) hx hb hr (by decide) (fun t h9 hW => ⟨_, rfl, Or.inr ⟨by unfold digF; omega, rfl⟩, h9⟩) (fun _ h9 => by cases h9) d_MO_digit_17
    · refine lv_iconst (v := iI 1) hx hb d_MO_digit_12 rfl ?_
      refine lv_goto (tgt := 17) hx hb d_MO_digit_13 (by decide) ?_
      subst hQ
      exact W.zret (v := iI 1) hx hb hr (by decide) (fun t h9 hW => ⟨_, rfl, Or.inl ⟨by unfold digF; omega, rfl⟩, h9⟩) (fun _ h9 => by cases h9) d_MO_digit_17
set_option maxHeartbeats 4000000 in
set_option maxRecDepth 100000 in
theorem c_MO_blank (l : Launch) (g : zG) (r : Nat → Nat) (ut uc la wo : Int) (bw : Nat → Nat) (mt : Nat → Int) (ms : Int) (c : Int) (hc : -2147483648 ≤ c ∧ c ≤ 2147483647) : Met l y_MO_blank w_MO_blank (zr 0 0) (zP g [.ref (r 0), .int (iI c)] [(r 0, .inr (4, [.int (iI ut), .int (iI uc), .int (iI la), .int (iI wo), .ref (r 1), .ref (r 2), .ref (r 3), .int (iI ms), .ref (r 4)])), (r 1, .inl (zJ g, 139264, .inr (.inl (lA bw)))), (r 2, .inl (zBt g, 12544, .inl (ai kF))), (r 3, .inl (zI g, 4, .inl (ai mt))), (r 4, .inl (zI g, 14, .inl (ai PT)))]) (vp_Si (fun z => ((blkF c) ∧ z = iI 1) ∨ (¬ (blkF c) ∧ z = iI 0))) 0 0 (fun _ => False) := by
  refine Met.ofW (cc := b_MO_blank) (maxL := 2) (ret := (some .boolean)) (by decide) rfl ?_
  intro p e s m args below meth cd s₁ B hml hv
  obtain ⟨hargs, hP, hK, hZ⟩ := hv
  have hx := B.exec
  have hb := B.bytes
  have hr := B.returns
  have ht : ∀ w ∈ lw_ok, w.before args s = true := fun w h => atoms_spec (ws := w_MO_blank) B.pre w (List.mem_cons_of_mem _ h)
  have hown : s.vm.findClass R_MO = some m.cls := findClass_of_methodNamed B.named
  have hlocks := B.notSynchronized
  have hS : va_S (fun _ => False) s.heap s.heap [] := va_S.rf
  generalize hQ : MQ below _ args s 0 0 _ = Q
  have hl := lv_entry ([.ref (r 0), .int (iI c)]) (n := 2) (Nat.le_of_ble_eq_true rfl)
  rw [show entryFrame m args 2 = entryFrame m ([.ref (r 0), .int (iI c)] : List Value).toArray 2 by rw [hargs], lg_entry_eq]
  generalize (lg_sl ([.ref (r 0), .int (iI c)]) ++ List.replicate (2 - (lg_sl ([.ref (r 0), .int (iI c)])).length) Slot.unset).toArray = ls at hl ⊢
  have hl : lv_has ls 2 [(0, .ref (r 0)), (1, .int (iI c))] := hl
  refine lv_iload_n hx hb d_MO_blank_0 rfl (lv_at hl 1 rfl) ?_
  refine lv_bipush (v := iI 9) hx hb d_MO_blank_1 (by decide) ?_
  refine ix_icmp_eq (tgt := 68) hx hb d_MO_blank_3 (by decide) (by omega) (fun c_3 => ?_) (fun c_3 => ?_)
  · refine lv_iconst (v := iI 1) hx hb d_MO_blank_68 rfl ?_
    refine lv_goto (tgt := 73) hx hb d_MO_blank_69 (by decide) ?_
    subst hQ
    exact W.zret (v := iI 1) hx hb hr (by decide) (fun t h9 hW => ⟨_, rfl, Or.inl ⟨by unfold blkF; omega, rfl⟩, h9⟩) (fun _ h9 => by cases h9) d_MO_blank_73
  · refine lv_iload_n hx hb d_MO_blank_6 rfl (lv_at hl 1 rfl) ?_
    refine lv_bipush (v := iI 32) hx hb d_MO_blank_7 (by decide) ?_
    refine ix_icmp_eq (tgt := 68) hx hb d_MO_blank_9 (by decide) (by omega) (fun c_9 => ?_) (fun c_9 => ?_)
    · refine lv_iconst (v := iI 1) hx hb d_MO_blank_68 rfl ?_
      refine lv_goto (tgt := 73) hx hb d_MO_blank_69 (by decide) ?_
      subst hQ
      exact W.zret (v := iI 1) hx hb hr (by decide) (fun t h9 hW => ⟨_, rfl, Or.inl ⟨by unfold blkF; omega, rfl⟩, h9⟩) (fun _ h9 => by cases h9) d_MO_blank_73
    · refine lv_iload_n hx hb d_MO_blank_12 rfl (lv_at hl 1 rfl) ?_
      refine lv_sipush (v := iI 160) hx hb d_MO_blank_13 (by decide) ?_
      refine ix_icmp_eq (tgt := 68) hx hb d_MO_blank_16 (by decide) (by omega) (fun c_16 => ?_) (fun c_16 => ?_)
      · refine lv_iconst (v := iI 1) hx hb d_MO_blank_68 rfl ?_
        refine lv_goto (tgt := 73) hx hb d_MO_blank_69 (by decide) ?_
        subst hQ
        exact W.zret (v := iI 1) hx hb hr (by decide) (fun t h9 hW => ⟨_, rfl, Or.inl ⟨by unfold blkF; omega, rfl⟩, h9⟩) (fun _ h9 => by cases h9) d_MO_blank_73
      · refine lv_iload_n hx hb d_MO_blank_19 rfl (lv_at hl 1 rfl) ?_
        refine lv_sipush (v := iI 5760) hx hb d_MO_blank_20 (by decide) ?_
        refine ix_icmp_eq (tgt := 68) hx hb d_MO_blank_23 (by decide) (by omega) (fun c_23 => ?_) (fun c_23 => ?_)
        · refine lv_iconst (v := iI 1) hx hb d_MO_blank_68 rfl ?_
          refine lv_goto (tgt := 73) hx hb d_MO_blank_69 (by decide) ?_
          subst hQ
          exact W.zret (v := iI 1) hx hb hr (by decide) (fun t h9 hW => ⟨_, rfl, Or.inl ⟨by unfold blkF; omega, rfl⟩, h9⟩) (fun _ h9 => by cases h9) d_MO_blank_73
        · refine lv_iload_n hx hb d_MO_blank_26 rfl (lv_at hl 1 rfl) ?_
          refine lv_sipush (v := iI 6158) hx hb d_MO_blank_27 (by decide) ?_
          refine ix_icmp_eq (tgt := 68) hx hb d_MO_blank_30 (by decide) (by omega) (fun c_30 => ?_) (fun c_30 => ?_)
          · refine lv_iconst (v := iI 1) hx hb d_MO_blank_68 rfl ?_
            refine lv_goto (tgt := 73) hx hb d_MO_blank_69 (by decide) ?_
            subst hQ
            exact W.zret (v := iI 1) hx hb hr (by decide) (fun t h9 hW => ⟨_, rfl, Or.inl ⟨by unfold blkF; omega, rfl⟩, h9⟩) (fun _ h9 => by cases h9) d_MO_blank_73
          · refine lv_iload_n hx hb d_MO_blank_33 rfl (lv_at hl 1 rfl) ?_
            refine lv_sipush (v := iI 8192) hx hb d_MO_blank_34 (by decide) ?_
            refine ix_icmp_lt (tgt := 47) hx hb d_MO_blank_37 (by decide) (by omega) (fun c_37 => ?_) (fun c_37 => ?_)
            · refine lv_iload_n hx hb d_MO_blank_47 rfl (lv_at hl 1 rfl) ?_
              refine lv_sipush (v := iI 8239) hx hb d_MO_blank_48 (by decide) ?_
              refine ix_icmp_eq (tgt := 68) hx hb d_MO_blank_51 (by decide) (by omega) (fun c_51 => ?_) (fun c_51 => ?_)
              · refine lv_iconst (v := iI 1) hx hb d_MO_blank_68 rfl ?_
                refine lv_goto (tgt := 73) hx hb d_MO_blank_69 (by decide) ?_
                subst hQ
                exact W.zret (v := iI 1) hx hb hr (by decide) (fun t h9 hW => ⟨_, rfl, Or.inl ⟨by unfold blkF; omega, rfl⟩, h9⟩) (fun _ h9 => by cases h9) d_MO_blank_73
              · refine lv_iload_n hx hb d_MO_blank_54 rfl (lv_at hl 1 rfl) ?_
                refine lv_sipush (v := iI 8287) hx hb d_MO_blank_55 (by decide) ?_
                refine ix_icmp_eq (tgt := 68) hx hb d_MO_blank_58 (by decide) (by omega) (fun c_58 => ?_) (fun c_58 => ?_)
                · refine lv_iconst (v := iI 1) hx hb d_MO_blank_68 rfl ?_
                  refine lv_goto (tgt := 73) hx hb d_MO_blank_69 (by decide) ?_
                  subst hQ
                  exact W.zret (v := iI 1) hx hb hr (by decide) (fun t h9 hW => ⟨_, rfl, Or.inl ⟨by unfold blkF; omega, rfl⟩, h9⟩) (fun _ h9 => by cases h9) d_MO_blank_73
                · refine lv_iload_n hx hb d_MO_blank_61 rfl (lv_at hl 1 rfl) ?_
                  refine lv_sipush (v := iI 12288) hx hb d_MO_blank_62 (by decide) ?_
                  refine ix_icmp_ne (tgt := 72) hx hb d_MO_blank_65 (by decide) (by omega) (fun c_65 => ?_) (fun c_65 => ?_)
                  · refine lv_iconst (v := iI 0) hx hb d_MO_blank_72 rfl ?_
                    subst hQ
                    exact W.zret (v := iI 0) hx hb hr (by decide) (fun t h9 hW => ⟨_, rfl, Or.inr ⟨by unfold blkF; omega, rfl⟩, h9⟩) (fun _ h9 => by cases h9) d_MO_blank_73
                  · refine lv_iconst (v := iI 1) hx hb d_MO_blank_68 rfl ?_
                    refine lv_goto (tgt := 73) hx hb d_MO_blank_69 (by decide) ?_
                    subst hQ
                    exact W.zret (v := iI 1) hx hb hr (by decide) (fun t h9 hW => ⟨_, rfl, Or.inl ⟨by unfold blkF; omega, rfl⟩, h9⟩) (fun _ h9 => by cases h9) d_MO_blank_73
            · refine lv_iload_n hx hb d_MO_blank_40 rfl (lv_at hl 1 rfl) ?_
              refine lv_sipush (v := iI 8202) hx hb d_MO_blank_41 (by decide) ?_
              refine ix_icmp_le (tgt := 68) hx hb d_MO_blank_44 (by decide) (by omega) (fun c_44 => ?_) (fun c_44 => ?_)
              · refine lv_iconst (v := iI 1) hx hb d_MO_blank_68 rfl ?_
                refine lv_goto (tgt := 73) hx hb d_MO_blank_69 (by decide) ?_
                subst hQ
                exact W.zret (v := iI 1) hx hb hr (by decide) (fun t h9 hW => ⟨_, rfl, Or.inl ⟨by unfold blkF; omega, rfl⟩, h9⟩) (fun _ h9 => by cases h9) d_MO_blank_73
              · refine lv_iload_n hx hb d_MO_blank_47 rfl (lv_at hl 1 rfl) ?_
                refine lv_sipush (v := iI 8239) hx hb d_MO_blank_48 (by decide) ?_
                refine ix_icmp_eq (tgt := 68) hx hb d_MO_blank_51 (by decide) (by omega) (fun c_51 => ?_) (fun c_51 => ?_)
                · refine lv_iconst (v := iI 1) hx hb d_MO_blank_68 rfl ?_
                  refine lv_goto (tgt := 73) hx hb d_MO_blank_69 (by decide) ?_
                  subst hQ
                  exact W.zret (v := iI 1) hx hb hr (by decide) (fun t h9 hW => ⟨_, rfl, Or.inl ⟨by unfold blkF; omega, rfl⟩, h9⟩) (fun _ h9 => by cases h9) d_MO_blank_73
                · refine lv_iload_n hx hb d_MO_blank_54 rfl (lv_at hl 1 rfl) ?_
                  refine lv_sipush (v := iI 8287) hx hb d_MO_blank_55 (by decide) ?_
                  refine ix_icmp_eq (tgt := 68) hx hb d_MO_blank_58 (by decide) (by omega) (fun c_58 => ?_) (fun c_58 => ?_)
                  · refine lv_iconst (v := iI 1) hx hb d_MO_blank_68 rfl ?_
                    refine lv_goto (tgt := 73) hx hb d_MO_blank_69 (by decide) ?_
                    subst hQ
                    exact W.zret (v := iI 1) hx hb hr (by decide) (fun t h9 hW => ⟨_, rfl, Or.inl ⟨by unfold blkF; omega, rfl⟩, h9⟩) (fun _ h9 => by cases h9) d_MO_blank_73
                  · refine lv_iload_n hx hb d_MO_blank_61 rfl (lv_at hl 1 rfl) ?_
                    refine lv_sipush (v := iI 12288) hx hb d_MO_blank_62 (by decide) ?_
                    refine ix_icmp_ne (tgt := 72) hx hb d_MO_blank_65 (by decide) (by omega) (fun c_65 => ?_) (fun c_65 => ?_)
                    · refine lv_iconst (v := iI 0) hx hb d_MO_blank_72 rfl ?_
                      subst hQ
                      exact W.zret (v := iI 0) hx hb hr (by decide) (fun t h9 hW => ⟨_, rfl, Or.inr ⟨by unfold blkF; omega, rfl⟩, h9⟩) (fun _ h9 => by cases h9) d_MO_blank_73
                    · refine lv_iconst (v := iI 1) hx hb d_MO_blank_68 rfl ?_
                      refine lv_goto (tgt := 73) hx hb d_MO_blank_69 (by decide) ?_
                      subst hQ
                      exact W.zret (v := iI 1) hx hb hr (by decide) (fun t h9 hW => ⟨_, rfl, Or.inl ⟨by unfold blkF; omega, rfl⟩, h9⟩) (fun _ h9 => by cases h9) d_MO_blank_73
set_option maxHeartbeats 4000000 in
set_option maxRecDepth 100000 in
theorem c_MO_third (l : Launch) (g : zG) (r : Nat → Nat) (ut uc la wo : Int) (bw : Nat → Nat) (mt : Nat → Int) (ms : Int) (c : Int) (hc : -2147483648 ≤ c ∧ c ≤ 2147483647) : Met l y_MO_third w_MO_third (zr 0 0) (zP g [.ref (r 0), .int (iI c)] [(r 0, .inr (4, [.int (iI ut), .int (iI uc), .int (iI la), .int (iI wo), .ref (r 1), .ref (r 2), .ref (r 3), .int (iI ms), .ref (r 4)])), (r 1, .inl (zJ g, 139264, .inr (.inl (lA bw)))), (r 2, .inl (zBt g, 12544, .inl (ai kF))), (r 3, .inl (zI g, 4, .inl (ai mt))), (r 4, .inl (zI g, 14, .inl (ai PT)))]) (vp_Si (fun z => z = iI (thirdF c))) 0 0 (fun _ => False) := by
  refine Met.ofW (cc := b_MO_third) (maxL := 2) (ret := (some .int)) (by decide) rfl ?_
  intro p e s m args below meth cd s₁ B hml hv
  obtain ⟨hargs, hP, hK, hZ⟩ := hv
  have hx := B.exec
  have hb := B.bytes
  have hr := B.returns
  have ht : ∀ w ∈ lw_ok, w.before args s = true := fun w h => atoms_spec (ws := w_MO_third) B.pre w (List.mem_cons_of_mem _ h)
  have hown : s.vm.findClass R_MO = some m.cls := findClass_of_methodNamed B.named
  have hlocks := B.notSynchronized
  have hS : va_S (fun _ => False) s.heap s.heap [] := va_S.rf
  generalize hQ : MQ below _ args s 0 0 _ = Q
  have hl := lv_entry ([.ref (r 0), .int (iI c)]) (n := 2) (Nat.le_of_ble_eq_true rfl)
  rw [show entryFrame m args 2 = entryFrame m ([.ref (r 0), .int (iI c)] : List Value).toArray 2 by rw [hargs], lg_entry_eq]
  generalize (lg_sl ([.ref (r 0), .int (iI c)]) ++ List.replicate (2 - (lg_sl ([.ref (r 0), .int (iI c)])).length) Slot.unset).toArray = ls at hl ⊢
  have hl : lv_has ls 2 [(0, .ref (r 0)), (1, .int (iI c))] := hl
  refine lv_iload_n hx hb d_MO_third_0 rfl (lv_at hl 1 rfl) ?_
  refine lv_sipush (v := iI 383) hx hb d_MO_third_1 (by decide) ?_
  refine ix_icmp_ne (tgt := 10) hx hb d_MO_third_4 (by decide) (by omega) (fun c_4 => ?_) (fun c_4 => ?_)
  · refine lv_iload_n hx hb d_MO_third_10 rfl (lv_at hl 1 rfl) ?_
    refine lv_sipush (v := iI 8490) hx hb d_MO_third_11 (by decide) ?_
    refine ix_icmp_ne (tgt := 20) hx hb d_MO_third_14 (by decide) (by omega) (fun c_14 => ?_) (fun c_14 => ?_)
    · refine lv_iload_n hx hb d_MO_third_20 rfl (lv_at hl 1 rfl) ?_
      refine lv_sipush (v := iI 8491) hx hb d_MO_third_21 (by decide) ?_
      refine ix_icmp_ne (tgt := 31) hx hb d_MO_third_24 (by decide) (by omega) (fun c_24 => ?_) (fun c_24 => ?_)
      · refine lv_iload_n hx hb d_MO_third_31 rfl (lv_at hl 1 rfl) ?_
        refine lv_sipush (v := iI 181) hx hb d_MO_third_32 (by decide) ?_
        refine ix_icmp_ne (tgt := 42) hx hb d_MO_third_35 (by decide) (by omega) (fun c_35 => ?_) (fun c_35 => ?_)
        · refine lv_iload_n hx hb d_MO_third_42 rfl (lv_at hl 1 rfl) ?_
          refine lv_sipush (v := iI 962) hx hb d_MO_third_43 (by decide) ?_
          refine ix_icmp_ne (tgt := 55) hx hb d_MO_third_46 (by decide) (by omega) (fun c_46 => ?_) (fun c_46 => ?_)
          · refine lv_iconst (v := iI (-1)) hx hb d_MO_third_55 rfl ?_
            subst hQ
            exact W.iret (v := iI ((-1))) hx hb hr (fun t h9 hW => ⟨_, rfl, by first | (exfalso; omega) | (unfold thirdF; repeat (first | rw [if_pos (by omega)] | rw [if_neg (by omega)])), h9⟩) (fun _ h9 => by cases h9) d_MO_third_56
          · refine lv_sipush (v := iI 931) hx hb d_MO_third_49 (by decide) ?_
            refine lv_goto (tgt := 56) hx hb d_MO_third_52 (by decide) ?_
            subst hQ
            exact W.iret (v := iI 931) hx hb hr (fun t h9 hW => ⟨_, rfl, by first | (exfalso; omega) | (unfold thirdF; repeat (first | rw [if_pos (by omega)] | rw [if_neg (by omega)])), h9⟩) (fun _ h9 => by cases h9) d_MO_third_56
        · refine lv_sipush (v := iI 924) hx hb d_MO_third_38 (by decide) ?_
          subst hQ
          exact W.iret (v := iI 924) hx hb hr (fun t h9 hW => ⟨_, rfl, by first | (exfalso; omega) | (unfold thirdF; repeat (first | rw [if_pos (by omega)] | rw [if_neg (by omega)])), h9⟩) (fun _ h9 => by cases h9) d_MO_third_41
      · refine lv_sipush (v := iI 197) hx hb d_MO_third_27 (by decide) ?_
        subst hQ
        exact W.iret (v := iI 197) hx hb hr (fun t h9 hW => ⟨_, rfl, by first | (exfalso; omega) | (unfold thirdF; repeat (first | rw [if_pos (by omega)] | rw [if_neg (by omega)])), h9⟩) (fun _ h9 => by cases h9) d_MO_third_30
    · refine lv_bipush (v := iI 75) hx hb d_MO_third_17 (by decide) ?_
      subst hQ
      exact W.iret (v := iI 75) hx hb hr (fun t h9 hW => ⟨_, rfl, by first | (exfalso; omega) | (unfold thirdF; repeat (first | rw [if_pos (by omega)] | rw [if_neg (by omega)])), h9⟩) (fun _ h9 => by cases h9) d_MO_third_19
  · refine lv_bipush (v := iI 83) hx hb d_MO_third_7 (by decide) ?_
    subst hQ
    exact W.iret (v := iI 83) hx hb hr (fun t h9 hW => ⟨_, rfl, by first | (exfalso; omega) | (unfold thirdF; repeat (first | rw [if_pos (by omega)] | rw [if_neg (by omega)])), h9⟩) (fun _ h9 => by cases h9) d_MO_third_9
set_option maxHeartbeats 4000000 in
set_option maxRecDepth 100000 in
theorem c_MO_general (l : Launch) (g : zG) (r : Nat → Nat) (ut uc la wo : Int) (bw : Nat → Nat) (mt : Nat → Int) (ms : Int) (a t : Int) (ha : -2147483648 ≤ a ∧ a ≤ 2147483647 ∧ -2147483648 ≤ t ∧ t ≤ 2147483647) : Met l y_MO_general w_MO_general (zr 0 0) (zP g [.ref (r 0), .int (iI a), .int (iI t)] [(r 0, .inr (4, [.int (iI ut), .int (iI uc), .int (iI la), .int (iI wo), .ref (r 1), .ref (r 2), .ref (r 3), .int (iI ms), .ref (r 4)])), (r 1, .inl (zJ g, 139264, .inr (.inl (lA bw)))), (r 2, .inl (zBt g, 12544, .inl (ai kF))), (r 3, .inl (zI g, 4, .inl (ai mt))), (r 4, .inl (zI g, 14, .inl (ai PT)))]) (vp_Si (fun z => ((genF a t) ∧ z = iI 1) ∨ (¬ (genF a t) ∧ z = iI 0))) 0 0 (fun _ => False) := by
  refine Met.ofW (cc := b_MO_general) (maxL := 3) (ret := (some .boolean)) (by decide) rfl ?_
  intro p e s m args below meth cd s₁ B hml hv
  obtain ⟨hargs, hP, hK, hZ⟩ := hv
  have hx := B.exec
  have hb := B.bytes
  have hr := B.returns
  have ht : ∀ w ∈ lw_ok, w.before args s = true := fun w h => atoms_spec (ws := w_MO_general) B.pre w (List.mem_cons_of_mem _ h)
  have hown : s.vm.findClass R_MO = some m.cls := findClass_of_methodNamed B.named
  have hlocks := B.notSynchronized
  have hS : va_S (fun _ => False) s.heap s.heap [] := va_S.rf
  generalize hQ : MQ below _ args s 0 0 _ = Q
  have hl := lv_entry ([.ref (r 0), .int (iI a), .int (iI t)]) (n := 3) (Nat.le_of_ble_eq_true rfl)
  rw [show entryFrame m args 3 = entryFrame m ([.ref (r 0), .int (iI a), .int (iI t)] : List Value).toArray 3 by rw [hargs], lg_entry_eq]
  generalize (lg_sl ([.ref (r 0), .int (iI a), .int (iI t)]) ++ List.replicate (3 - (lg_sl ([.ref (r 0), .int (iI a), .int (iI t)])).length) Slot.unset).toArray = ls at hl ⊢
  have hl : lv_has ls 3 [(0, .ref (r 0)), (1, .int (iI a)), (2, .int (iI t))] := hl
  refine lv_iload_n hx hb d_MO_general_0 rfl (lv_at hl 1 rfl) ?_
  refine ix_if_ne (tgt := 15) hx hb d_MO_general_1 (by decide) (by omega) (fun c_1 => ?_) (fun c_1 => ?_)
  · refine lv_iload_n hx hb d_MO_general_15 rfl (lv_at hl 1 rfl) ?_
    refine lv_iconst (v := iI 1) hx hb d_MO_general_16 rfl ?_
    refine ix_icmp_ne (tgt := 37) hx hb d_MO_general_17 (by decide) (by omega) (fun c_17 => ?_) (fun c_17 => ?_)
    · refine lv_iload_n hx hb d_MO_general_37 rfl (lv_at hl 1 rfl) ?_
      refine lv_iconst (v := iI 2) hx hb d_MO_general_38 rfl ?_
      refine ix_icmp_ne (tgt := 54) hx hb d_MO_general_39 (by decide) (by omega) (fun c_39 => ?_) (fun c_39 => ?_)
      · refine lv_iload_n hx hb d_MO_general_54 rfl (lv_at hl 1 rfl) ?_
        refine lv_iconst (v := iI 3) hx hb d_MO_general_55 rfl ?_
        refine ix_icmp_ne (tgt := 77) hx hb d_MO_general_56 (by decide) (by omega) (fun c_56 => ?_) (fun c_56 => ?_)
        · refine lv_iload_n hx hb d_MO_general_77 rfl (lv_at hl 1 rfl) ?_
          refine lv_iconst (v := iI 4) hx hb d_MO_general_78 rfl ?_
          refine ix_icmp_ne (tgt := 100) hx hb d_MO_general_79 (by decide) (by omega) (fun c_79 => ?_) (fun c_79 => ?_)
          · refine lv_iload_n hx hb d_MO_general_100 rfl (lv_at hl 1 rfl) ?_
            refine lv_iconst (v := iI 5) hx hb d_MO_general_101 rfl ?_
            refine ix_icmp_ne (tgt := 123) hx hb d_MO_general_102 (by decide) (by omega) (fun c_102 => ?_) (fun c_102 => ?_)
            · refine lv_iload_n hx hb d_MO_general_123 rfl (lv_at hl 2 rfl) ?_
              refine lv_bipush (v := iI 22) hx hb d_MO_general_124 (by decide) ?_
              refine ix_icmp_lt (tgt := 133) hx hb d_MO_general_126 (by decide) (by omega) (fun c_126 => ?_) (fun c_126 => ?_)
              · refine lv_iconst (v := iI 0) hx hb d_MO_general_133 rfl ?_
                subst hQ
                exact W.zret (v := iI 0) hx hb hr (by decide) (fun t h9 hW => ⟨_, rfl, Or.inr ⟨by unfold genF; omega, rfl⟩, h9⟩) (fun _ h9 => by cases h9) d_MO_general_134
              · refine lv_iconst (v := iI 1) hx hb d_MO_general_129 rfl ?_
                refine lv_goto (tgt := 134) hx hb d_MO_general_130 (by decide) ?_
                subst hQ
                exact W.zret (v := iI 1) hx hb hr (by decide) (fun t h9 hW => ⟨_, rfl, Or.inl ⟨by unfold genF; omega, rfl⟩, h9⟩) (fun _ h9 => by cases h9) d_MO_general_134
            · refine lv_iload_n hx hb d_MO_general_105 rfl (lv_at hl 2 rfl) ?_
              refine lv_bipush (v := iI 18) hx hb d_MO_general_106 (by decide) ?_
              refine ix_icmp_lt (tgt := 121) hx hb d_MO_general_108 (by decide) (by omega) (fun c_108 => ?_) (fun c_108 => ?_)
              · refine lv_iconst (v := iI 0) hx hb d_MO_general_121 rfl ?_
                subst hQ
                exact W.zret (v := iI 0) hx hb hr (by decide) (fun t h9 hW => ⟨_, rfl, Or.inr ⟨by unfold genF; omega, rfl⟩, h9⟩) (fun _ h9 => by cases h9) d_MO_general_122
              · refine lv_iload_n hx hb d_MO_general_111 rfl (lv_at hl 2 rfl) ?_
                refine lv_bipush (v := iI 22) hx hb d_MO_general_112 (by decide) ?_
                refine ix_icmp_ge (tgt := 121) hx hb d_MO_general_114 (by decide) (by omega) (fun c_114 => ?_) (fun c_114 => ?_)
                · refine lv_iconst (v := iI 0) hx hb d_MO_general_121 rfl ?_
                  subst hQ
                  exact W.zret (v := iI 0) hx hb hr (by decide) (fun t h9 hW => ⟨_, rfl, Or.inr ⟨by unfold genF; omega, rfl⟩, h9⟩) (fun _ h9 => by cases h9) d_MO_general_122
                · refine lv_iconst (v := iI 1) hx hb d_MO_general_117 rfl ?_
                  refine lv_goto (tgt := 122) hx hb d_MO_general_118 (by decide) ?_
                  subst hQ
                  exact W.zret (v := iI 1) hx hb hr (by decide) (fun t h9 hW => ⟨_, rfl, Or.inl ⟨by unfold genF; omega, rfl⟩, h9⟩) (fun _ h9 => by cases h9) d_MO_general_122
          · refine lv_iload_n hx hb d_MO_general_82 rfl (lv_at hl 2 rfl) ?_
            refine lv_bipush (v := iI 11) hx hb d_MO_general_83 (by decide) ?_
            refine ix_icmp_lt (tgt := 98) hx hb d_MO_general_85 (by decide) (by omega) (fun c_85 => ?_) (fun c_85 => ?_)
            · refine lv_iconst (v := iI 0) hx hb d_MO_general_98 rfl ?_
              subst hQ
              exact W.zret (v := iI 0) hx hb hr (by decide) (fun t h9 hW => ⟨_, rfl, Or.inr ⟨by unfold genF; omega, rfl⟩, h9⟩) (fun _ h9 => by cases h9) d_MO_general_99
            · refine lv_iload_n hx hb d_MO_general_88 rfl (lv_at hl 2 rfl) ?_
              refine lv_bipush (v := iI 18) hx hb d_MO_general_89 (by decide) ?_
              refine ix_icmp_ge (tgt := 98) hx hb d_MO_general_91 (by decide) (by omega) (fun c_91 => ?_) (fun c_91 => ?_)
              · refine lv_iconst (v := iI 0) hx hb d_MO_general_98 rfl ?_
                subst hQ
                exact W.zret (v := iI 0) hx hb hr (by decide) (fun t h9 hW => ⟨_, rfl, Or.inr ⟨by unfold genF; omega, rfl⟩, h9⟩) (fun _ h9 => by cases h9) d_MO_general_99
              · refine lv_iconst (v := iI 1) hx hb d_MO_general_94 rfl ?_
                refine lv_goto (tgt := 99) hx hb d_MO_general_95 (by decide) ?_
                subst hQ
                exact W.zret (v := iI 1) hx hb hr (by decide) (fun t h9 hW => ⟨_, rfl, Or.inl ⟨by unfold genF; omega, rfl⟩, h9⟩) (fun _ h9 => by cases h9) d_MO_general_99
        · refine lv_iload_n hx hb d_MO_general_59 rfl (lv_at hl 2 rfl) ?_
          refine lv_bipush (v := iI 8) hx hb d_MO_general_60 (by decide) ?_
          refine ix_icmp_lt (tgt := 75) hx hb d_MO_general_62 (by decide) (by omega) (fun c_62 => ?_) (fun c_62 => ?_)
          · refine lv_iconst (v := iI 0) hx hb d_MO_general_75 rfl ?_
            subst hQ
            exact W.zret (v := iI 0) hx hb hr (by decide) (fun t h9 hW => ⟨_, rfl, Or.inr ⟨by unfold genF; omega, rfl⟩, h9⟩) (fun _ h9 => by cases h9) d_MO_general_76
          · refine lv_iload_n hx hb d_MO_general_65 rfl (lv_at hl 2 rfl) ?_
            refine lv_bipush (v := iI 11) hx hb d_MO_general_66 (by decide) ?_
            refine ix_icmp_ge (tgt := 75) hx hb d_MO_general_68 (by decide) (by omega) (fun c_68 => ?_) (fun c_68 => ?_)
            · refine lv_iconst (v := iI 0) hx hb d_MO_general_75 rfl ?_
              subst hQ
              exact W.zret (v := iI 0) hx hb hr (by decide) (fun t h9 hW => ⟨_, rfl, Or.inr ⟨by unfold genF; omega, rfl⟩, h9⟩) (fun _ h9 => by cases h9) d_MO_general_76
            · refine lv_iconst (v := iI 1) hx hb d_MO_general_71 rfl ?_
              refine lv_goto (tgt := 76) hx hb d_MO_general_72 (by decide) ?_
              subst hQ
              exact W.zret (v := iI 1) hx hb hr (by decide) (fun t h9 hW => ⟨_, rfl, Or.inl ⟨by unfold genF; omega, rfl⟩, h9⟩) (fun _ h9 => by cases h9) d_MO_general_76
      · refine lv_iload_n hx hb d_MO_general_42 rfl (lv_at hl 2 rfl) ?_
        refine lv_bipush (v := iI 7) hx hb d_MO_general_43 (by decide) ?_
        refine ix_icmp_ne (tgt := 52) hx hb d_MO_general_45 (by decide) (by omega) (fun c_45 => ?_) (fun c_45 => ?_)
        · refine lv_iconst (v := iI 0) hx hb d_MO_general_52 rfl ?_
          subst hQ
          exact W.zret (v := iI 0) hx hb hr (by decide) (fun t h9 hW => ⟨_, rfl, Or.inr ⟨by unfold genF; omega, rfl⟩, h9⟩) (fun _ h9 => by cases h9) d_MO_general_53
        · refine lv_iconst (v := iI 1) hx hb d_MO_general_48 rfl ?_
          refine lv_goto (tgt := 53) hx hb d_MO_general_49 (by decide) ?_
          subst hQ
          exact W.zret (v := iI 1) hx hb hr (by decide) (fun t h9 hW => ⟨_, rfl, Or.inl ⟨by unfold genF; omega, rfl⟩, h9⟩) (fun _ h9 => by cases h9) d_MO_general_53
    · refine lv_iload_n hx hb d_MO_general_20 rfl (lv_at hl 2 rfl) ?_
      refine lv_iconst (v := iI 4) hx hb d_MO_general_21 rfl ?_
      refine ix_icmp_lt (tgt := 35) hx hb d_MO_general_22 (by decide) (by omega) (fun c_22 => ?_) (fun c_22 => ?_)
      · refine lv_iconst (v := iI 0) hx hb d_MO_general_35 rfl ?_
        subst hQ
        exact W.zret (v := iI 0) hx hb hr (by decide) (fun t h9 hW => ⟨_, rfl, Or.inr ⟨by unfold genF; omega, rfl⟩, h9⟩) (fun _ h9 => by cases h9) d_MO_general_36
      · refine lv_iload_n hx hb d_MO_general_25 rfl (lv_at hl 2 rfl) ?_
        refine lv_bipush (v := iI 7) hx hb d_MO_general_26 (by decide) ?_
        refine ix_icmp_ge (tgt := 35) hx hb d_MO_general_28 (by decide) (by omega) (fun c_28 => ?_) (fun c_28 => ?_)
        · refine lv_iconst (v := iI 0) hx hb d_MO_general_35 rfl ?_
          subst hQ
          exact W.zret (v := iI 0) hx hb hr (by decide) (fun t h9 hW => ⟨_, rfl, Or.inr ⟨by unfold genF; omega, rfl⟩, h9⟩) (fun _ h9 => by cases h9) d_MO_general_36
        · refine lv_iconst (v := iI 1) hx hb d_MO_general_31 rfl ?_
          refine lv_goto (tgt := 36) hx hb d_MO_general_32 (by decide) ?_
          subst hQ
          exact W.zret (v := iI 1) hx hb hr (by decide) (fun t h9 hW => ⟨_, rfl, Or.inl ⟨by unfold genF; omega, rfl⟩, h9⟩) (fun _ h9 => by cases h9) d_MO_general_36
  · refine lv_iload_n hx hb d_MO_general_4 rfl (lv_at hl 2 rfl) ?_
    refine lv_iconst (v := iI 4) hx hb d_MO_general_5 rfl ?_
    refine ix_icmp_ge (tgt := 13) hx hb d_MO_general_6 (by decide) (by omega) (fun c_6 => ?_) (fun c_6 => ?_)
    · refine lv_iconst (v := iI 0) hx hb d_MO_general_13 rfl ?_
      subst hQ
      exact W.zret (v := iI 0) hx hb hr (by decide) (fun t h9 hW => ⟨_, rfl, Or.inr ⟨by unfold genF; omega, rfl⟩, h9⟩) (fun _ h9 => by cases h9) d_MO_general_14
    · refine lv_iconst (v := iI 1) hx hb d_MO_general_9 rfl ?_
      refine lv_goto (tgt := 14) hx hb d_MO_general_10 (by decide) ?_
      subst hQ
      exact W.zret (v := iI 1) hx hb hr (by decide) (fun t h9 hW => ⟨_, rfl, Or.inl ⟨by unfold genF; omega, rfl⟩, h9⟩) (fun _ h9 => by cases h9) d_MO_general_14
set_option maxHeartbeats 4000000 in
set_option maxRecDepth 100000 in
theorem c_MO_category (l : Launch) (g : zG) (r : Nat → Nat) (ut uc la wo : Int) (bw : Nat → Nat) (mt : Nat → Int) (ms : Int) (c : Int) (hc : 0 ≤ c ∧ c ≤ 1114111) : Met l y_MO_category w_MO_category (zr 0 0) (zP g [.ref (r 0), .int (iI c)] [(r 0, .inr (4, [.int (iI ut), .int (iI uc), .int (iI la), .int (iI wo), .ref (r 1), .ref (r 2), .ref (r 3), .int (iI ms), .ref (r 4)])), (r 1, .inl (zJ g, 139264, .inr (.inl (lA bw)))), (r 2, .inl (zBt g, 12544, .inl (ai kF))), (r 3, .inl (zI g, 4, .inl (ai mt))), (r 4, .inl (zI g, 14, .inl (ai PT)))]) (vp_Si (fun z => z = iI (catF c))) 0 0 (fun _ => False) := by
  refine Met.ofW (cc := b_MO_category) (maxL := 2) (ret := (some .int)) (by decide) rfl ?_
  intro p e s m args below meth cd s₁ B hml hv
  obtain ⟨hargs, hP, hK, hZ⟩ := hv
  have hx := B.exec
  have hb := B.bytes
  have hr := B.returns
  have ht : ∀ w ∈ lw_ok, w.before args s = true := fun w h => atoms_spec (ws := w_MO_category) B.pre w (List.mem_cons_of_mem _ h)
  have hown : s.vm.findClass R_MO = some m.cls := findClass_of_methodNamed B.named
  have hlocks := B.notSynchronized
  have hS : va_S (fun _ => False) s.heap s.heap [] := va_S.rf
  generalize hQ : MQ below _ args s 0 0 _ = Q
  have hl := lv_entry ([.ref (r 0), .int (iI c)]) (n := 2) (Nat.le_of_ble_eq_true rfl)
  rw [show entryFrame m args 2 = entryFrame m ([.ref (r 0), .int (iI c)] : List Value).toArray 2 by rw [hargs], lg_entry_eq]
  generalize (lg_sl ([.ref (r 0), .int (iI c)]) ++ List.replicate (2 - (lg_sl ([.ref (r 0), .int (iI c)])).length) Slot.unset).toArray = ls at hl ⊢
  have hl : lv_has ls 2 [(0, .ref (r 0)), (1, .int (iI c))] := hl
  refine lv_iload_n hx hb d_MO_category_0 rfl (lv_at hl 1 rfl) ?_
  refine lv_sipush (v := iI 12544) hx hb d_MO_category_1 (by decide) ?_
  refine ix_icmp_ge (tgt := 14) hx hb d_MO_category_4 (by decide) (by omega) (fun c_4 => ?_) (fun c_4 => ?_)
  · refine lv_iload_n hx hb d_MO_category_14 rfl (lv_at hl 1 rfl) ?_
    refine lv_sipush (v := iI 19968) hx hb d_MO_category_15 (by decide) ?_
    refine ix_icmp_lt (tgt := 27) hx hb d_MO_category_18 (by decide) (by omega) (fun c_18 => ?_) (fun c_18 => ?_)
    · refine lv_iload_n hx hb d_MO_category_27 rfl (lv_at hl 1 rfl) ?_
      refine lv_ldc (v := iI 44032) hx hb hown (ht _ k_386) d_MO_category_28 ?_
      refine ix_icmp_lt (tgt := 41) hx hb d_MO_category_30 (by decide) (by omega) (fun c_30 => ?_) (fun c_30 => ?_)
      · refine lv_iload_n hx hb d_MO_category_41 rfl (lv_at hl 1 rfl) ?_
        refine lv_ldc (v := iI 57344) hx hb hown (ht _ k_388) d_MO_category_42 ?_
        refine ix_icmp_lt (tgt := 55) hx hb d_MO_category_44 (by decide) (by omega) (fun c_44 => ?_) (fun c_44 => ?_)
        · refine lv_iload_n hx hb d_MO_category_55 rfl (lv_at hl 1 rfl) ?_
          refine lv_ldc (v := iI 65039) hx hb hown (ht _ k_390) d_MO_category_56 ?_
          refine ix_icmp_ne (tgt := 64) hx hb d_MO_category_58 (by decide) (by omega) (fun c_58 => ?_) (fun c_58 => ?_)
          · refine lv_iload_n hx hb d_MO_category_64 rfl (lv_at hl 1 rfl) ?_
            refine lv_ldc (v := iI 65279) hx hb hown (ht _ k_392) d_MO_category_65 ?_
            refine ix_icmp_ne (tgt := 72) hx hb d_MO_category_67 (by decide) (by omega) (fun c_67 => ?_) (fun c_67 => ?_)
            · refine lv_iload_n hx hb d_MO_category_72 rfl (lv_at hl 1 rfl) ?_
              refine lv_ldc (v := iI 127744) hx hb hown (ht _ k_394) d_MO_category_73 ?_
              refine ix_icmp_lt (tgt := 89) hx hb d_MO_category_75 (by decide) (by omega) (fun c_75 => ?_) (fun c_75 => ?_)
              · refine lv_iconst (v := iI 0) hx hb d_MO_category_89 rfl ?_
                subst hQ
                exact W.iret (v := iI 0) hx hb hr (fun t h9 hW => ⟨_, rfl, by first | (exfalso; omega) | (unfold catF; repeat (first | rw [if_pos (by omega)] | rw [if_neg (by omega)])), h9⟩) (fun _ h9 => by cases h9) d_MO_category_90
              · refine lv_iload_n hx hb d_MO_category_78 rfl (lv_at hl 1 rfl) ?_
                refine lv_ldc (v := iI 128591) hx hb hown (ht _ k_496) d_MO_category_79 ?_
                refine ix_icmp_gt (tgt := 89) hx hb d_MO_category_81 (by decide) (by omega) (fun c_81 => ?_) (fun c_81 => ?_)
                · refine lv_iconst (v := iI 0) hx hb d_MO_category_89 rfl ?_
                  subst hQ
                  exact W.iret (v := iI 0) hx hb hr (fun t h9 hW => ⟨_, rfl, by first | (exfalso; omega) | (unfold catF; repeat (first | rw [if_pos (by omega)] | rw [if_neg (by omega)])), h9⟩) (fun _ h9 => by cases h9) d_MO_category_90
                · refine lv_bipush (v := iI 21) hx hb d_MO_category_84 (by decide) ?_
                  refine lv_goto (tgt := 90) hx hb d_MO_category_86 (by decide) ?_
                  subst hQ
                  exact W.iret (v := iI 21) hx hb hr (fun t h9 hW => ⟨_, rfl, by first | (exfalso; omega) | (unfold catF; repeat (first | rw [if_pos (by omega)] | rw [if_neg (by omega)])), h9⟩) (fun _ h9 => by cases h9) d_MO_category_90
            · refine lv_iconst (v := iI 2) hx hb d_MO_category_70 rfl ?_
              subst hQ
              exact W.iret (v := iI 2) hx hb hr (fun t h9 hW => ⟨_, rfl, by first | (exfalso; omega) | (unfold catF; repeat (first | rw [if_pos (by omega)] | rw [if_neg (by omega)])), h9⟩) (fun _ h9 => by cases h9) d_MO_category_71
          · refine lv_bipush (v := iI 7) hx hb d_MO_category_61 (by decide) ?_
            subst hQ
            exact W.iret (v := iI 7) hx hb hr (fun t h9 hW => ⟨_, rfl, by first | (exfalso; omega) | (unfold catF; repeat (first | rw [if_pos (by omega)] | rw [if_neg (by omega)])), h9⟩) (fun _ h9 => by cases h9) d_MO_category_63
        · refine lv_iload_n hx hb d_MO_category_47 rfl (lv_at hl 1 rfl) ?_
          refine lv_ldc (v := iI 63743) hx hb hown (ht _ k_495) d_MO_category_48 ?_
          refine ix_icmp_gt (tgt := 55) hx hb d_MO_category_50 (by decide) (by omega) (fun c_50 => ?_) (fun c_50 => ?_)
          · refine lv_iload_n hx hb d_MO_category_55 rfl (lv_at hl 1 rfl) ?_
            refine lv_ldc (v := iI 65039) hx hb hown (ht _ k_390) d_MO_category_56 ?_
            refine ix_icmp_ne (tgt := 64) hx hb d_MO_category_58 (by decide) (by omega) (fun c_58 => ?_) (fun c_58 => ?_)
            · refine lv_iload_n hx hb d_MO_category_64 rfl (lv_at hl 1 rfl) ?_
              refine lv_ldc (v := iI 65279) hx hb hown (ht _ k_392) d_MO_category_65 ?_
              refine ix_icmp_ne (tgt := 72) hx hb d_MO_category_67 (by decide) (by omega) (fun c_67 => ?_) (fun c_67 => ?_)
              · refine lv_iload_n hx hb d_MO_category_72 rfl (lv_at hl 1 rfl) ?_
                refine lv_ldc (v := iI 127744) hx hb hown (ht _ k_394) d_MO_category_73 ?_
                refine ix_icmp_lt (tgt := 89) hx hb d_MO_category_75 (by decide) (by omega) (fun c_75 => ?_) (fun c_75 => ?_)
                · refine lv_iconst (v := iI 0) hx hb d_MO_category_89 rfl ?_
                  subst hQ
                  exact W.iret (v := iI 0) hx hb hr (fun t h9 hW => ⟨_, rfl, by first | (exfalso; omega) | (unfold catF; repeat (first | rw [if_pos (by omega)] | rw [if_neg (by omega)])), h9⟩) (fun _ h9 => by cases h9) d_MO_category_90
                · refine lv_iload_n hx hb d_MO_category_78 rfl (lv_at hl 1 rfl) ?_
                  refine lv_ldc (v := iI 128591) hx hb hown (ht _ k_496) d_MO_category_79 ?_
                  refine ix_icmp_gt (tgt := 89) hx hb d_MO_category_81 (by decide) (by omega) (fun c_81 => ?_) (fun c_81 => ?_)
                  · refine lv_iconst (v := iI 0) hx hb d_MO_category_89 rfl ?_
                    subst hQ
                    exact W.iret (v := iI 0) hx hb hr (fun t h9 hW => ⟨_, rfl, by first | (exfalso; omega) | (unfold catF; repeat (first | rw [if_pos (by omega)] | rw [if_neg (by omega)])), h9⟩) (fun _ h9 => by cases h9) d_MO_category_90
                  · refine lv_bipush (v := iI 21) hx hb d_MO_category_84 (by decide) ?_
                    refine lv_goto (tgt := 90) hx hb d_MO_category_86 (by decide) ?_
                    subst hQ
                    exact W.iret (v := iI 21) hx hb hr (fun t h9 hW => ⟨_, rfl, by first | (exfalso; omega) | (unfold catF; repeat (first | rw [if_pos (by omega)] | rw [if_neg (by omega)])), h9⟩) (fun _ h9 => by cases h9) d_MO_category_90
              · refine lv_iconst (v := iI 2) hx hb d_MO_category_70 rfl ?_
                subst hQ
                exact W.iret (v := iI 2) hx hb hr (fun t h9 hW => ⟨_, rfl, by first | (exfalso; omega) | (unfold catF; repeat (first | rw [if_pos (by omega)] | rw [if_neg (by omega)])), h9⟩) (fun _ h9 => by cases h9) d_MO_category_71
            · refine lv_bipush (v := iI 7) hx hb d_MO_category_61 (by decide) ?_
              subst hQ
              exact W.iret (v := iI 7) hx hb hr (fun t h9 hW => ⟨_, rfl, by first | (exfalso; omega) | (unfold catF; repeat (first | rw [if_pos (by omega)] | rw [if_neg (by omega)])), h9⟩) (fun _ h9 => by cases h9) d_MO_category_63
          · refine lv_iconst (v := iI 3) hx hb d_MO_category_53 rfl ?_
            subst hQ
            exact W.iret (v := iI 3) hx hb hr (fun t h9 hW => ⟨_, rfl, by first | (exfalso; omega) | (unfold catF; repeat (first | rw [if_pos (by omega)] | rw [if_neg (by omega)])), h9⟩) (fun _ h9 => by cases h9) d_MO_category_54
      · refine lv_iload_n hx hb d_MO_category_33 rfl (lv_at hl 1 rfl) ?_
        refine lv_ldc (v := iI 55203) hx hb hown (ht _ k_494) d_MO_category_34 ?_
        refine ix_icmp_gt (tgt := 41) hx hb d_MO_category_36 (by decide) (by omega) (fun c_36 => ?_) (fun c_36 => ?_)
        · refine lv_iload_n hx hb d_MO_category_41 rfl (lv_at hl 1 rfl) ?_
          refine lv_ldc (v := iI 57344) hx hb hown (ht _ k_388) d_MO_category_42 ?_
          refine ix_icmp_lt (tgt := 55) hx hb d_MO_category_44 (by decide) (by omega) (fun c_44 => ?_) (fun c_44 => ?_)
          · refine lv_iload_n hx hb d_MO_category_55 rfl (lv_at hl 1 rfl) ?_
            refine lv_ldc (v := iI 65039) hx hb hown (ht _ k_390) d_MO_category_56 ?_
            refine ix_icmp_ne (tgt := 64) hx hb d_MO_category_58 (by decide) (by omega) (fun c_58 => ?_) (fun c_58 => ?_)
            · refine lv_iload_n hx hb d_MO_category_64 rfl (lv_at hl 1 rfl) ?_
              refine lv_ldc (v := iI 65279) hx hb hown (ht _ k_392) d_MO_category_65 ?_
              refine ix_icmp_ne (tgt := 72) hx hb d_MO_category_67 (by decide) (by omega) (fun c_67 => ?_) (fun c_67 => ?_)
              · refine lv_iload_n hx hb d_MO_category_72 rfl (lv_at hl 1 rfl) ?_
                refine lv_ldc (v := iI 127744) hx hb hown (ht _ k_394) d_MO_category_73 ?_
                refine ix_icmp_lt (tgt := 89) hx hb d_MO_category_75 (by decide) (by omega) (fun c_75 => ?_) (fun c_75 => ?_)
                · refine lv_iconst (v := iI 0) hx hb d_MO_category_89 rfl ?_
                  subst hQ
                  exact W.iret (v := iI 0) hx hb hr (fun t h9 hW => ⟨_, rfl, by first | (exfalso; omega) | (unfold catF; repeat (first | rw [if_pos (by omega)] | rw [if_neg (by omega)])), h9⟩) (fun _ h9 => by cases h9) d_MO_category_90
                · refine lv_iload_n hx hb d_MO_category_78 rfl (lv_at hl 1 rfl) ?_
                  refine lv_ldc (v := iI 128591) hx hb hown (ht _ k_496) d_MO_category_79 ?_
                  refine ix_icmp_gt (tgt := 89) hx hb d_MO_category_81 (by decide) (by omega) (fun c_81 => ?_) (fun c_81 => ?_)
                  · refine lv_iconst (v := iI 0) hx hb d_MO_category_89 rfl ?_
                    subst hQ
                    exact W.iret (v := iI 0) hx hb hr (fun t h9 hW => ⟨_, rfl, by first | (exfalso; omega) | (unfold catF; repeat (first | rw [if_pos (by omega)] | rw [if_neg (by omega)])), h9⟩) (fun _ h9 => by cases h9) d_MO_category_90
                  · refine lv_bipush (v := iI 21) hx hb d_MO_category_84 (by decide) ?_
                    refine lv_goto (tgt := 90) hx hb d_MO_category_86 (by decide) ?_
                    subst hQ
                    exact W.iret (v := iI 21) hx hb hr (fun t h9 hW => ⟨_, rfl, by first | (exfalso; omega) | (unfold catF; repeat (first | rw [if_pos (by omega)] | rw [if_neg (by omega)])), h9⟩) (fun _ h9 => by cases h9) d_MO_category_90
              · refine lv_iconst (v := iI 2) hx hb d_MO_category_70 rfl ?_
                subst hQ
                exact W.iret (v := iI 2) hx hb hr (fun t h9 hW => ⟨_, rfl, by first | (exfalso; omega) | (unfold catF; repeat (first | rw [if_pos (by omega)] | rw [if_neg (by omega)])), h9⟩) (fun _ h9 => by cases h9) d_MO_category_71
            · refine lv_bipush (v := iI 7) hx hb d_MO_category_61 (by decide) ?_
              subst hQ
              exact W.iret (v := iI 7) hx hb hr (fun t h9 hW => ⟨_, rfl, by first | (exfalso; omega) | (unfold catF; repeat (first | rw [if_pos (by omega)] | rw [if_neg (by omega)])), h9⟩) (fun _ h9 => by cases h9) d_MO_category_63
          · refine lv_iload_n hx hb d_MO_category_47 rfl (lv_at hl 1 rfl) ?_
            refine lv_ldc (v := iI 63743) hx hb hown (ht _ k_495) d_MO_category_48 ?_
            refine ix_icmp_gt (tgt := 55) hx hb d_MO_category_50 (by decide) (by omega) (fun c_50 => ?_) (fun c_50 => ?_)
            · refine lv_iload_n hx hb d_MO_category_55 rfl (lv_at hl 1 rfl) ?_
              refine lv_ldc (v := iI 65039) hx hb hown (ht _ k_390) d_MO_category_56 ?_
              refine ix_icmp_ne (tgt := 64) hx hb d_MO_category_58 (by decide) (by omega) (fun c_58 => ?_) (fun c_58 => ?_)
              · refine lv_iload_n hx hb d_MO_category_64 rfl (lv_at hl 1 rfl) ?_
                refine lv_ldc (v := iI 65279) hx hb hown (ht _ k_392) d_MO_category_65 ?_
                refine ix_icmp_ne (tgt := 72) hx hb d_MO_category_67 (by decide) (by omega) (fun c_67 => ?_) (fun c_67 => ?_)
                · refine lv_iload_n hx hb d_MO_category_72 rfl (lv_at hl 1 rfl) ?_
                  refine lv_ldc (v := iI 127744) hx hb hown (ht _ k_394) d_MO_category_73 ?_
                  refine ix_icmp_lt (tgt := 89) hx hb d_MO_category_75 (by decide) (by omega) (fun c_75 => ?_) (fun c_75 => ?_)
                  · refine lv_iconst (v := iI 0) hx hb d_MO_category_89 rfl ?_
                    subst hQ
                    exact W.iret (v := iI 0) hx hb hr (fun t h9 hW => ⟨_, rfl, by first | (exfalso; omega) | (unfold catF; repeat (first | rw [if_pos (by omega)] | rw [if_neg (by omega)])), h9⟩) (fun _ h9 => by cases h9) d_MO_category_90
                  · refine lv_iload_n hx hb d_MO_category_78 rfl (lv_at hl 1 rfl) ?_
                    refine lv_ldc (v := iI 128591) hx hb hown (ht _ k_496) d_MO_category_79 ?_
                    refine ix_icmp_gt (tgt := 89) hx hb d_MO_category_81 (by decide) (by omega) (fun c_81 => ?_) (fun c_81 => ?_)
                    · refine lv_iconst (v := iI 0) hx hb d_MO_category_89 rfl ?_
                      subst hQ
                      exact W.iret (v := iI 0) hx hb hr (fun t h9 hW => ⟨_, rfl, by first | (exfalso; omega) | (unfold catF; repeat (first | rw [if_pos (by omega)] | rw [if_neg (by omega)])), h9⟩) (fun _ h9 => by cases h9) d_MO_category_90
                    · refine lv_bipush (v := iI 21) hx hb d_MO_category_84 (by decide) ?_
                      refine lv_goto (tgt := 90) hx hb d_MO_category_86 (by decide) ?_
                      subst hQ
                      exact W.iret (v := iI 21) hx hb hr (fun t h9 hW => ⟨_, rfl, by first | (exfalso; omega) | (unfold catF; repeat (first | rw [if_pos (by omega)] | rw [if_neg (by omega)])), h9⟩) (fun _ h9 => by cases h9) d_MO_category_90
                · refine lv_iconst (v := iI 2) hx hb d_MO_category_70 rfl ?_
                  subst hQ
                  exact W.iret (v := iI 2) hx hb hr (fun t h9 hW => ⟨_, rfl, by first | (exfalso; omega) | (unfold catF; repeat (first | rw [if_pos (by omega)] | rw [if_neg (by omega)])), h9⟩) (fun _ h9 => by cases h9) d_MO_category_71
              · refine lv_bipush (v := iI 7) hx hb d_MO_category_61 (by decide) ?_
                subst hQ
                exact W.iret (v := iI 7) hx hb hr (fun t h9 hW => ⟨_, rfl, by first | (exfalso; omega) | (unfold catF; repeat (first | rw [if_pos (by omega)] | rw [if_neg (by omega)])), h9⟩) (fun _ h9 => by cases h9) d_MO_category_63
            · refine lv_iconst (v := iI 3) hx hb d_MO_category_53 rfl ?_
              subst hQ
              exact W.iret (v := iI 3) hx hb hr (fun t h9 hW => ⟨_, rfl, by first | (exfalso; omega) | (unfold catF; repeat (first | rw [if_pos (by omega)] | rw [if_neg (by omega)])), h9⟩) (fun _ h9 => by cases h9) d_MO_category_54
        · refine lv_iconst (v := iI 5) hx hb d_MO_category_39 rfl ?_
          subst hQ
          exact W.iret (v := iI 5) hx hb hr (fun t h9 hW => ⟨_, rfl, by first | (exfalso; omega) | (unfold catF; repeat (first | rw [if_pos (by omega)] | rw [if_neg (by omega)])), h9⟩) (fun _ h9 => by cases h9) d_MO_category_40
    · refine lv_iload_n hx hb d_MO_category_21 rfl (lv_at hl 1 rfl) ?_
      refine lv_ldc (v := iI 40959) hx hb hown (ht _ k_493) d_MO_category_22 ?_
      refine ix_icmp_le (tgt := 39) hx hb d_MO_category_24 (by decide) (by omega) (fun c_24 => ?_) (fun c_24 => ?_)
      · refine lv_iconst (v := iI 5) hx hb d_MO_category_39 rfl ?_
        subst hQ
        exact W.iret (v := iI 5) hx hb hr (fun t h9 hW => ⟨_, rfl, by first | (exfalso; omega) | (unfold catF; repeat (first | rw [if_pos (by omega)] | rw [if_neg (by omega)])), h9⟩) (fun _ h9 => by cases h9) d_MO_category_40
      · refine lv_iload_n hx hb d_MO_category_27 rfl (lv_at hl 1 rfl) ?_
        refine lv_ldc (v := iI 44032) hx hb hown (ht _ k_386) d_MO_category_28 ?_
        refine ix_icmp_lt (tgt := 41) hx hb d_MO_category_30 (by decide) (by omega) (fun c_30 => ?_) (fun c_30 => ?_)
        · refine lv_iload_n hx hb d_MO_category_41 rfl (lv_at hl 1 rfl) ?_
          refine lv_ldc (v := iI 57344) hx hb hown (ht _ k_388) d_MO_category_42 ?_
          refine ix_icmp_lt (tgt := 55) hx hb d_MO_category_44 (by decide) (by omega) (fun c_44 => ?_) (fun c_44 => ?_)
          · refine lv_iload_n hx hb d_MO_category_55 rfl (lv_at hl 1 rfl) ?_
            refine lv_ldc (v := iI 65039) hx hb hown (ht _ k_390) d_MO_category_56 ?_
            refine ix_icmp_ne (tgt := 64) hx hb d_MO_category_58 (by decide) (by omega) (fun c_58 => ?_) (fun c_58 => ?_)
            · refine lv_iload_n hx hb d_MO_category_64 rfl (lv_at hl 1 rfl) ?_
              refine lv_ldc (v := iI 65279) hx hb hown (ht _ k_392) d_MO_category_65 ?_
              refine ix_icmp_ne (tgt := 72) hx hb d_MO_category_67 (by decide) (by omega) (fun c_67 => ?_) (fun c_67 => ?_)
              · refine lv_iload_n hx hb d_MO_category_72 rfl (lv_at hl 1 rfl) ?_
                refine lv_ldc (v := iI 127744) hx hb hown (ht _ k_394) d_MO_category_73 ?_
                refine ix_icmp_lt (tgt := 89) hx hb d_MO_category_75 (by decide) (by omega) (fun c_75 => ?_) (fun c_75 => ?_)
                · refine lv_iconst (v := iI 0) hx hb d_MO_category_89 rfl ?_
                  subst hQ
                  exact W.iret (v := iI 0) hx hb hr (fun t h9 hW => ⟨_, rfl, by first | (exfalso; omega) | (unfold catF; repeat (first | rw [if_pos (by omega)] | rw [if_neg (by omega)])), h9⟩) (fun _ h9 => by cases h9) d_MO_category_90
                · refine lv_iload_n hx hb d_MO_category_78 rfl (lv_at hl 1 rfl) ?_
                  refine lv_ldc (v := iI 128591) hx hb hown (ht _ k_496) d_MO_category_79 ?_
                  refine ix_icmp_gt (tgt := 89) hx hb d_MO_category_81 (by decide) (by omega) (fun c_81 => ?_) (fun c_81 => ?_)
                  · refine lv_iconst (v := iI 0) hx hb d_MO_category_89 rfl ?_
                    subst hQ
                    exact W.iret (v := iI 0) hx hb hr (fun t h9 hW => ⟨_, rfl, by first | (exfalso; omega) | (unfold catF; repeat (first | rw [if_pos (by omega)] | rw [if_neg (by omega)])), h9⟩) (fun _ h9 => by cases h9) d_MO_category_90
                  · refine lv_bipush (v := iI 21) hx hb d_MO_category_84 (by decide) ?_
                    refine lv_goto (tgt := 90) hx hb d_MO_category_86 (by decide) ?_
                    subst hQ
                    exact W.iret (v := iI 21) hx hb hr (fun t h9 hW => ⟨_, rfl, by first | (exfalso; omega) | (unfold catF; repeat (first | rw [if_pos (by omega)] | rw [if_neg (by omega)])), h9⟩) (fun _ h9 => by cases h9) d_MO_category_90
              · refine lv_iconst (v := iI 2) hx hb d_MO_category_70 rfl ?_
                subst hQ
                exact W.iret (v := iI 2) hx hb hr (fun t h9 hW => ⟨_, rfl, by first | (exfalso; omega) | (unfold catF; repeat (first | rw [if_pos (by omega)] | rw [if_neg (by omega)])), h9⟩) (fun _ h9 => by cases h9) d_MO_category_71
            · refine lv_bipush (v := iI 7) hx hb d_MO_category_61 (by decide) ?_
              subst hQ
              exact W.iret (v := iI 7) hx hb hr (fun t h9 hW => ⟨_, rfl, by first | (exfalso; omega) | (unfold catF; repeat (first | rw [if_pos (by omega)] | rw [if_neg (by omega)])), h9⟩) (fun _ h9 => by cases h9) d_MO_category_63
          · refine lv_iload_n hx hb d_MO_category_47 rfl (lv_at hl 1 rfl) ?_
            refine lv_ldc (v := iI 63743) hx hb hown (ht _ k_495) d_MO_category_48 ?_
            refine ix_icmp_gt (tgt := 55) hx hb d_MO_category_50 (by decide) (by omega) (fun c_50 => ?_) (fun c_50 => ?_)
            · refine lv_iload_n hx hb d_MO_category_55 rfl (lv_at hl 1 rfl) ?_
              refine lv_ldc (v := iI 65039) hx hb hown (ht _ k_390) d_MO_category_56 ?_
              refine ix_icmp_ne (tgt := 64) hx hb d_MO_category_58 (by decide) (by omega) (fun c_58 => ?_) (fun c_58 => ?_)
              · refine lv_iload_n hx hb d_MO_category_64 rfl (lv_at hl 1 rfl) ?_
                refine lv_ldc (v := iI 65279) hx hb hown (ht _ k_392) d_MO_category_65 ?_
                refine ix_icmp_ne (tgt := 72) hx hb d_MO_category_67 (by decide) (by omega) (fun c_67 => ?_) (fun c_67 => ?_)
                · refine lv_iload_n hx hb d_MO_category_72 rfl (lv_at hl 1 rfl) ?_
                  refine lv_ldc (v := iI 127744) hx hb hown (ht _ k_394) d_MO_category_73 ?_
                  refine ix_icmp_lt (tgt := 89) hx hb d_MO_category_75 (by decide) (by omega) (fun c_75 => ?_) (fun c_75 => ?_)
                  · refine lv_iconst (v := iI 0) hx hb d_MO_category_89 rfl ?_
                    subst hQ
                    exact W.iret (v := iI 0) hx hb hr (fun t h9 hW => ⟨_, rfl, by first | (exfalso; omega) | (unfold catF; repeat (first | rw [if_pos (by omega)] | rw [if_neg (by omega)])), h9⟩) (fun _ h9 => by cases h9) d_MO_category_90
                  · refine lv_iload_n hx hb d_MO_category_78 rfl (lv_at hl 1 rfl) ?_
                    refine lv_ldc (v := iI 128591) hx hb hown (ht _ k_496) d_MO_category_79 ?_
                    refine ix_icmp_gt (tgt := 89) hx hb d_MO_category_81 (by decide) (by omega) (fun c_81 => ?_) (fun c_81 => ?_)
                    · refine lv_iconst (v := iI 0) hx hb d_MO_category_89 rfl ?_
                      subst hQ
                      exact W.iret (v := iI 0) hx hb hr (fun t h9 hW => ⟨_, rfl, by first | (exfalso; omega) | (unfold catF; repeat (first | rw [if_pos (by omega)] | rw [if_neg (by omega)])), h9⟩) (fun _ h9 => by cases h9) d_MO_category_90
                    · refine lv_bipush (v := iI 21) hx hb d_MO_category_84 (by decide) ?_
                      refine lv_goto (tgt := 90) hx hb d_MO_category_86 (by decide) ?_
                      subst hQ
                      exact W.iret (v := iI 21) hx hb hr (fun t h9 hW => ⟨_, rfl, by first | (exfalso; omega) | (unfold catF; repeat (first | rw [if_pos (by omega)] | rw [if_neg (by omega)])), h9⟩) (fun _ h9 => by cases h9) d_MO_category_90
                · refine lv_iconst (v := iI 2) hx hb d_MO_category_70 rfl ?_
                  subst hQ
                  exact W.iret (v := iI 2) hx hb hr (fun t h9 hW => ⟨_, rfl, by first | (exfalso; omega) | (unfold catF; repeat (first | rw [if_pos (by omega)] | rw [if_neg (by omega)])), h9⟩) (fun _ h9 => by cases h9) d_MO_category_71
              · refine lv_bipush (v := iI 7) hx hb d_MO_category_61 (by decide) ?_
                subst hQ
                exact W.iret (v := iI 7) hx hb hr (fun t h9 hW => ⟨_, rfl, by first | (exfalso; omega) | (unfold catF; repeat (first | rw [if_pos (by omega)] | rw [if_neg (by omega)])), h9⟩) (fun _ h9 => by cases h9) d_MO_category_63
            · refine lv_iconst (v := iI 3) hx hb d_MO_category_53 rfl ?_
              subst hQ
              exact W.iret (v := iI 3) hx hb hr (fun t h9 hW => ⟨_, rfl, by first | (exfalso; omega) | (unfold catF; repeat (first | rw [if_pos (by omega)] | rw [if_neg (by omega)])), h9⟩) (fun _ h9 => by cases h9) d_MO_category_54
        · refine lv_iload_n hx hb d_MO_category_33 rfl (lv_at hl 1 rfl) ?_
          refine lv_ldc (v := iI 55203) hx hb hown (ht _ k_494) d_MO_category_34 ?_
          refine ix_icmp_gt (tgt := 41) hx hb d_MO_category_36 (by decide) (by omega) (fun c_36 => ?_) (fun c_36 => ?_)
          · refine lv_iload_n hx hb d_MO_category_41 rfl (lv_at hl 1 rfl) ?_
            refine lv_ldc (v := iI 57344) hx hb hown (ht _ k_388) d_MO_category_42 ?_
            refine ix_icmp_lt (tgt := 55) hx hb d_MO_category_44 (by decide) (by omega) (fun c_44 => ?_) (fun c_44 => ?_)
            · refine lv_iload_n hx hb d_MO_category_55 rfl (lv_at hl 1 rfl) ?_
              refine lv_ldc (v := iI 65039) hx hb hown (ht _ k_390) d_MO_category_56 ?_
              refine ix_icmp_ne (tgt := 64) hx hb d_MO_category_58 (by decide) (by omega) (fun c_58 => ?_) (fun c_58 => ?_)
              · refine lv_iload_n hx hb d_MO_category_64 rfl (lv_at hl 1 rfl) ?_
                refine lv_ldc (v := iI 65279) hx hb hown (ht _ k_392) d_MO_category_65 ?_
                refine ix_icmp_ne (tgt := 72) hx hb d_MO_category_67 (by decide) (by omega) (fun c_67 => ?_) (fun c_67 => ?_)
                · refine lv_iload_n hx hb d_MO_category_72 rfl (lv_at hl 1 rfl) ?_
                  refine lv_ldc (v := iI 127744) hx hb hown (ht _ k_394) d_MO_category_73 ?_
                  refine ix_icmp_lt (tgt := 89) hx hb d_MO_category_75 (by decide) (by omega) (fun c_75 => ?_) (fun c_75 => ?_)
                  · refine lv_iconst (v := iI 0) hx hb d_MO_category_89 rfl ?_
                    subst hQ
                    exact W.iret (v := iI 0) hx hb hr (fun t h9 hW => ⟨_, rfl, by first | (exfalso; omega) | (unfold catF; repeat (first | rw [if_pos (by omega)] | rw [if_neg (by omega)])), h9⟩) (fun _ h9 => by cases h9) d_MO_category_90
                  · refine lv_iload_n hx hb d_MO_category_78 rfl (lv_at hl 1 rfl) ?_
                    refine lv_ldc (v := iI 128591) hx hb hown (ht _ k_496) d_MO_category_79 ?_
                    refine ix_icmp_gt (tgt := 89) hx hb d_MO_category_81 (by decide) (by omega) (fun c_81 => ?_) (fun c_81 => ?_)
                    · refine lv_iconst (v := iI 0) hx hb d_MO_category_89 rfl ?_
                      subst hQ
                      exact W.iret (v := iI 0) hx hb hr (fun t h9 hW => ⟨_, rfl, by first | (exfalso; omega) | (unfold catF; repeat (first | rw [if_pos (by omega)] | rw [if_neg (by omega)])), h9⟩) (fun _ h9 => by cases h9) d_MO_category_90
                    · refine lv_bipush (v := iI 21) hx hb d_MO_category_84 (by decide) ?_
                      refine lv_goto (tgt := 90) hx hb d_MO_category_86 (by decide) ?_
                      subst hQ
                      exact W.iret (v := iI 21) hx hb hr (fun t h9 hW => ⟨_, rfl, by first | (exfalso; omega) | (unfold catF; repeat (first | rw [if_pos (by omega)] | rw [if_neg (by omega)])), h9⟩) (fun _ h9 => by cases h9) d_MO_category_90
                · refine lv_iconst (v := iI 2) hx hb d_MO_category_70 rfl ?_
                  subst hQ
                  exact W.iret (v := iI 2) hx hb hr (fun t h9 hW => ⟨_, rfl, by first | (exfalso; omega) | (unfold catF; repeat (first | rw [if_pos (by omega)] | rw [if_neg (by omega)])), h9⟩) (fun _ h9 => by cases h9) d_MO_category_71
              · refine lv_bipush (v := iI 7) hx hb d_MO_category_61 (by decide) ?_
                subst hQ
                exact W.iret (v := iI 7) hx hb hr (fun t h9 hW => ⟨_, rfl, by first | (exfalso; omega) | (unfold catF; repeat (first | rw [if_pos (by omega)] | rw [if_neg (by omega)])), h9⟩) (fun _ h9 => by cases h9) d_MO_category_63
            · refine lv_iload_n hx hb d_MO_category_47 rfl (lv_at hl 1 rfl) ?_
              refine lv_ldc (v := iI 63743) hx hb hown (ht _ k_495) d_MO_category_48 ?_
              refine ix_icmp_gt (tgt := 55) hx hb d_MO_category_50 (by decide) (by omega) (fun c_50 => ?_) (fun c_50 => ?_)
              · refine lv_iload_n hx hb d_MO_category_55 rfl (lv_at hl 1 rfl) ?_
                refine lv_ldc (v := iI 65039) hx hb hown (ht _ k_390) d_MO_category_56 ?_
                refine ix_icmp_ne (tgt := 64) hx hb d_MO_category_58 (by decide) (by omega) (fun c_58 => ?_) (fun c_58 => ?_)
                · refine lv_iload_n hx hb d_MO_category_64 rfl (lv_at hl 1 rfl) ?_
                  refine lv_ldc (v := iI 65279) hx hb hown (ht _ k_392) d_MO_category_65 ?_
                  refine ix_icmp_ne (tgt := 72) hx hb d_MO_category_67 (by decide) (by omega) (fun c_67 => ?_) (fun c_67 => ?_)
                  · refine lv_iload_n hx hb d_MO_category_72 rfl (lv_at hl 1 rfl) ?_
                    refine lv_ldc (v := iI 127744) hx hb hown (ht _ k_394) d_MO_category_73 ?_
                    refine ix_icmp_lt (tgt := 89) hx hb d_MO_category_75 (by decide) (by omega) (fun c_75 => ?_) (fun c_75 => ?_)
                    · refine lv_iconst (v := iI 0) hx hb d_MO_category_89 rfl ?_
                      subst hQ
                      exact W.iret (v := iI 0) hx hb hr (fun t h9 hW => ⟨_, rfl, by first | (exfalso; omega) | (unfold catF; repeat (first | rw [if_pos (by omega)] | rw [if_neg (by omega)])), h9⟩) (fun _ h9 => by cases h9) d_MO_category_90
                    · refine lv_iload_n hx hb d_MO_category_78 rfl (lv_at hl 1 rfl) ?_
                      refine lv_ldc (v := iI 128591) hx hb hown (ht _ k_496) d_MO_category_79 ?_
                      refine ix_icmp_gt (tgt := 89) hx hb d_MO_category_81 (by decide) (by omega) (fun c_81 => ?_) (fun c_81 => ?_)
                      · refine lv_iconst (v := iI 0) hx hb d_MO_category_89 rfl ?_
                        subst hQ
                        exact W.iret (v := iI 0) hx hb hr (fun t h9 hW => ⟨_, rfl, by first | (exfalso; omega) | (unfold catF; repeat (first | rw [if_pos (by omega)] | rw [if_neg (by omega)])), h9⟩) (fun _ h9 => by cases h9) d_MO_category_90
                      · refine lv_bipush (v := iI 21) hx hb d_MO_category_84 (by decide) ?_
                        refine lv_goto (tgt := 90) hx hb d_MO_category_86 (by decide) ?_
                        subst hQ
                        exact W.iret (v := iI 21) hx hb hr (fun t h9 hW => ⟨_, rfl, by first | (exfalso; omega) | (unfold catF; repeat (first | rw [if_pos (by omega)] | rw [if_neg (by omega)])), h9⟩) (fun _ h9 => by cases h9) d_MO_category_90
                  · refine lv_iconst (v := iI 2) hx hb d_MO_category_70 rfl ?_
                    subst hQ
                    exact W.iret (v := iI 2) hx hb hr (fun t h9 hW => ⟨_, rfl, by first | (exfalso; omega) | (unfold catF; repeat (first | rw [if_pos (by omega)] | rw [if_neg (by omega)])), h9⟩) (fun _ h9 => by cases h9) d_MO_category_71
                · refine lv_bipush (v := iI 7) hx hb d_MO_category_61 (by decide) ?_
                  subst hQ
                  exact W.iret (v := iI 7) hx hb hr (fun t h9 hW => ⟨_, rfl, by first | (exfalso; omega) | (unfold catF; repeat (first | rw [if_pos (by omega)] | rw [if_neg (by omega)])), h9⟩) (fun _ h9 => by cases h9) d_MO_category_63
              · refine lv_iconst (v := iI 3) hx hb d_MO_category_53 rfl ?_
                subst hQ
                exact W.iret (v := iI 3) hx hb hr (fun t h9 hW => ⟨_, rfl, by first | (exfalso; omega) | (unfold catF; repeat (first | rw [if_pos (by omega)] | rw [if_neg (by omega)])), h9⟩) (fun _ h9 => by cases h9) d_MO_category_54
          · refine lv_iconst (v := iI 5) hx hb d_MO_category_39 rfl ?_
            subst hQ
            exact W.iret (v := iI 5) hx hb hr (fun t h9 hW => ⟨_, rfl, by first | (exfalso; omega) | (unfold catF; repeat (first | rw [if_pos (by omega)] | rw [if_neg (by omega)])), h9⟩) (fun _ h9 => by cases h9) d_MO_category_40
  · refine lv_aload_n hx hb d_MO_category_7 rfl (lv_at hl 0 rfl) ?_
    refine va_get (D := g.1) (ci := 4) (v := .ref (r 2)) (C := R_MO) (T := F_MO) (N := 9) hx hb ht i_MO hown hK hP 0 rfl rfl 5 (by decide) (ht _ k_423) (fun _ h9 => h9) rfl d_MO_category_8 ?_
    refine lv_iload_n hx hb d_MO_category_11 rfl (lv_at hl 1 rfl) ?_
    refine ix_bald hx hb hK hP 2 2 rfl rfl (i := c) ((c).toNat) (by omega) d_MO_category_12 ?_
    have b_36 := kF_bd ((c).toNat) (by omega)
    subst hQ
    exact W.iret (v := iI (kF ((c).toNat))) hx hb hr (fun t h9 hW => ⟨_, rfl, by first | (exfalso; omega) | (unfold catF; repeat (first | rw [if_pos (by omega)] | rw [if_neg (by omega)])), h9⟩) (fun _ h9 => by cases h9) d_MO_category_13
