/-- the CASES of the class, pure -/
def chA (c : Nat) : Int := if c < 1120 then ((c : Nat) : Int) else 7370 + ((c : Nat) : Int)
def slF (c : Int) : Int := if 0 ≤ c ∧ c < 1120 then c else if 8490 ≤ c ∧ c ≤ 8491 then c - 7370 else -1
theorem slF_bd (c : Int) : -1 ≤ slF c ∧ slF c < 1122 := by unfold slF; repeat' split <;> omega
def nxF (NX : Nat → Int) (c : Int) : Int := if slF c < 0 then c else NX (slF c).toNat
set_option maxHeartbeats 4000000 in
set_option maxRecDepth 100000 in
theorem c_TB_pieceCount (l : Launch) (g : zG) (h p1 p2 p3 : Nat)  : Met l y_TB_pieceCount w_TB_pieceCount (zr 0 0) (zP g [.ref h] [(h, .inr (2, [.ref p1, .ref p2, .ref p3, .int (iI 253)])), (p1, .inl (zI g, 512, .inl (ai LOf))), (p2, .inl (zI g, 512, .inl (ai CAf))), (p3, .inl (zI g, 512, .inl (ai SCf)))]) (vp_Si (fun z => z = iI 253)) 0 0 (fun _ => False) := by
  refine Met.ofW (cc := b_TB_pieceCount) (maxL := 1) (ret := (some .int)) (by decide) rfl ?_
  intro p e s m args below meth cd s₁ B hml hv
  obtain ⟨hargs, hP, hK, hZ⟩ := hv
  have hx := B.exec
  have hb := B.bytes
  have hr := B.returns
  have ht : ∀ w ∈ lw_ok, w.before args s = true := fun w h => atoms_spec (ws := w_TB_pieceCount) B.pre w (List.mem_cons_of_mem _ h)
  have hown : s.vm.findClass R_TB = some m.cls := findClass_of_methodNamed B.named
  have hlocks := B.notSynchronized
  have hS : va_S (fun _ => False) s.heap s.heap [] := va_S.rf
  generalize hQ : MQ below _ args s 0 0 _ = Q
  have hl := lv_entry ([.ref h]) (n := 1) (Nat.le_of_ble_eq_true rfl)
  rw [show entryFrame m args 1 = entryFrame m ([.ref h] : List Value).toArray 1 by rw [hargs], lg_entry_eq]
  generalize (lg_sl ([.ref h]) ++ List.replicate (1 - (lg_sl ([.ref h])).length) Slot.unset).toArray = ls at hl ⊢
  have hl : lv_has ls 1 [(0, .ref h)] := hl
  refine lv_aload_n hx hb d_TB_pieceCount_0 rfl (lv_at hl 0 rfl) ?_
  refine va_get (D := g.1) (ci := 2) (v := .int (iI 253)) (C := R_TB) (T := F_TB) (N := 4) hx hb ht i_TB hown hK hP 0 rfl rfl 3 (by decide) (ht _ k_41) (fun _ h9 => h9) rfl d_TB_pieceCount_1 ?_
  subst hQ
  exact W.iret (v := iI 253) hx hb hr (fun t h9 hW => ⟨_, rfl, rfl, h9⟩) (fun _ h9 => by cases h9) d_TB_pieceCount_4
set_option maxHeartbeats 4000000 in
set_option maxRecDepth 100000 in
theorem c_TB_pieceLow (l : Launch) (g : zG) (h p1 p2 p3 : Nat) (i : Nat) (hi : i < 253) : Met l y_TB_pieceLow w_TB_pieceLow (zr 0 0) (zP g [.ref h, .int (iI (((i : Nat) : Int)))] [(h, .inr (2, [.ref p1, .ref p2, .ref p3, .int (iI 253)])), (p1, .inl (zI g, 512, .inl (ai LOf))), (p2, .inl (zI g, 512, .inl (ai CAf))), (p3, .inl (zI g, 512, .inl (ai SCf)))]) (vp_Si (fun z => z = iI (LOf i))) 0 0 (fun _ => False) := by
  refine Met.ofW (cc := b_TB_pieceLow) (maxL := 2) (ret := (some .int)) (by decide) rfl ?_
  intro p e s m args below meth cd s₁ B hml hv
  obtain ⟨hargs, hP, hK, hZ⟩ := hv
  have hx := B.exec
  have hb := B.bytes
  have hr := B.returns
  have ht : ∀ w ∈ lw_ok, w.before args s = true := fun w h => atoms_spec (ws := w_TB_pieceLow) B.pre w (List.mem_cons_of_mem _ h)
  have hown : s.vm.findClass R_TB = some m.cls := findClass_of_methodNamed B.named
  have hlocks := B.notSynchronized
  have hS : va_S (fun _ => False) s.heap s.heap [] := va_S.rf
  generalize hQ : MQ below _ args s 0 0 _ = Q
  have hl := lv_entry ([.ref h, .int (iI (((i : Nat) : Int)))]) (n := 2) (Nat.le_of_ble_eq_true rfl)
  rw [show entryFrame m args 2 = entryFrame m ([.ref h, .int (iI (((i : Nat) : Int)))] : List Value).toArray 2 by rw [hargs], lg_entry_eq]
  generalize (lg_sl ([.ref h, .int (iI (((i : Nat) : Int)))]) ++ List.replicate (2 - (lg_sl ([.ref h, .int (iI (((i : Nat) : Int)))])).length) Slot.unset).toArray = ls at hl ⊢
  have hl : lv_has ls 2 [(0, .ref h), (1, .int (iI (((i : Nat) : Int))))] := hl
  refine lv_aload_n hx hb d_TB_pieceLow_0 rfl (lv_at hl 0 rfl) ?_
  refine va_get (D := g.1) (ci := 2) (v := .ref p1) (C := R_TB) (T := F_TB) (N := 4) hx hb ht i_TB hown hK hP 0 rfl rfl 0 (by decide) (ht _ k_38) (fun _ h9 => h9) rfl d_TB_pieceLow_1 ?_
  refine lv_iload_n hx hb d_TB_pieceLow_4 rfl (lv_at hl 1 rfl) ?_
  refine ix_iald hx hb hK hP 1 0 rfl rfl (i := (((i : Nat) : Int))) i (by omega) d_TB_pieceLow_5 ?_
  have f_5001 := PL_in i (by omega)
  subst hQ
  exact W.iret (v := iI (LOf i)) hx hb hr (fun t h9 hW => ⟨_, rfl, rfl, h9⟩) (fun _ h9 => by cases h9) d_TB_pieceLow_6
set_option maxHeartbeats 4000000 in
set_option maxRecDepth 100000 in
theorem c_TB_pieceHigh (l : Launch) (g : zG) (h p1 p2 p3 : Nat) (i : Nat) (hi : i < 253) : Met l y_TB_pieceHigh w_TB_pieceHigh (zr 0 0) (zP g [.ref h, .int (iI (((i : Nat) : Int)))] [(h, .inr (2, [.ref p1, .ref p2, .ref p3, .int (iI 253)])), (p1, .inl (zI g, 512, .inl (ai LOf))), (p2, .inl (zI g, 512, .inl (ai CAf))), (p3, .inl (zI g, 512, .inl (ai SCf)))]) (vp_Si (fun z => z = iI (hiE i - 1))) 0 0 (fun _ => False) := by
  refine Met.ofW (cc := b_TB_pieceHigh) (maxL := 2) (ret := (some .int)) (by decide) rfl ?_
  intro p e s m args below meth cd s₁ B hml hv
  obtain ⟨hargs, hP, hK, hZ⟩ := hv
  have hx := B.exec
  have hb := B.bytes
  have hr := B.returns
  have ht : ∀ w ∈ lw_ok, w.before args s = true := fun w h => atoms_spec (ws := w_TB_pieceHigh) B.pre w (List.mem_cons_of_mem _ h)
  have hown : s.vm.findClass R_TB = some m.cls := findClass_of_methodNamed B.named
  have hlocks := B.notSynchronized
  have hS : va_S (fun _ => False) s.heap s.heap [] := va_S.rf
  generalize hQ : MQ below _ args s 0 0 _ = Q
  have hl := lv_entry ([.ref h, .int (iI (((i : Nat) : Int)))]) (n := 2) (Nat.le_of_ble_eq_true rfl)
  rw [show entryFrame m args 2 = entryFrame m ([.ref h, .int (iI (((i : Nat) : Int)))] : List Value).toArray 2 by rw [hargs], lg_entry_eq]
  generalize (lg_sl ([.ref h, .int (iI (((i : Nat) : Int)))]) ++ List.replicate (2 - (lg_sl ([.ref h, .int (iI (((i : Nat) : Int)))])).length) Slot.unset).toArray = ls at hl ⊢
  have hl : lv_has ls 2 [(0, .ref h), (1, .int (iI (((i : Nat) : Int))))] := hl
  refine lv_iload_n hx hb d_TB_pieceHigh_0 rfl (lv_at hl 1 rfl) ?_
  refine lv_iconst (v := iI 1) hx hb d_TB_pieceHigh_1 rfl ?_
  refine ix_iadd hx hb d_TB_pieceHigh_2 ?_
  refine lv_aload_n hx hb d_TB_pieceHigh_3 rfl (lv_at hl 0 rfl) ?_
  refine va_get (D := g.1) (ci := 2) (v := .int (iI 253)) (C := R_TB) (T := F_TB) (N := 4) hx hb ht i_TB hown hK hP 0 rfl rfl 3 (by decide) (ht _ k_41) (fun _ h9 => h9) rfl d_TB_pieceHigh_4 ?_
  refine ix_icmp_ge (tgt := 23) hx hb d_TB_pieceHigh_7 (by decide) (by omega) (fun c_7 => ?_) (fun c_7 => ?_)
  · refine lv_ldc (v := iI 1114111) hx hb hown (ht _ k_182) d_TB_pieceHigh_23 ?_
    subst hQ
    exact W.iret (v := iI 1114111) hx hb hr (fun t h9 hW => ⟨_, rfl, by unfold hiE; rw [if_neg (by omega)]; rfl, h9⟩) (fun _ h9 => by cases h9) d_TB_pieceHigh_25
  · refine lv_aload_n hx hb d_TB_pieceHigh_10 rfl (lv_at hl 0 rfl) ?_
    refine va_get (D := g.1) (ci := 2) (v := .ref p1) (C := R_TB) (T := F_TB) (N := 4) hx hb ht i_TB hown hK hP 0 rfl rfl 0 (by decide) (ht _ k_38) (fun _ h9 => h9) rfl d_TB_pieceHigh_11 ?_
    refine lv_iload_n hx hb d_TB_pieceHigh_14 rfl (lv_at hl 1 rfl) ?_
    refine lv_iconst (v := iI 1) hx hb d_TB_pieceHigh_15 rfl ?_
    refine ix_iadd hx hb d_TB_pieceHigh_16 ?_
    refine ix_iald hx hb hK hP 1 0 rfl rfl (i := ((((i : Nat) : Int)) + 1)) (i + 1) (by omega) d_TB_pieceHigh_17 ?_
    have f_5002 := PL_in (i + 1) (by omega)
    refine lv_iconst (v := iI 1) hx hb d_TB_pieceHigh_18 rfl ?_
    refine ix_isub hx hb d_TB_pieceHigh_19 ?_
    refine lv_goto (tgt := 25) hx hb d_TB_pieceHigh_20 (by decide) ?_
    subst hQ
    exact W.iret (v := iI ((LOf (i + 1)) - 1)) hx hb hr (fun t h9 hW => ⟨_, rfl, by unfold hiE; rw [if_pos (by omega)], h9⟩) (fun _ h9 => by cases h9) d_TB_pieceHigh_25
set_option maxHeartbeats 4000000 in
set_option maxRecDepth 100000 in
theorem c_TB_pieceCategory (l : Launch) (g : zG) (h p1 p2 p3 : Nat) (i : Nat) (hi : i < 253) : Met l y_TB_pieceCategory w_TB_pieceCategory (zr 0 0) (zP g [.ref h, .int (iI (((i : Nat) : Int)))] [(h, .inr (2, [.ref p1, .ref p2, .ref p3, .int (iI 253)])), (p1, .inl (zI g, 512, .inl (ai LOf))), (p2, .inl (zI g, 512, .inl (ai CAf))), (p3, .inl (zI g, 512, .inl (ai SCf)))]) (vp_Si (fun z => z = iI (CAf i))) 0 0 (fun _ => False) := by
  refine Met.ofW (cc := b_TB_pieceCategory) (maxL := 2) (ret := (some .int)) (by decide) rfl ?_
  intro p e s m args below meth cd s₁ B hml hv
  obtain ⟨hargs, hP, hK, hZ⟩ := hv
  have hx := B.exec
  have hb := B.bytes
  have hr := B.returns
  have ht : ∀ w ∈ lw_ok, w.before args s = true := fun w h => atoms_spec (ws := w_TB_pieceCategory) B.pre w (List.mem_cons_of_mem _ h)
  have hown : s.vm.findClass R_TB = some m.cls := findClass_of_methodNamed B.named
  have hlocks := B.notSynchronized
  have hS : va_S (fun _ => False) s.heap s.heap [] := va_S.rf
  generalize hQ : MQ below _ args s 0 0 _ = Q
  have hl := lv_entry ([.ref h, .int (iI (((i : Nat) : Int)))]) (n := 2) (Nat.le_of_ble_eq_true rfl)
  rw [show entryFrame m args 2 = entryFrame m ([.ref h, .int (iI (((i : Nat) : Int)))] : List Value).toArray 2 by rw [hargs], lg_entry_eq]
  generalize (lg_sl ([.ref h, .int (iI (((i : Nat) : Int)))]) ++ List.replicate (2 - (lg_sl ([.ref h, .int (iI (((i : Nat) : Int)))])).length) Slot.unset).toArray = ls at hl ⊢
  have hl : lv_has ls 2 [(0, .ref h), (1, .int (iI (((i : Nat) : Int))))] := hl
  refine lv_aload_n hx hb d_TB_pieceCategory_0 rfl (lv_at hl 0 rfl) ?_
  refine va_get (D := g.1) (ci := 2) (v := .ref p2) (C := R_TB) (T := F_TB) (N := 4) hx hb ht i_TB hown hK hP 0 rfl rfl 1 (by decide) (ht _ k_39) (fun _ h9 => h9) rfl d_TB_pieceCategory_1 ?_
  refine lv_iload_n hx hb d_TB_pieceCategory_4 rfl (lv_at hl 1 rfl) ?_
  refine ix_iald hx hb hK hP 2 0 rfl rfl (i := (((i : Nat) : Int))) i (by omega) d_TB_pieceCategory_5 ?_
  have f_5003 := PL_in i (by omega)
  subst hQ
  exact W.iret (v := iI (CAf i)) hx hb hr (fun t h9 hW => ⟨_, rfl, rfl, h9⟩) (fun _ h9 => by cases h9) d_TB_pieceCategory_6
set_option maxHeartbeats 4000000 in
set_option maxRecDepth 100000 in
theorem c_TB_pieceScript (l : Launch) (g : zG) (h p1 p2 p3 : Nat) (i : Nat) (hi : i < 253) : Met l y_TB_pieceScript w_TB_pieceScript (zr 0 0) (zP g [.ref h, .int (iI (((i : Nat) : Int)))] [(h, .inr (2, [.ref p1, .ref p2, .ref p3, .int (iI 253)])), (p1, .inl (zI g, 512, .inl (ai LOf))), (p2, .inl (zI g, 512, .inl (ai CAf))), (p3, .inl (zI g, 512, .inl (ai SCf)))]) (vp_Si (fun z => z = iI (SCf i))) 0 0 (fun _ => False) := by
  refine Met.ofW (cc := b_TB_pieceScript) (maxL := 2) (ret := (some .int)) (by decide) rfl ?_
  intro p e s m args below meth cd s₁ B hml hv
  obtain ⟨hargs, hP, hK, hZ⟩ := hv
  have hx := B.exec
  have hb := B.bytes
  have hr := B.returns
  have ht : ∀ w ∈ lw_ok, w.before args s = true := fun w h => atoms_spec (ws := w_TB_pieceScript) B.pre w (List.mem_cons_of_mem _ h)
  have hown : s.vm.findClass R_TB = some m.cls := findClass_of_methodNamed B.named
  have hlocks := B.notSynchronized
  have hS : va_S (fun _ => False) s.heap s.heap [] := va_S.rf
  generalize hQ : MQ below _ args s 0 0 _ = Q
  have hl := lv_entry ([.ref h, .int (iI (((i : Nat) : Int)))]) (n := 2) (Nat.le_of_ble_eq_true rfl)
  rw [show entryFrame m args 2 = entryFrame m ([.ref h, .int (iI (((i : Nat) : Int)))] : List Value).toArray 2 by rw [hargs], lg_entry_eq]
  generalize (lg_sl ([.ref h, .int (iI (((i : Nat) : Int)))]) ++ List.replicate (2 - (lg_sl ([.ref h, .int (iI (((i : Nat) : Int)))])).length) Slot.unset).toArray = ls at hl ⊢
  have hl : lv_has ls 2 [(0, .ref h), (1, .int (iI (((i : Nat) : Int))))] := hl
  refine lv_aload_n hx hb d_TB_pieceScript_0 rfl (lv_at hl 0 rfl) ?_
  refine va_get (D := g.1) (ci := 2) (v := .ref p3) (C := R_TB) (T := F_TB) (N := 4) hx hb ht i_TB hown hK hP 0 rfl rfl 2 (by decide) (ht _ k_40) (fun _ h9 => h9) rfl d_TB_pieceScript_1 ?_
  refine lv_iload_n hx hb d_TB_pieceScript_4 rfl (lv_at hl 1 rfl) ?_
  refine ix_iald hx hb hK hP 3 0 rfl rfl (i := (((i : Nat) : Int))) i (by omega) d_TB_pieceScript_5 ?_
  have f_5004 := PL_in i (by omega)
  subst hQ
  exact W.iret (v := iI (SCf i)) hx hb hr (fun t h9 hW => ⟨_, rfl, rfl, h9⟩) (fun _ h9 => by cases h9) d_TB_pieceScript_6
set_option maxHeartbeats 4000000 in
set_option maxRecDepth 100000 in
theorem c_TB_pieceOf (l : Launch) (g : zG) (h p1 p2 p3 : Nat) (c : Int) (hc : 0 ≤ c ∧ c ≤ 1114111) : Met l y_TB_pieceOf w_TB_pieceOf (zr 0 0) (zP g [.ref h, .int (iI c)] [(h, .inr (2, [.ref p1, .ref p2, .ref p3, .int (iI 253)])), (p1, .inl (zI g, 512, .inl (ai LOf))), (p2, .inl (zI g, 512, .inl (ai CAf))), (p3, .inl (zI g, 512, .inl (ai SCf)))]) (vp_Si (fun z => ∃ i : Nat, i < 253 ∧ z = iI ((i : Nat) : Int) ∧ LOf i ≤ c ∧ c < hiE i)) 0 0 (fun _ => False) := by
  refine Met.ofW (cc := b_TB_pieceOf) (maxL := 4) (ret := (some .int)) (by decide) rfl ?_
  intro p e s m args below meth cd s₁ B hml hv
  obtain ⟨hargs, hP, hK, hZ⟩ := hv
  have hx := B.exec
  have hb := B.bytes
  have hr := B.returns
  have ht : ∀ w ∈ lw_ok, w.before args s = true := fun w h => atoms_spec (ws := w_TB_pieceOf) B.pre w (List.mem_cons_of_mem _ h)
  have hown : s.vm.findClass R_TB = some m.cls := findClass_of_methodNamed B.named
  have hlocks := B.notSynchronized
  have hS : va_S (fun _ => False) s.heap s.heap [] := va_S.rf
  generalize hQ : MQ below _ args s 0 0 _ = Q
  have hl := lv_entry ([.ref h, .int (iI c)]) (n := 4) (Nat.le_of_ble_eq_true rfl)
  rw [show entryFrame m args 4 = entryFrame m ([.ref h, .int (iI c)] : List Value).toArray 4 by rw [hargs], lg_entry_eq]
  generalize (lg_sl ([.ref h, .int (iI c)]) ++ List.replicate (4 - (lg_sl ([.ref h, .int (iI c)])).length) Slot.unset).toArray = ls at hl ⊢
  have hl : lv_has ls 4 [(0, .ref h), (1, .int (iI c))] := hl
  have hl0 : LOf 0 = 0 := by decide
  have J4 : ∀ fu : Nat, ∀ (pi i : Nat) (ls : Array Slot), 253 - i < fu → lv_has ls 4 [(0, .ref h), (1, .int (iI c)), (2, .int (iI (((pi : Nat) : Int)))), (3, .int (iI (((i : Nat) : Int))))] → (pi + 1 = i) → (i ≤ 253) → (LOf pi ≤ c) → W p l e (headSpec w_TB_pieceOf (zr 0 0)).room s m args below meth cd s.heap [] 0 0 Q (F0 m 4 ls []) := by
    intro fu
    induction fu with
    | zero => exact fun _ _ _ hfu _ _ _ _ => absurd hfu (Nat.not_lt_zero _)
    | succ fu ih =>
      intro pi i ls hfu hl h1 h2 h3
      refine lv_iload_n hx hb d_TB_pieceOf_4 rfl (lv_at hl 3 rfl) ?_
      refine lv_aload_n hx hb d_TB_pieceOf_5 rfl (lv_at hl 0 rfl) ?_
      refine va_get (D := g.1) (ci := 2) (v := .int (iI 253)) (C := R_TB) (T := F_TB) (N := 4) hx hb ht i_TB hown hK hP 0 rfl rfl 3 (by decide) (ht _ k_41) (fun _ h9 => h9) rfl d_TB_pieceOf_6 ?_
      refine ix_icmp_ge (tgt := 30) hx hb d_TB_pieceOf_9 (by decide) (by omega) (fun c_9 => ?_) (fun c_9 => ?_)
      · refine lv_iload_n hx hb d_TB_pieceOf_30 rfl (lv_at hl 2 rfl) ?_
        subst hQ
        exact W.iret (v := iI (((pi : Nat) : Int))) hx hb hr (fun t h9 hW => ⟨_, rfl, ⟨pi, by omega, rfl, h3, by unfold hiE; first | (rw [if_pos (show pi + 1 < 253 by omega), h1]; omega) | (rw [if_neg (show ¬ pi + 1 < 253 by omega)]; omega)⟩, h9⟩) (fun _ h9 => by cases h9) d_TB_pieceOf_31
      · refine lv_aload_n hx hb d_TB_pieceOf_12 rfl (lv_at hl 0 rfl) ?_
        refine va_get (D := g.1) (ci := 2) (v := .ref p1) (C := R_TB) (T := F_TB) (N := 4) hx hb ht i_TB hown hK hP 0 rfl rfl 0 (by decide) (ht _ k_38) (fun _ h9 => h9) rfl d_TB_pieceOf_13 ?_
        refine lv_iload_n hx hb d_TB_pieceOf_16 rfl (lv_at hl 3 rfl) ?_
        refine ix_iald hx hb hK hP 1 0 rfl rfl (i := (((i : Nat) : Int))) i (by omega) d_TB_pieceOf_17 ?_
        have f_5005 := PL_in i (by omega)
        refine lv_iload_n hx hb d_TB_pieceOf_18 rfl (lv_at hl 1 rfl) ?_
        refine ix_icmp_gt (tgt := 30) hx hb d_TB_pieceOf_19 (by decide) (by omega) (fun c_19 => ?_) (fun c_19 => ?_)
        · refine lv_iload_n hx hb d_TB_pieceOf_30 rfl (lv_at hl 2 rfl) ?_
          subst hQ
          exact W.iret (v := iI (((pi : Nat) : Int))) hx hb hr (fun t h9 hW => ⟨_, rfl, ⟨pi, by omega, rfl, h3, by unfold hiE; first | (rw [if_pos (show pi + 1 < 253 by omega), h1]; omega) | (rw [if_neg (show ¬ pi + 1 < 253 by omega)]; omega)⟩, h9⟩) (fun _ h9 => by cases h9) d_TB_pieceOf_31
        · refine lv_iload_n hx hb d_TB_pieceOf_22 rfl (lv_at hl 3 rfl) ?_
          refine lv_istore_n (lv' := [(2, .int (iI (((i : Nat) : Int)))), (0, .ref h), (1, .int (iI c)), (3, .int (iI (((i : Nat) : Int))))]) hx hb d_TB_pieceOf_23 rfl hl (by decide) rfl (fun ls hl => ?_)
          refine lv_iinc (v := iI ((((i : Nat) : Int)) + 1)) (lv' := [(3, .int (iI ((((i : Nat) : Int)) + 1))), (2, .int (iI (((i : Nat) : Int)))), (0, .ref h), (1, .int (iI c))]) hx hb d_TB_pieceOf_24 hl (k := 3) rfl (iI_add _ _) (by decide) rfl (fun ls hl => ?_)
          refine lv_goto (tgt := 4) hx hb d_TB_pieceOf_27 (by decide) ?_
          exact ih i (i + 1) ls (by omega) (lv_sub hl [2, 3, 1, 0] rfl) (by omega) (by omega) (by omega)
  refine lv_iconst (v := iI 0) hx hb d_TB_pieceOf_0 rfl ?_
  refine lv_istore_n (lv' := [(2, .int (iI 0)), (0, .ref h), (1, .int (iI c))]) hx hb d_TB_pieceOf_1 rfl hl (by decide) rfl (fun ls hl => ?_)
  refine lv_iconst (v := iI 1) hx hb d_TB_pieceOf_2 rfl ?_
  refine lv_istore_n (lv' := [(3, .int (iI 1)), (2, .int (iI 0)), (0, .ref h), (1, .int (iI c))]) hx hb d_TB_pieceOf_3 rfl hl (by decide) rfl (fun ls hl => ?_)
  exact J4 (_ + 1) 0 1 ls (Nat.lt_succ_self _) (lv_sub hl [2, 3, 1, 0] rfl) (by omega) (by omega) (by omega)
set_option maxHeartbeats 4000000 in
set_option maxRecDepth 100000 in
theorem c_TB_categoryOf (l : Launch) (g : zG) (h p1 p2 p3 : Nat) (c : Int) (hc : 0 ≤ c ∧ c ≤ 1114111) : Met l y_TB_categoryOf w_TB_categoryOf (zr 1 23) (zP g [.ref h, .int (iI c)] [(h, .inr (2, [.ref p1, .ref p2, .ref p3, .int (iI 253)])), (p1, .inl (zI g, 512, .inl (ai LOf))), (p2, .inl (zI g, 512, .inl (ai CAf))), (p3, .inl (zI g, 512, .inl (ai SCf)))]) (vp_Si (fun z => ∃ i : Nat, i < 253 ∧ LOf i ≤ c ∧ c < hiE i ∧ z = iI (CAf i))) 0 0 (fun _ => False) := by
  refine Met.ofW (cc := b_TB_categoryOf) (maxL := 2) (ret := (some .int)) (by decide) rfl ?_
  intro p e s m args below meth cd s₁ B hml hv
  obtain ⟨hargs, hP, hK, hZ⟩ := hv
  have hx := B.exec
  have hb := B.bytes
  have hr := B.returns
  have ht : ∀ w ∈ lw_ok, w.before args s = true := fun w h => atoms_spec (ws := w_TB_categoryOf) B.pre w (List.mem_cons_of_mem _ h)
  have hown : s.vm.findClass R_TB = some m.cls := findClass_of_methodNamed B.named
  have hlocks := B.notSynchronized
  have hS : va_S (fun _ => False) s.heap s.heap [] := va_S.rf
  generalize hQ : MQ below _ args s 0 0 _ = Q
  have hl := lv_entry ([.ref h, .int (iI c)]) (n := 2) (Nat.le_of_ble_eq_true rfl)
  rw [show entryFrame m args 2 = entryFrame m ([.ref h, .int (iI c)] : List Value).toArray 2 by rw [hargs], lg_entry_eq]
  generalize (lg_sl ([.ref h, .int (iI c)]) ++ List.replicate (2 - (lg_sl ([.ref h, .int (iI c)])).length) Slot.unset).toArray = ls at hl ⊢
  have hl : lv_has ls 2 [(0, .ref h), (1, .int (iI c))] := hl
  refine lv_aload_n hx hb d_TB_categoryOf_0 rfl (lv_at hl 0 rfl) ?_
  refine va_get (D := g.1) (ci := 2) (v := .ref p2) (C := R_TB) (T := F_TB) (N := 4) hx hb ht i_TB hown hK hP 0 rfl rfl 1 (by decide) (ht _ k_39) (fun _ h9 => h9) rfl d_TB_categoryOf_1 ?_
  refine lv_aload_n hx hb d_TB_categoryOf_4 rfl (lv_at hl 0 rfl) ?_
  refine lv_iload_n hx hb d_TB_categoryOf_5 rfl (lv_at hl 1 rfl) ?_
  refine zcV (ci := 2) (q0 := 0) (As := [.int (iI c)]) (rest := [.ref p2]) ⟨hx, hb, hml, hown, ht⟩ v_TB_37 (c_TB_pieceOf l g h p1 p2 p3 c (by omega)) ⟨Nat.le_of_ble_eq_true rfl, Nat.le_of_ble_eq_true rfl⟩ ⟨Nat.zero_le _, Nat.zero_le _⟩ hK hZ hS hP rfl rfl rfl rfl hl.1 rfl (Nat.le_of_ble_eq_true rfl) d_TB_categoryOf_6 (fun r_6 h_6 => ?_)
  obtain ⟨i9, hi9, rfl, g1, g2⟩ := h_6
  refine ix_iald hx hb hK hP 2 0 rfl rfl (i := (((i9 : Nat) : Int))) i9 (by omega) d_TB_categoryOf_9 ?_
  have f_5006 := PL_in i9 (by omega)
  subst hQ
  exact W.iret (v := iI (CAf i9)) hx hb hr (fun t h9 hW => ⟨_, rfl, ⟨i9, hi9, g1, g2, rfl⟩, h9⟩) (fun _ h9 => by cases h9) d_TB_categoryOf_10
set_option maxHeartbeats 4000000 in
set_option maxRecDepth 100000 in
theorem c_TB_scriptOf (l : Launch) (g : zG) (h p1 p2 p3 : Nat) (c : Int) (hc : 0 ≤ c ∧ c ≤ 1114111) : Met l y_TB_scriptOf w_TB_scriptOf (zr 1 23) (zP g [.ref h, .int (iI c)] [(h, .inr (2, [.ref p1, .ref p2, .ref p3, .int (iI 253)])), (p1, .inl (zI g, 512, .inl (ai LOf))), (p2, .inl (zI g, 512, .inl (ai CAf))), (p3, .inl (zI g, 512, .inl (ai SCf)))]) (vp_Si (fun z => ∃ i : Nat, i < 253 ∧ LOf i ≤ c ∧ c < hiE i ∧ z = iI (SCf i))) 0 0 (fun _ => False) := by
  refine Met.ofW (cc := b_TB_scriptOf) (maxL := 2) (ret := (some .int)) (by decide) rfl ?_
  intro p e s m args below meth cd s₁ B hml hv
  obtain ⟨hargs, hP, hK, hZ⟩ := hv
  have hx := B.exec
  have hb := B.bytes
  have hr := B.returns
  have ht : ∀ w ∈ lw_ok, w.before args s = true := fun w h => atoms_spec (ws := w_TB_scriptOf) B.pre w (List.mem_cons_of_mem _ h)
  have hown : s.vm.findClass R_TB = some m.cls := findClass_of_methodNamed B.named
  have hlocks := B.notSynchronized
  have hS : va_S (fun _ => False) s.heap s.heap [] := va_S.rf
  generalize hQ : MQ below _ args s 0 0 _ = Q
  have hl := lv_entry ([.ref h, .int (iI c)]) (n := 2) (Nat.le_of_ble_eq_true rfl)
  rw [show entryFrame m args 2 = entryFrame m ([.ref h, .int (iI c)] : List Value).toArray 2 by rw [hargs], lg_entry_eq]
  generalize (lg_sl ([.ref h, .int (iI c)]) ++ List.replicate (2 - (lg_sl ([.ref h, .int (iI c)])).length) Slot.unset).toArray = ls at hl ⊢
  have hl : lv_has ls 2 [(0, .ref h), (1, .int (iI c))] := hl
  refine lv_aload_n hx hb d_TB_scriptOf_0 rfl (lv_at hl 0 rfl) ?_
  refine va_get (D := g.1) (ci := 2) (v := .ref p3) (C := R_TB) (T := F_TB) (N := 4) hx hb ht i_TB hown hK hP 0 rfl rfl 2 (by decide) (ht _ k_40) (fun _ h9 => h9) rfl d_TB_scriptOf_1 ?_
  refine lv_aload_n hx hb d_TB_scriptOf_4 rfl (lv_at hl 0 rfl) ?_
  refine lv_iload_n hx hb d_TB_scriptOf_5 rfl (lv_at hl 1 rfl) ?_
  refine zcV (ci := 2) (q0 := 0) (As := [.int (iI c)]) (rest := [.ref p3]) ⟨hx, hb, hml, hown, ht⟩ v_TB_37 (c_TB_pieceOf l g h p1 p2 p3 c (by omega)) ⟨Nat.le_of_ble_eq_true rfl, Nat.le_of_ble_eq_true rfl⟩ ⟨Nat.zero_le _, Nat.zero_le _⟩ hK hZ hS hP rfl rfl rfl rfl hl.1 rfl (Nat.le_of_ble_eq_true rfl) d_TB_scriptOf_6 (fun r_6 h_6 => ?_)
  obtain ⟨i9, hi9, rfl, g1, g2⟩ := h_6
  refine ix_iald hx hb hK hP 3 0 rfl rfl (i := (((i9 : Nat) : Int))) i9 (by omega) d_TB_scriptOf_9 ?_
  have f_5007 := PL_in i9 (by omega)
  subst hQ
  exact W.iret (v := iI (SCf i9)) hx hb hr (fun t h9 hW => ⟨_, rfl, ⟨i9, hi9, g1, g2, rfl⟩, h9⟩) (fun _ h9 => by cases h9) d_TB_scriptOf_10
set_option maxHeartbeats 4000000 in
set_option maxRecDepth 100000 in
theorem c_CR_characterAt (l : Launch) (g : zG) (c : Nat) (hc : c < 1122) : Met l y_CR_characterAt w_CR_characterAt (zr 0 0) (zP g [.int (iI (((c : Nat) : Int)))] []) (vp_Si (fun z => z = iI (chA c))) 0 0 (fun _ => False) := by
  refine Met.ofW (cc := b_CR_characterAt) (maxL := 1) (ret := (some .int)) (by decide) rfl ?_
  intro p e s m args below meth cd s₁ B hml hv
  obtain ⟨hargs, hP, hK, hZ⟩ := hv
  have hx := B.exec
  have hb := B.bytes
  have hr := B.returns
  have ht : ∀ w ∈ lw_ok, w.before args s = true := fun w h => atoms_spec (ws := w_CR_characterAt) B.pre w (List.mem_cons_of_mem _ h)
  have hown : s.vm.findClass R_CR = some m.cls := findClass_of_methodNamed B.named
  have hlocks := B.notSynchronized
  have hS : va_S (fun _ => False) s.heap s.heap [] := va_S.rf
  generalize hQ : MQ below _ args s 0 0 _ = Q
  have hl := lv_entry ([.int (iI (((c : Nat) : Int)))]) (n := 1) (Nat.le_of_ble_eq_true rfl)
  rw [show entryFrame m args 1 = entryFrame m ([.int (iI (((c : Nat) : Int)))] : List Value).toArray 1 by rw [hargs], lg_entry_eq]
  generalize (lg_sl ([.int (iI (((c : Nat) : Int)))]) ++ List.replicate (1 - (lg_sl ([.int (iI (((c : Nat) : Int)))])).length) Slot.unset).toArray = ls at hl ⊢
  have hl : lv_has ls 1 [(0, .int (iI (((c : Nat) : Int))))] := hl
  refine lv_iload_n hx hb d_CR_characterAt_0 rfl (lv_at hl 0 rfl) ?_
  refine lv_sipush (v := iI 1120) hx hb d_CR_characterAt_1 (by decide) ?_
  refine ix_icmp_ge (tgt := 11) hx hb d_CR_characterAt_4 (by decide) (by omega) (fun c_4 => ?_) (fun c_4 => ?_)
  · refine lv_sipush (v := iI 8490) hx hb d_CR_characterAt_11 (by decide) ?_
    refine lv_iload_n hx hb d_CR_characterAt_14 rfl (lv_at hl 0 rfl) ?_
    refine ix_iadd hx hb d_CR_characterAt_15 ?_
    refine lv_sipush (v := iI 1120) hx hb d_CR_characterAt_16 (by decide) ?_
    refine ix_isub hx hb d_CR_characterAt_19 ?_
    subst hQ
    exact W.iret (v := iI ((8490 + (((c : Nat) : Int))) - 1120)) hx hb hr (fun t h9 hW => ⟨_, rfl, by first | (exfalso; omega) | exact congrArg iI (by unfold chA; first | rw [if_pos (by omega)] | (rw [if_neg (by omega)]; omega)), h9⟩) (fun _ h9 => by cases h9) d_CR_characterAt_20
  · refine lv_iload_n hx hb d_CR_characterAt_7 rfl (lv_at hl 0 rfl) ?_
    refine lv_goto (tgt := 20) hx hb d_CR_characterAt_8 (by decide) ?_
    subst hQ
    exact W.iret (v := iI (((c : Nat) : Int))) hx hb hr (fun t h9 hW => ⟨_, rfl, by first | (exfalso; omega) | exact congrArg iI (by unfold chA; first | rw [if_pos (by omega)] | (rw [if_neg (by omega)]; omega)), h9⟩) (fun _ h9 => by cases h9) d_CR_characterAt_20
set_option maxHeartbeats 4000000 in
set_option maxRecDepth 100000 in
theorem c_CR_slotOf (l : Launch) (g : zG) (c : Int) (hc : -2147483648 ≤ c ∧ c ≤ 2147483647) : Met l y_CR_slotOf w_CR_slotOf (zr 0 0) (zP g [.int (iI c)] []) (vp_Si (fun z => z = iI (slF c))) 0 0 (fun _ => False) := by
  refine Met.ofW (cc := b_CR_slotOf) (maxL := 1) (ret := (some .int)) (by decide) rfl ?_
  intro p e s m args below meth cd s₁ B hml hv
  obtain ⟨hargs, hP, hK, hZ⟩ := hv
  have hx := B.exec
  have hb := B.bytes
  have hr := B.returns
  have ht : ∀ w ∈ lw_ok, w.before args s = true := fun w h => atoms_spec (ws := w_CR_slotOf) B.pre w (List.mem_cons_of_mem _ h)
  have hown : s.vm.findClass R_CR = some m.cls := findClass_of_methodNamed B.named
  have hlocks := B.notSynchronized
  have hS : va_S (fun _ => False) s.heap s.heap [] := va_S.rf
  generalize hQ : MQ below _ args s 0 0 _ = Q
  have hl := lv_entry ([.int (iI c)]) (n := 1) (Nat.le_of_ble_eq_true rfl)
  rw [show entryFrame m args 1 = entryFrame m ([.int (iI c)] : List Value).toArray 1 by rw [hargs], lg_entry_eq]
  generalize (lg_sl ([.int (iI c)]) ++ List.replicate (1 - (lg_sl ([.int (iI c)])).length) Slot.unset).toArray = ls at hl ⊢
  have hl : lv_has ls 1 [(0, .int (iI c))] := hl
  refine lv_iload_n hx hb d_CR_slotOf_0 rfl (lv_at hl 0 rfl) ?_
  refine ix_if_lt (tgt := 13) hx hb d_CR_slotOf_1 (by decide) (by omega) (fun c_1 => ?_) (fun c_1 => ?_)
  · refine lv_iload_n hx hb d_CR_slotOf_13 rfl (lv_at hl 0 rfl) ?_
    refine lv_sipush (v := iI 8490) hx hb d_CR_slotOf_14 (by decide) ?_
    refine ix_icmp_lt (tgt := 39) hx hb d_CR_slotOf_17 (by decide) (by omega) (fun c_17 => ?_) (fun c_17 => ?_)
    · refine lv_iconst (v := iI (-1)) hx hb d_CR_slotOf_39 rfl ?_
      subst hQ
      exact W.iret (v := iI ((-1))) hx hb hr (fun t h9 hW => ⟨_, rfl, by first | (exfalso; omega) | exact congrArg iI (by unfold slF; first | rw [if_pos (by omega)] | (rw [if_neg (by omega), if_pos (by omega)]; omega) | rw [if_neg (by omega), if_neg (by omega)]), h9⟩) (fun _ h9 => by cases h9) d_CR_slotOf_40
    · refine lv_iload_n hx hb d_CR_slotOf_20 rfl (lv_at hl 0 rfl) ?_
      refine lv_sipush (v := iI 8491) hx hb d_CR_slotOf_21 (by decide) ?_
      refine ix_icmp_gt (tgt := 39) hx hb d_CR_slotOf_24 (by decide) (by omega) (fun c_24 => ?_) (fun c_24 => ?_)
      · refine lv_iconst (v := iI (-1)) hx hb d_CR_slotOf_39 rfl ?_
        subst hQ
        exact W.iret (v := iI ((-1))) hx hb hr (fun t h9 hW => ⟨_, rfl, by first | (exfalso; omega) | exact congrArg iI (by unfold slF; first | rw [if_pos (by omega)] | (rw [if_neg (by omega), if_pos (by omega)]; omega) | rw [if_neg (by omega), if_neg (by omega)]), h9⟩) (fun _ h9 => by cases h9) d_CR_slotOf_40
      · refine lv_sipush (v := iI 1120) hx hb d_CR_slotOf_27 (by decide) ?_
        refine lv_iload_n hx hb d_CR_slotOf_30 rfl (lv_at hl 0 rfl) ?_
        refine ix_iadd hx hb d_CR_slotOf_31 ?_
        refine lv_sipush (v := iI 8490) hx hb d_CR_slotOf_32 (by decide) ?_
        refine ix_isub hx hb d_CR_slotOf_35 ?_
        refine lv_goto (tgt := 40) hx hb d_CR_slotOf_36 (by decide) ?_
        subst hQ
        exact W.iret (v := iI ((1120 + c) - 8490)) hx hb hr (fun t h9 hW => ⟨_, rfl, by first | (exfalso; omega) | exact congrArg iI (by unfold slF; first | rw [if_pos (by omega)] | (rw [if_neg (by omega), if_pos (by omega)]; omega) | rw [if_neg (by omega), if_neg (by omega)]), h9⟩) (fun _ h9 => by cases h9) d_CR_slotOf_40
  · refine lv_iload_n hx hb d_CR_slotOf_4 rfl (lv_at hl 0 rfl) ?_
    refine lv_sipush (v := iI 1120) hx hb d_CR_slotOf_5 (by decide) ?_
    refine ix_icmp_ge (tgt := 13) hx hb d_CR_slotOf_8 (by decide) (by omega) (fun c_8 => ?_) (fun c_8 => ?_)
    · refine lv_iload_n hx hb d_CR_slotOf_13 rfl (lv_at hl 0 rfl) ?_
      refine lv_sipush (v := iI 8490) hx hb d_CR_slotOf_14 (by decide) ?_
      refine ix_icmp_lt (tgt := 39) hx hb d_CR_slotOf_17 (by decide) (by omega) (fun c_17 => ?_) (fun c_17 => ?_)
      · refine lv_iconst (v := iI (-1)) hx hb d_CR_slotOf_39 rfl ?_
        subst hQ
        exact W.iret (v := iI ((-1))) hx hb hr (fun t h9 hW => ⟨_, rfl, by first | (exfalso; omega) | exact congrArg iI (by unfold slF; first | rw [if_pos (by omega)] | (rw [if_neg (by omega), if_pos (by omega)]; omega) | rw [if_neg (by omega), if_neg (by omega)]), h9⟩) (fun _ h9 => by cases h9) d_CR_slotOf_40
      · refine lv_iload_n hx hb d_CR_slotOf_20 rfl (lv_at hl 0 rfl) ?_
        refine lv_sipush (v := iI 8491) hx hb d_CR_slotOf_21 (by decide) ?_
        refine ix_icmp_gt (tgt := 39) hx hb d_CR_slotOf_24 (by decide) (by omega) (fun c_24 => ?_) (fun c_24 => ?_)
        · refine lv_iconst (v := iI (-1)) hx hb d_CR_slotOf_39 rfl ?_
          subst hQ
          exact W.iret (v := iI ((-1))) hx hb hr (fun t h9 hW => ⟨_, rfl, by first | (exfalso; omega) | exact congrArg iI (by unfold slF; first | rw [if_pos (by omega)] | (rw [if_neg (by omega), if_pos (by omega)]; omega) | rw [if_neg (by omega), if_neg (by omega)]), h9⟩) (fun _ h9 => by cases h9) d_CR_slotOf_40
        · refine lv_sipush (v := iI 1120) hx hb d_CR_slotOf_27 (by decide) ?_
          refine lv_iload_n hx hb d_CR_slotOf_30 rfl (lv_at hl 0 rfl) ?_
          refine ix_iadd hx hb d_CR_slotOf_31 ?_
          refine lv_sipush (v := iI 8490) hx hb d_CR_slotOf_32 (by decide) ?_
          refine ix_isub hx hb d_CR_slotOf_35 ?_
          refine lv_goto (tgt := 40) hx hb d_CR_slotOf_36 (by decide) ?_
          subst hQ
          exact W.iret (v := iI ((1120 + c) - 8490)) hx hb hr (fun t h9 hW => ⟨_, rfl, by first | (exfalso; omega) | exact congrArg iI (by unfold slF; first | rw [if_pos (by omega)] | (rw [if_neg (by omega), if_pos (by omega)]; omega) | rw [if_neg (by omega), if_neg (by omega)]), h9⟩) (fun _ h9 => by cases h9) d_CR_slotOf_40
    · refine lv_iload_n hx hb d_CR_slotOf_11 rfl (lv_at hl 0 rfl) ?_
      subst hQ
      exact W.iret (v := iI c) hx hb hr (fun t h9 hW => ⟨_, rfl, by first | (exfalso; omega) | exact congrArg iI (by unfold slF; first | rw [if_pos (by omega)] | (rw [if_neg (by omega), if_pos (by omega)]; omega) | rw [if_neg (by omega), if_neg (by omega)]), h9⟩) (fun _ h9 => by cases h9) d_CR_slotOf_12
set_option maxHeartbeats 4000000 in
set_option maxRecDepth 100000 in
theorem c_CR_nextOf (l : Launch) (g : zG) (h q : Nat) (la : Int) (NX : Nat → Int) (c : Int) (hc : -2147483648 ≤ c ∧ c ≤ 2147483647) : Met l y_CR_nextOf w_CR_nextOf (zr 1 20) (zP g [.ref h, .int (iI c)] [(h, .inr (3, [.int (iI la), .ref q])), (q, .inl (zI g, 1122, .inl (ai NX)))]) (vp_Si (fun z => z = iI (nxF NX c))) 0 0 (fun _ => False) := by
  refine Met.ofW (cc := b_CR_nextOf) (maxL := 3) (ret := (some .int)) (by decide) rfl ?_
  intro p e s m args below meth cd s₁ B hml hv
  obtain ⟨hargs, hP, hK, hZ⟩ := hv
  have hx := B.exec
  have hb := B.bytes
  have hr := B.returns
  have ht : ∀ w ∈ lw_ok, w.before args s = true := fun w h => atoms_spec (ws := w_CR_nextOf) B.pre w (List.mem_cons_of_mem _ h)
  have hown : s.vm.findClass R_CR = some m.cls := findClass_of_methodNamed B.named
  have hlocks := B.notSynchronized
  have hS : va_S (fun _ => False) s.heap s.heap [] := va_S.rf
  generalize hQ : MQ below _ args s 0 0 _ = Q
  have hl := lv_entry ([.ref h, .int (iI c)]) (n := 3) (Nat.le_of_ble_eq_true rfl)
  rw [show entryFrame m args 3 = entryFrame m ([.ref h, .int (iI c)] : List Value).toArray 3 by rw [hargs], lg_entry_eq]
  generalize (lg_sl ([.ref h, .int (iI c)]) ++ List.replicate (3 - (lg_sl ([.ref h, .int (iI c)])).length) Slot.unset).toArray = ls at hl ⊢
  have hl : lv_has ls 3 [(0, .ref h), (1, .int (iI c))] := hl
  refine lv_iload_n hx hb d_CR_nextOf_0 rfl (lv_at hl 1 rfl) ?_
  refine zcS (As := [.int (iI c)]) (rest := []) ⟨hx, hb, hml, hown, ht⟩ t_CR_35 (c_CR_slotOf l g c (by omega)) ⟨Nat.le_of_ble_eq_true rfl, Nat.le_of_ble_eq_true rfl⟩ ⟨Nat.zero_le _, Nat.zero_le _⟩ hK hZ hS zP_nil rfl hl.1 rfl (Nat.le_of_ble_eq_true rfl) d_CR_nextOf_1 (fun r_1 h_1 => ?_)
  subst h_1
  have hsl := slF_bd c
  refine lv_istore_n (lv' := [(2, .int (iI (slF c))), (0, .ref h), (1, .int (iI c))]) hx hb d_CR_nextOf_4 rfl hl (by decide) rfl (fun ls hl => ?_)
  refine lv_iload_n hx hb d_CR_nextOf_5 rfl (lv_at hl 0 rfl) ?_
  refine ix_if_ge (tgt := 13) hx hb d_CR_nextOf_6 (by decide) (by omega) (fun c_6 => ?_) (fun c_6 => ?_)
  · refine lv_aload_n hx hb d_CR_nextOf_13 rfl (lv_at hl 1 rfl) ?_
    refine va_get (D := g.1) (ci := 3) (v := .ref q) (C := R_CR) (T := F_CR) (N := 2) hx hb ht i_CR hown hK hP 0 rfl rfl 1 (by decide) (ht _ k_81) (fun _ h9 => h9) rfl d_CR_nextOf_14 ?_
    refine lv_iload_n hx hb d_CR_nextOf_17 rfl (lv_at hl 0 rfl) ?_
    refine ix_iald hx hb hK hP 1 0 rfl rfl (i := (slF c)) ((slF c).toNat) (by omega) d_CR_nextOf_18 ?_
    subst hQ
    exact W.iret (v := iI (NX ((slF c).toNat))) hx hb hr (fun t h9 hW => ⟨_, rfl, congrArg iI (by unfold nxF; first | rw [if_pos (by omega)] | rw [if_neg (by omega)]), h9⟩) (fun _ h9 => by cases h9) d_CR_nextOf_19
  · refine lv_iload_n hx hb d_CR_nextOf_9 rfl (lv_at hl 2 rfl) ?_
    refine lv_goto (tgt := 19) hx hb d_CR_nextOf_10 (by decide) ?_
    subst hQ
    exact W.iret (v := iI c) hx hb hr (fun t h9 hW => ⟨_, rfl, congrArg iI (by unfold nxF; first | rw [if_pos (by omega)] | rw [if_neg (by omega)]), h9⟩) (fun _ h9 => by cases h9) d_CR_nextOf_19
