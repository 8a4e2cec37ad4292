set_option maxHeartbeats 4000000 in
set_option maxRecDepth 100000 in
theorem c_MO_in (l : Launch) (g : zG) (r : Nat → Nat) (ut uc la wo : Int) (bw : Nat → Nat) (mt : Nat → Int) (ms : Int) (s9 c : Nat) (hs9 : s9 < 8) (hc : c ≤ 1114111) (hbw : ∀ j, bw j < 18446744073709551616) : Met l y_MO_in w_MO_in (zr 0 0) (zP g [.ref (r 0), .int (iI (((s9 : Nat) : Int))), .int (iI (((c : Nat) : Int)))] [(r 0, .inr (4, [.int (iI ut), .int (iI uc), .int (iI la), .int (iI wo), .ref (r 1), .ref (r 2), .ref (r 3), .int (iI ms), .ref (r 4)])), (r 1, .inl (zJ g, 139264, .inr (.inl (lA bw)))), (r 2, .inl (zBt g, 12544, .inl (ai kF))), (r 3, .inl (zI g, 4, .inl (ai mt))), (r 4, .inl (zI g, 14, .inl (ai PT)))]) (vp_Si (fun z => ((bt bw s9 c = true) ∧ z = iI 1) ∨ (¬ (bt bw s9 c = true) ∧ z = iI 0))) 0 0 (fun _ => False) := by
  refine Met.ofW (cc := b_MO_in) (maxL := 3) (ret := (some .boolean)) (by decide) rfl ?_
  intro p e s m args below meth cd s₁ B hml hv
  obtain ⟨hargs, hP, hK, hZ⟩ := hv
  have hx := B.exec
  have hb := B.bytes
  have hr := B.returns
  have ht : ∀ w ∈ lw_ok, w.before args s = true := fun w h => atoms_spec (ws := w_MO_in) B.pre w (List.mem_cons_of_mem _ h)
  have hown : s.vm.findClass R_MO = some m.cls := findClass_of_methodNamed B.named
  have hlocks := B.notSynchronized
  have hS : va_S (fun _ => False) s.heap s.heap [] := va_S.rf
  generalize hQ : MQ below _ args s 0 0 _ = Q
  have hl := lv_entry ([.ref (r 0), .int (iI (((s9 : Nat) : Int))), .int (iI (((c : Nat) : Int)))]) (n := 3) (Nat.le_of_ble_eq_true rfl)
  rw [show entryFrame m args 3 = entryFrame m ([.ref (r 0), .int (iI (((s9 : Nat) : Int))), .int (iI (((c : Nat) : Int)))] : List Value).toArray 3 by rw [hargs], lg_entry_eq]
  generalize (lg_sl ([.ref (r 0), .int (iI (((s9 : Nat) : Int))), .int (iI (((c : Nat) : Int)))]) ++ List.replicate (3 - (lg_sl ([.ref (r 0), .int (iI (((s9 : Nat) : Int))), .int (iI (((c : Nat) : Int)))])).length) Slot.unset).toArray = ls at hl ⊢
  have hl : lv_has ls 3 [(0, .ref (r 0)), (1, .int (iI (((s9 : Nat) : Int)))), (2, .int (iI (((c : Nat) : Int))))] := hl
  refine lv_aload_n hx hb d_MO_in_0 rfl (lv_at hl 0 rfl) ?_
  refine va_get (D := g.1) (ci := 4) (v := .ref (r 1)) (C := R_MO) (T := F_MO) (N := 9) hx hb ht i_MO hown hK hP 0 rfl rfl 4 (by decide) (ht _ k_422) (fun _ h9 => h9) rfl d_MO_in_1 ?_
  refine lv_iload_n hx hb d_MO_in_4 rfl (lv_at hl 1 rfl) ?_
  refine lv_sipush (v := iI 17408) hx hb d_MO_in_5 (by decide) ?_
  refine ix_imul hx hb d_MO_in_8 ?_
  refine lv_iload_n hx hb d_MO_in_9 rfl (lv_at hl 2 rfl) ?_
  refine lv_bipush (v := iI 6) hx hb d_MO_in_10 (by decide) ?_
  refine ix_shr6 hx hb d_MO_in_12 (by omega) ?_
  refine ix_iadd hx hb d_MO_in_13 ?_
  refine ix_lald hx hb hK hP 1 1 rfl rfl (i := (((((s9 : Nat) : Int)) * 17408) + ((((c : Nat) : Int)) / 64))) ((s9 * 17408) + (c / 64)) (by omega) d_MO_in_14 ?_
  refine lv_iload_n hx hb d_MO_in_15 rfl (lv_at hl 2 rfl) ?_
  refine lv_bipush (v := iI 63) hx hb d_MO_in_16 (by decide) ?_
  refine ix_and63 hx hb d_MO_in_18 (by omega) ?_
  refine lv_lshr (v := ((lA bw) ((s9 * 17408) + (c / 64))) >>> ((iI ((((c : Nat) : Int)) % 64)).toInt64 &&& 63)) hx hb d_MO_in_19 (rfl) ?_
  refine lv_lconst (v := lN 1) hx hb d_MO_in_20 (by decide) ?_
  refine lv_land hx hb d_MO_in_21 ?_
  rw [show (((lA bw) ((s9 * 17408) + (c / 64))) >>> ((iI ((((c : Nat) : Int)) % 64)).toInt64 &&& 63)) &&& (lN 1) = lN (if (bw (s9 * 17408 + c / 64)).testBit (c % 64) = true then 1 else 0) from mo_in bw _ c (hbw _)]
  refine lv_lconst (v := lN 0) hx hb d_MO_in_22 (by decide) ?_
  refine W.lcmp hx hb d_MO_in_23 ?_
  refine lv_if_eq (tgt := 31) hx hb d_MO_in_24 (by decide) (fun c_24 => ?_) (fun c_24 => ?_)
  · have e9 := (mo_if _).mp (wb_lg0.mp c_24)
    refine lv_iconst (v := iI 0) hx hb d_MO_in_31 rfl ?_
    subst hQ
    exact W.zret (v := iI 0) hx hb hr (by decide) (fun t h9 hW => ⟨_, rfl, Or.inr ⟨by unfold bt; rw [e9]; decide, rfl⟩, h9⟩) (fun _ h9 => by cases h9) d_MO_in_32
  · have e9 : ¬ _ = false := fun q9 => c_24 (wb_lg0.mpr ((mo_if _).mpr q9))
    refine lv_iconst (v := iI 1) hx hb d_MO_in_27 rfl ?_
    refine lv_goto (tgt := 32) hx hb d_MO_in_28 (by decide) ?_
    subst hQ
    exact W.zret (v := iI 1) hx hb hr (by decide) (fun t h9 hW => ⟨_, rfl, Or.inl ⟨by unfold bt; simpa using e9, rfl⟩, h9⟩) (fun _ h9 => by cases h9) d_MO_in_32
set_option maxHeartbeats 4000000 in
set_option maxRecDepth 100000 in
theorem c_MO_put (l : Launch) (g : zG) (sz : Nat) (r : Nat → Nat) (ut uc la wo : Int) (bw : Nat → Nat) (mt : Nat → Int) (ms : Int) (s9 c : Nat) (hs9 : s9 < 8) (hc : c ≤ 1114111) (hbw : ∀ j, bw j < 18446744073709551616) : Met l y_MO_put w_MO_put { frames := 0, cells := 0, slots := 0, locals := 0 } (zPw g [.ref (r 0), .int (iI (((s9 : Nat) : Int))), .int (iI (((c : Nat) : Int)))] [(r 0, .inr (4, [.int (iI ut), .int (iI uc), .int (iI la), .int (iI wo), .ref (r 1), .ref (r 2), .ref (r 3), .int (iI ms), .ref (r 4)])), (r 1, .inl (zJ g, 139264, .inr (.inl (lA bw)))), (r 2, .inl (zBt g, 12544, .inl (ai kF))), (r 3, .inl (zI g, 4, .inl (ai mt))), (r 4, .inl (zI g, 14, .inl (ai PT)))] [] sz) (va_Qv (fun w => w = [(r 0, .inr (4, [.int (iI ut), .int (iI uc), .int (iI la), .int (iI wo), .ref (r 1), .ref (r 2), .ref (r 3), .int (iI ms), .ref (r 4)])), (r 1, .inl (zJ g, 139264, .inr (.inl (lA (va_up bw (s9 * 17408 + c / 64) (bw (s9 * 17408 + c / 64) ||| 2 ^ (c % 64))))))), (r 2, .inl (zBt g, 12544, .inl (ai kF))), (r 3, .inl (zI g, 4, .inl (ai mt))), (r 4, .inl (zI g, 14, .inl (ai PT)))]) (zB g (va_A [(r 0, .inr (4, [.int (iI ut), .int (iI uc), .int (iI la), .int (iI wo), .ref (r 1), .ref (r 2), .ref (r 3), .int (iI ms), .ref (r 4)])), (r 1, .inl (zJ g, 139264, .inr (.inl (lA bw)))), (r 2, .inl (zBt g, 12544, .inl (ai kF))), (r 3, .inl (zI g, 4, .inl (ai mt))), (r 4, .inl (zI g, 14, .inl (ai PT)))] sz)) (va_A [(r 0, .inr (4, [.int (iI ut), .int (iI uc), .int (iI la), .int (iI wo), .ref (r 1), .ref (r 2), .ref (r 3), .int (iI ms), .ref (r 4)])), (r 1, .inl (zJ g, 139264, .inr (.inl (lA bw)))), (r 2, .inl (zBt g, 12544, .inl (ai kF))), (r 3, .inl (zI g, 4, .inl (ai mt))), (r 4, .inl (zI g, 14, .inl (ai PT)))] sz)) 0 0 (va_A [(r 0, .inr (4, [.int (iI ut), .int (iI uc), .int (iI la), .int (iI wo), .ref (r 1), .ref (r 2), .ref (r 3), .int (iI ms), .ref (r 4)])), (r 1, .inl (zJ g, 139264, .inr (.inl (lA bw)))), (r 2, .inl (zBt g, 12544, .inl (ai kF))), (r 3, .inl (zI g, 4, .inl (ai mt))), (r 4, .inl (zI g, 14, .inl (ai PT)))] sz) := by
  refine Met.ofW (cc := b_MO_put) (maxL := 3) (ret := none) (by decide) rfl ?_
  intro p e s m args below meth cd s₁ B hml hv
  obtain ⟨hargs, hsz, hP, hK, hD0, hZ, hO0, hAp⟩ := hv
  have hx := B.exec
  have hb := B.bytes
  have hr := B.returns
  have ht : ∀ w ∈ lw_ok, w.before args s = true := fun w h => atoms_spec (ws := w_MO_put) B.pre w (List.mem_cons_of_mem _ h)
  have hown : s.vm.findClass R_MO = some m.cls := findClass_of_methodNamed B.named
  have hlocks := B.notSynchronized
  subst hsz
  have hD := hD0.self (sz := s.heap.size)
  generalize hAe : va_A [(r 0, .inr (4, [.int (iI ut), .int (iI uc), .int (iI la), .int (iI wo), .ref (r 1), .ref (r 2), .ref (r 3), .int (iI ms), .ref (r 4)])), (r 1, .inl (zJ g, 139264, .inr (.inl (lA bw)))), (r 2, .inl (zBt g, 12544, .inl (ai kF))), (r 3, .inl (zI g, 4, .inl (ai mt))), (r 4, .inl (zI g, 14, .inl (ai PT)))] s.heap.size = A at hD hZ hAp ⊢
  have hA : ∀ q : Nat, s.heap.size ≤ q → A q := fun q h => by rw [← hAe]; exact Or.inr h
  have hS : va_S A s.heap s.heap [] := va_S.rf
  generalize hQ : MQ below _ args s 0 0 _ = Q
  have hl := lv_entry ([.ref (r 0), .int (iI (((s9 : Nat) : Int))), .int (iI (((c : Nat) : Int)))]) (n := 3) (Nat.le_of_ble_eq_true rfl)
  rw [show entryFrame m args 3 = entryFrame m ([.ref (r 0), .int (iI (((s9 : Nat) : Int))), .int (iI (((c : Nat) : Int)))] : List Value).toArray 3 by rw [hargs], lg_entry_eq]
  generalize (lg_sl ([.ref (r 0), .int (iI (((s9 : Nat) : Int))), .int (iI (((c : Nat) : Int)))]) ++ List.replicate (3 - (lg_sl ([.ref (r 0), .int (iI (((s9 : Nat) : Int))), .int (iI (((c : Nat) : Int)))])).length) Slot.unset).toArray = ls at hl ⊢
  have hl : lv_has ls 3 [(0, .ref (r 0)), (1, .int (iI (((s9 : Nat) : Int)))), (2, .int (iI (((c : Nat) : Int))))] := hl
  obtain ⟨H, locs, hHe, hLe⟩ : ∃ (H : Heap) (locs : List Loc), H = s.heap ∧ locs = [] := ⟨_, _, rfl, rfl⟩
  rw [show W p l e _ s m args below meth cd s.heap [] 0 0 Q = W p l e _ s m args below meth cd H locs 0 0 Q by rw [hHe, hLe]]
  rw [← hHe] at hP
  have hS : va_S A s.heap H locs := by rw [hHe, hLe]; exact hS
  refine lv_aload_n hx hb d_MO_put_0 rfl (lv_at hl 0 rfl) ?_
  refine va_get (D := g.1) (ci := 4) (v := .ref (r 1)) (C := R_MO) (T := F_MO) (N := 9) hx hb ht i_MO hown hK hP 0 rfl rfl 4 (by decide) (ht _ k_422) (fun _ h9 => h9) rfl d_MO_put_1 ?_
  refine lv_iload_n hx hb d_MO_put_4 rfl (lv_at hl 1 rfl) ?_
  refine lv_sipush (v := iI 17408) hx hb d_MO_put_5 (by decide) ?_
  refine ix_imul hx hb d_MO_put_8 ?_
  refine lv_iload_n hx hb d_MO_put_9 rfl (lv_at hl 2 rfl) ?_
  refine lv_bipush (v := iI 6) hx hb d_MO_put_10 (by decide) ?_
  refine ix_shr6 hx hb d_MO_put_12 (by omega) ?_
  refine ix_iadd hx hb d_MO_put_13 ?_
  refine lv_dup2_11 hx hb d_MO_put_14 rfl rfl ?_
  refine ix_lald hx hb hK hP 1 1 rfl rfl (i := (((((s9 : Nat) : Int)) * 17408) + ((((c : Nat) : Int)) / 64))) ((s9 * 17408) + (c / 64)) (by omega) d_MO_put_15 ?_
  refine lv_lconst (v := lN 1) hx hb d_MO_put_16 (by decide) ?_
  refine lv_iload_n hx hb d_MO_put_17 rfl (lv_at hl 2 rfl) ?_
  refine lv_bipush (v := iI 63) hx hb d_MO_put_18 (by decide) ?_
  refine ix_and63 hx hb d_MO_put_20 (by omega) ?_
  refine lv_lshl (v := lN (2 ^ (c % 64))) hx hb d_MO_put_21 (mo_shl c) ?_
  refine lv_lor hx hb d_MO_put_22 ?_
  rw [show ((lA bw) ((s9 * 17408) + (c / 64))) ||| (lN (2 ^ (c % 64))) = lN (bw (s9 * 17408 + c / 64) ||| 2 ^ (c % 64)) from wb_or (hbw _) (pow64 _ (by omega))]
  refine ix_lastN hx hb hK hP hD hS 1 1 rfl rfl (i := (((((s9 : Nat) : Int)) * 17408) + ((((c : Nat) : Int)) / 64))) ((s9 * 17408) + (c / 64)) (by omega) d_MO_put_23 (fun H locs hP hD hS => ?_)
  have hP : va_P g.1 classes [(r 0, .inr (4, [.int (iI ut), .int (iI uc), .int (iI la), .int (iI wo), .ref (r 1), .ref (r 2), .ref (r 3), .int (iI ms), .ref (r 4)])), (r 1, .inl (zJ g, 139264, .inr (.inl (lA (va_up bw ((s9 * 17408) + (c / 64)) (bw (s9 * 17408 + c / 64) ||| 2 ^ (c % 64))))))), (r 2, .inl (zBt g, 12544, .inl (ai kF))), (r 3, .inl (zI g, 4, .inl (ai mt))), (r 4, .inl (zI g, 14, .inl (ai PT)))] H := hP
  have hD : va_D A [(r 0, .inr (4, [.int (iI ut), .int (iI uc), .int (iI la), .int (iI wo), .ref (r 1), .ref (r 2), .ref (r 3), .int (iI ms), .ref (r 4)])), (r 1, .inl (zJ g, 139264, .inr (.inl (lA (va_up bw ((s9 * 17408) + (c / 64)) (bw (s9 * 17408 + c / 64) ||| 2 ^ (c % 64))))))), (r 2, .inl (zBt g, 12544, .inl (ai kF))), (r 3, .inl (zI g, 4, .inl (ai mt))), (r 4, .inl (zI g, 14, .inl (ai PT)))] := hD
  subst hQ
  exact W.vret hx hb hr (fun t h9 hW => ⟨⟨_, rfl, rfl, by rw [h9]; exact hP, va_K.moved hW.alike hK, hD⟩, hS.F h9⟩) hS.2.2 d_MO_put_24
set_option maxHeartbeats 4000000 in
set_option maxRecDepth 100000 in
theorem c_MO_fill (l : Launch) (g : zG) (sz : Nat) (r : Nat → Nat) (ut uc la wo : Int) (bw : Nat → Nat) (mt : Nat → Int) (ms : Int) (s9 low high : Nat) (hs9 : s9 < 8) (hh : high ≤ 1114111) (hlh : low ≤ high + 1) (hbw : ∀ j, bw j < 18446744073709551616) : Met l y_MO_fill w_MO_fill { frames := 1, cells := 0, slots := 0, locals := 22 } (zPw g [.ref (r 0), .int (iI (((s9 : Nat) : Int))), .int (iI (((low : Nat) : Int))), .int (iI (((high : Nat) : Int)))] [(r 0, .inr (4, [.int (iI ut), .int (iI uc), .int (iI la), .int (iI wo), .ref (r 1), .ref (r 2), .ref (r 3), .int (iI ms), .ref (r 4)])), (r 1, .inl (zJ g, 139264, .inr (.inl (lA bw)))), (r 2, .inl (zBt g, 12544, .inl (ai kF))), (r 3, .inl (zI g, 4, .inl (ai mt))), (r 4, .inl (zI g, 14, .inl (ai PT)))] [] sz) (va_Qv (fun w => ∃ b2 : Nat → Nat, w = [(r 0, .inr (4, [.int (iI ut), .int (iI uc), .int (iI la), .int (iI wo), .ref (r 1), .ref (r 2), .ref (r 3), .int (iI ms), .ref (r 4)])), (r 1, .inl (zJ g, 139264, .inr (.inl (lA b2)))), (r 2, .inl (zBt g, 12544, .inl (ai kF))), (r 3, .inl (zI g, 4, .inl (ai mt))), (r 4, .inl (zI g, 14, .inl (ai PT)))] ∧ fl bw b2 s9 low (high + 1)) (zB g (va_A [(r 0, .inr (4, [.int (iI ut), .int (iI uc), .int (iI la), .int (iI wo), .ref (r 1), .ref (r 2), .ref (r 3), .int (iI ms), .ref (r 4)])), (r 1, .inl (zJ g, 139264, .inr (.inl (lA bw)))), (r 2, .inl (zBt g, 12544, .inl (ai kF))), (r 3, .inl (zI g, 4, .inl (ai mt))), (r 4, .inl (zI g, 14, .inl (ai PT)))] sz)) (va_A [(r 0, .inr (4, [.int (iI ut), .int (iI uc), .int (iI la), .int (iI wo), .ref (r 1), .ref (r 2), .ref (r 3), .int (iI ms), .ref (r 4)])), (r 1, .inl (zJ g, 139264, .inr (.inl (lA bw)))), (r 2, .inl (zBt g, 12544, .inl (ai kF))), (r 3, .inl (zI g, 4, .inl (ai mt))), (r 4, .inl (zI g, 14, .inl (ai PT)))] sz)) 0 0 (va_A [(r 0, .inr (4, [.int (iI ut), .int (iI uc), .int (iI la), .int (iI wo), .ref (r 1), .ref (r 2), .ref (r 3), .int (iI ms), .ref (r 4)])), (r 1, .inl (zJ g, 139264, .inr (.inl (lA bw)))), (r 2, .inl (zBt g, 12544, .inl (ai kF))), (r 3, .inl (zI g, 4, .inl (ai mt))), (r 4, .inl (zI g, 14, .inl (ai PT)))] sz) := by
  refine Met.ofW (cc := b_MO_fill) (maxL := 5) (ret := none) (by decide) rfl ?_
  intro p e s m args below meth cd s₁ B hml hv
  obtain ⟨hargs, hsz, hP, hK, hD0, hZ, hO0, hAp⟩ := hv
  have hx := B.exec
  have hb := B.bytes
  have hr := B.returns
  have ht : ∀ w ∈ lw_ok, w.before args s = true := fun w h => atoms_spec (ws := w_MO_fill) B.pre w (List.mem_cons_of_mem _ h)
  have hown : s.vm.findClass R_MO = some m.cls := findClass_of_methodNamed B.named
  have hlocks := B.notSynchronized
  subst hsz
  have hD := hD0.self (sz := s.heap.size)
  generalize hAe : va_A [(r 0, .inr (4, [.int (iI ut), .int (iI uc), .int (iI la), .int (iI wo), .ref (r 1), .ref (r 2), .ref (r 3), .int (iI ms), .ref (r 4)])), (r 1, .inl (zJ g, 139264, .inr (.inl (lA bw)))), (r 2, .inl (zBt g, 12544, .inl (ai kF))), (r 3, .inl (zI g, 4, .inl (ai mt))), (r 4, .inl (zI g, 14, .inl (ai PT)))] s.heap.size = A at hD hZ hAp ⊢
  have hA : ∀ q : Nat, s.heap.size ≤ q → A q := fun q h => by rw [← hAe]; exact Or.inr h
  have hS : va_S A s.heap s.heap [] := va_S.rf
  generalize hQ : MQ below _ args s 0 0 _ = Q
  have hl := lv_entry ([.ref (r 0), .int (iI (((s9 : Nat) : Int))), .int (iI (((low : Nat) : Int))), .int (iI (((high : Nat) : Int)))]) (n := 5) (Nat.le_of_ble_eq_true rfl)
  rw [show entryFrame m args 5 = entryFrame m ([.ref (r 0), .int (iI (((s9 : Nat) : Int))), .int (iI (((low : Nat) : Int))), .int (iI (((high : Nat) : Int)))] : List Value).toArray 5 by rw [hargs], lg_entry_eq]
  generalize (lg_sl ([.ref (r 0), .int (iI (((s9 : Nat) : Int))), .int (iI (((low : Nat) : Int))), .int (iI (((high : Nat) : Int)))]) ++ List.replicate (5 - (lg_sl ([.ref (r 0), .int (iI (((s9 : Nat) : Int))), .int (iI (((low : Nat) : Int))), .int (iI (((high : Nat) : Int)))])).length) Slot.unset).toArray = ls at hl ⊢
  have hl : lv_has ls 5 [(0, .ref (r 0)), (1, .int (iI (((s9 : Nat) : Int)))), (2, .int (iI (((low : Nat) : Int)))), (3, .int (iI (((high : Nat) : Int))))] := hl
  obtain ⟨H, locs, hHe, hLe⟩ : ∃ (H : Heap) (locs : List Loc), H = s.heap ∧ locs = [] := ⟨_, _, rfl, rfl⟩
  rw [show W p l e _ s m args below meth cd s.heap [] 0 0 Q = W p l e _ s m args below meth cd H locs 0 0 Q by rw [hHe, hLe]]
  rw [← hHe] at hP
  have hS : va_S A s.heap H locs := by rw [hHe, hLe]; exact hS
  have J3 : ∀ fu : Nat, ∀ (c : Nat) (b2 : Nat → Nat) (H : Heap) (locs : List Loc) (ls : Array Slot), high + 1 - c < fu → lv_has ls 5 [(0, .ref (r 0)), (1, .int (iI (((s9 : Nat) : Int)))), (2, .int (iI (((low : Nat) : Int)))), (3, .int (iI (((high : Nat) : Int)))), (4, .int (iI (((c : Nat) : Int))))] → (low ≤ c) → (c ≤ high + 1) → (fl bw b2 s9 low c) → va_P g.1 classes [(r 0, .inr (4, [.int (iI ut), .int (iI uc), .int (iI la), .int (iI wo), .ref (r 1), .ref (r 2), .ref (r 3), .int (iI ms), .ref (r 4)])), (r 1, .inl (zJ g, 139264, .inr (.inl (lA b2)))), (r 2, .inl (zBt g, 12544, .inl (ai kF))), (r 3, .inl (zI g, 4, .inl (ai mt))), (r 4, .inl (zI g, 14, .inl (ai PT)))] H → va_D A [(r 0, .inr (4, [.int (iI ut), .int (iI uc), .int (iI la), .int (iI wo), .ref (r 1), .ref (r 2), .ref (r 3), .int (iI ms), .ref (r 4)])), (r 1, .inl (zJ g, 139264, .inr (.inl (lA b2)))), (r 2, .inl (zBt g, 12544, .inl (ai kF))), (r 3, .inl (zI g, 4, .inl (ai mt))), (r 4, .inl (zI g, 14, .inl (ai PT)))] → va_S A s.heap H locs → W p l e (headSpec w_MO_fill { frames := 1, cells := 0, slots := 0, locals := 22 }).room s m args below meth cd H locs 0 0 Q (F0 m 3 ls []) := by
    intro fu
    induction fu with
    | zero => exact fun _ _ _ _ _ hfu _ _ _ _ _ _ _ => absurd hfu (Nat.not_lt_zero _)
    | succ fu ih =>
      intro c b2 H locs ls hfu hl h1 h2 hfl hP hD hS
      refine lv_iload hx hb d_MO_fill_3 (lv_at hl 4 rfl) ?_
      refine lv_iload_n hx hb d_MO_fill_5 rfl (lv_at hl 3 rfl) ?_
      refine ix_icmp_gt (tgt := 64) hx hb d_MO_fill_6 (by decide) (by omega) (fun c_6 => ?_) (fun c_6 => ?_)
      · obtain rfl : c = high + 1 := by omega
        subst hQ
        exact W.vret hx hb hr (fun t h9 hW => ⟨⟨_, rfl, ⟨_, rfl, hfl⟩, by rw [h9]; exact hP, va_K.moved hW.alike hK, hD⟩, hS.F h9⟩) hS.2.2 d_MO_fill_64
      · refine lv_iload hx hb d_MO_fill_9 (lv_at hl 4 rfl) ?_
        refine lv_bipush (v := iI 63) hx hb d_MO_fill_11 (by decide) ?_
        refine ix_and63 hx hb d_MO_fill_13 (by omega) ?_
        refine ix_if_ne (tgt := 51) hx hb d_MO_fill_14 (by decide) (by omega) (fun c_14 => ?_) (fun c_14 => ?_)
        · refine lv_aload_n hx hb d_MO_fill_51 rfl (lv_at hl 0 rfl) ?_
          refine lv_iload_n hx hb d_MO_fill_52 rfl (lv_at hl 1 rfl) ?_
          refine lv_iload hx hb d_MO_fill_53 (lv_at hl 4 rfl) ?_
          have hF_55 := va_free (wc := [(r 0, .inr (4, [.int (iI ut), .int (iI uc), .int (iI la), .int (iI wo), .ref (r 1), .ref (r 2), .ref (r 3), .int (iI ms), .ref (r 4)])), (r 1, .inl (zJ g, 139264, .inr (.inl (lA b2)))), (r 2, .inl (zBt g, 12544, .inl (ai kF))), (r 3, .inl (zI g, 4, .inl (ai mt))), (r 4, .inl (zI g, 14, .inl (ai PT)))]) hD hS hA [0, 1, 2, 3, 4] rfl
          refine zcVv (ci := 4) (q0 := 0) (As := [.int (iI (((s9 : Nat) : Int))), .int (iI (((c : Nat) : Int)))]) (rest := []) ⟨hx, hb, hml, hown, ht⟩ v_MO_101 (c_MO_put l g H.size r ut uc la wo b2 mt ms s9 c hs9 (by omega) hfl.1) ⟨Nat.le_of_ble_eq_true rfl, Nat.le_of_ble_eq_true rfl⟩ ⟨Nat.zero_le _, Nat.zero_le _⟩ hK hZ hS hP (hD.weaken (fun _ _ _ _ => trivial)) hF_55 zP_nil zAp_nil rfl rfl rfl rfl hl.1 rfl (Nat.le_of_ble_eq_true rfl) d_MO_fill_55 (fun w_55 H locs h_55 pp_55 dd_55 zz_55 kk_55 hS => ?_)
          subst h_55
          have hP : va_P g.1 classes [(r 0, .inr (4, [.int (iI ut), .int (iI uc), .int (iI la), .int (iI wo), .ref (r 1), .ref (r 2), .ref (r 3), .int (iI ms), .ref (r 4)])), (r 1, .inl (zJ g, 139264, .inr (.inl (lA (va_up b2 (s9 * 17408 + c / 64) (b2 (s9 * 17408 + c / 64) ||| 2 ^ (c % 64))))))), (r 2, .inl (zBt g, 12544, .inl (ai kF))), (r 3, .inl (zI g, 4, .inl (ai mt))), (r 4, .inl (zI g, 14, .inl (ai PT)))] H := pp_55
          have hD : va_D A [(r 0, .inr (4, [.int (iI ut), .int (iI uc), .int (iI la), .int (iI wo), .ref (r 1), .ref (r 2), .ref (r 3), .int (iI ms), .ref (r 4)])), (r 1, .inl (zJ g, 139264, .inr (.inl (lA (va_up b2 (s9 * 17408 + c / 64) (b2 (s9 * 17408 + c / 64) ||| 2 ^ (c % 64))))))), (r 2, .inl (zBt g, 12544, .inl (ai kF))), (r 3, .inl (zI g, 4, .inl (ai mt))), (r 4, .inl (zI g, 14, .inl (ai PT)))] := dd_55.weaken (fun _ _ _ h9 => hF_55 _ h9)
          refine lv_iinc (v := iI ((((c : Nat) : Int)) + 1)) (lv' := [(4, .int (iI ((((c : Nat) : Int)) + 1))), (0, .ref (r 0)), (1, .int (iI (((s9 : Nat) : Int)))), (2, .int (iI (((low : Nat) : Int)))), (3, .int (iI (((high : Nat) : Int))))]) hx hb d_MO_fill_58 hl (k := 4) rfl (iI_add _ _) (by decide) rfl (fun ls hl => ?_)
          refine lv_goto (tgt := 3) hx hb d_MO_fill_61 (by decide) ?_
          exact ih (c + 1) (va_up b2 (s9 * 17408 + c / 64) (b2 (s9 * 17408 + c / 64) ||| 2 ^ (c % 64))) _ _ ls (by omega) (lv_sub hl [1, 2, 3, 4, 0] rfl) (by omega) (by omega) (by exact fl_put hfl h1 (by omega)) hP hD hS
        · refine lv_iload_n hx hb d_MO_fill_17 rfl (lv_at hl 3 rfl) ?_
          refine lv_iload hx hb d_MO_fill_18 (lv_at hl 4 rfl) ?_
          refine ix_isub hx hb d_MO_fill_20 ?_
          refine lv_bipush (v := iI 63) hx hb d_MO_fill_21 (by decide) ?_
          refine ix_icmp_lt (tgt := 51) hx hb d_MO_fill_23 (by decide) (by omega) (fun c_23 => ?_) (fun c_23 => ?_)
          · refine lv_aload_n hx hb d_MO_fill_51 rfl (lv_at hl 0 rfl) ?_
            refine lv_iload_n hx hb d_MO_fill_52 rfl (lv_at hl 1 rfl) ?_
            refine lv_iload hx hb d_MO_fill_53 (lv_at hl 4 rfl) ?_
            have hF_55 := va_free (wc := [(r 0, .inr (4, [.int (iI ut), .int (iI uc), .int (iI la), .int (iI wo), .ref (r 1), .ref (r 2), .ref (r 3), .int (iI ms), .ref (r 4)])), (r 1, .inl (zJ g, 139264, .inr (.inl (lA b2)))), (r 2, .inl (zBt g, 12544, .inl (ai kF))), (r 3, .inl (zI g, 4, .inl (ai mt))), (r 4, .inl (zI g, 14, .inl (ai PT)))]) hD hS hA [0, 1, 2, 3, 4] rfl
            refine zcVv (ci := 4) (q0 := 0) (As := [.int (iI (((s9 : Nat) : Int))), .int (iI (((c : Nat) : Int)))]) (rest := []) ⟨hx, hb, hml, hown, ht⟩ v_MO_101 (c_MO_put l g H.size r ut uc la wo b2 mt ms s9 c hs9 (by omega) hfl.1) ⟨Nat.le_of_ble_eq_true rfl, Nat.le_of_ble_eq_true rfl⟩ ⟨Nat.zero_le _, Nat.zero_le _⟩ hK hZ hS hP (hD.weaken (fun _ _ _ _ => trivial)) hF_55 zP_nil zAp_nil rfl rfl rfl rfl hl.1 rfl (Nat.le_of_ble_eq_true rfl) d_MO_fill_55 (fun w_55 H locs h_55 pp_55 dd_55 zz_55 kk_55 hS => ?_)
            subst h_55
            have hP : va_P g.1 classes [(r 0, .inr (4, [.int (iI ut), .int (iI uc), .int (iI la), .int (iI wo), .ref (r 1), .ref (r 2), .ref (r 3), .int (iI ms), .ref (r 4)])), (r 1, .inl (zJ g, 139264, .inr (.inl (lA (va_up b2 (s9 * 17408 + c / 64) (b2 (s9 * 17408 + c / 64) ||| 2 ^ (c % 64))))))), (r 2, .inl (zBt g, 12544, .inl (ai kF))), (r 3, .inl (zI g, 4, .inl (ai mt))), (r 4, .inl (zI g, 14, .inl (ai PT)))] H := pp_55
            have hD : va_D A [(r 0, .inr (4, [.int (iI ut), .int (iI uc), .int (iI la), .int (iI wo), .ref (r 1), .ref (r 2), .ref (r 3), .int (iI ms), .ref (r 4)])), (r 1, .inl (zJ g, 139264, .inr (.inl (lA (va_up b2 (s9 * 17408 + c / 64) (b2 (s9 * 17408 + c / 64) ||| 2 ^ (c % 64))))))), (r 2, .inl (zBt g, 12544, .inl (ai kF))), (r 3, .inl (zI g, 4, .inl (ai mt))), (r 4, .inl (zI g, 14, .inl (ai PT)))] := dd_55.weaken (fun _ _ _ h9 => hF_55 _ h9)
            refine lv_iinc (v := iI ((((c : Nat) : Int)) + 1)) (lv' := [(4, .int (iI ((((c : Nat) : Int)) + 1))), (0, .ref (r 0)), (1, .int (iI (((s9 : Nat) : Int)))), (2, .int (iI (((low : Nat) : Int)))), (3, .int (iI (((high : Nat) : Int))))]) hx hb d_MO_fill_58 hl (k := 4) rfl (iI_add _ _) (by decide) rfl (fun ls hl => ?_)
            refine lv_goto (tgt := 3) hx hb d_MO_fill_61 (by decide) ?_
            exact ih (c + 1) (va_up b2 (s9 * 17408 + c / 64) (b2 (s9 * 17408 + c / 64) ||| 2 ^ (c % 64))) _ _ ls (by omega) (lv_sub hl [1, 2, 3, 4, 0] rfl) (by omega) (by omega) (by exact fl_put hfl h1 (by omega)) hP hD hS
          · refine lv_aload_n hx hb d_MO_fill_26 rfl (lv_at hl 0 rfl) ?_
            refine va_get (D := g.1) (ci := 4) (v := .ref (r 1)) (C := R_MO) (T := F_MO) (N := 9) hx hb ht i_MO hown hK hP 0 rfl rfl 4 (by decide) (ht _ k_422) (fun _ h9 => h9) rfl d_MO_fill_27 ?_
            refine lv_iload_n hx hb d_MO_fill_30 rfl (lv_at hl 1 rfl) ?_
            refine lv_sipush (v := iI 17408) hx hb d_MO_fill_31 (by decide) ?_
            refine ix_imul hx hb d_MO_fill_34 ?_
            refine lv_iload hx hb d_MO_fill_35 (lv_at hl 4 rfl) ?_
            refine lv_bipush (v := iI 6) hx hb d_MO_fill_37 (by decide) ?_
            refine ix_shr6 hx hb d_MO_fill_39 (by omega) ?_
            refine ix_iadd hx hb d_MO_fill_40 ?_
            refine lv_ldc2 (v := (-1 : Int64)) hx hb hown (ht _ k_464) d_MO_fill_41 ?_
            rw [show (-1 : Int64) = lN 18446744073709551615 by decide]
            refine ix_lastN hx hb hK hP hD hS 1 1 rfl rfl (i := (((((s9 : Nat) : Int)) * 17408) + ((((c : Nat) : Int)) / 64))) ((s9 * 17408) + (c / 64)) (by omega) d_MO_fill_44 (fun H locs hP hD hS => ?_)
            have hP : va_P g.1 classes [(r 0, .inr (4, [.int (iI ut), .int (iI uc), .int (iI la), .int (iI wo), .ref (r 1), .ref (r 2), .ref (r 3), .int (iI ms), .ref (r 4)])), (r 1, .inl (zJ g, 139264, .inr (.inl (lA (va_up b2 ((s9 * 17408) + (c / 64)) 18446744073709551615))))), (r 2, .inl (zBt g, 12544, .inl (ai kF))), (r 3, .inl (zI g, 4, .inl (ai mt))), (r 4, .inl (zI g, 14, .inl (ai PT)))] H := hP
            have hD : va_D A [(r 0, .inr (4, [.int (iI ut), .int (iI uc), .int (iI la), .int (iI wo), .ref (r 1), .ref (r 2), .ref (r 3), .int (iI ms), .ref (r 4)])), (r 1, .inl (zJ g, 139264, .inr (.inl (lA (va_up b2 ((s9 * 17408) + (c / 64)) 18446744073709551615))))), (r 2, .inl (zBt g, 12544, .inl (ai kF))), (r 3, .inl (zI g, 4, .inl (ai mt))), (r 4, .inl (zI g, 14, .inl (ai PT)))] := hD
            refine lv_iinc (v := iI ((((c : Nat) : Int)) + 64)) (lv' := [(4, .int (iI ((((c : Nat) : Int)) + 64))), (0, .ref (r 0)), (1, .int (iI (((s9 : Nat) : Int)))), (2, .int (iI (((low : Nat) : Int)))), (3, .int (iI (((high : Nat) : Int))))]) hx hb d_MO_fill_45 hl (k := 4) rfl (iI_add _ _) (by decide) rfl (fun ls hl => ?_)
            refine lv_goto (tgt := 3) hx hb d_MO_fill_48 (by decide) ?_
            exact ih (c + 64) (va_up b2 (s9 * 17408 + c / 64) 18446744073709551615) _ _ ls (by omega) (lv_sub hl [1, 2, 3, 4, 0] rfl) (by omega) (by omega) (by exact fl_fill hfl h1 (by omega) (by omega)) hP hD hS
  refine lv_iload_n hx hb d_MO_fill_0 rfl (lv_at hl 2 rfl) ?_
  refine lv_istore (lv' := [(4, .int (iI (((low : Nat) : Int)))), (0, .ref (r 0)), (1, .int (iI (((s9 : Nat) : Int)))), (2, .int (iI (((low : Nat) : Int)))), (3, .int (iI (((high : Nat) : Int))))]) hx hb d_MO_fill_1 hl (by decide) rfl (fun ls hl => ?_)
  exact J3 (_ + 1) low bw _ _ ls (Nat.lt_succ_self _) (lv_sub hl [1, 2, 3, 4, 0] rfl) (by omega) (by omega) (by exact fl_0 hbw) hP hD hS
