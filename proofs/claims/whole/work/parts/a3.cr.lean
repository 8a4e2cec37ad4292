def pntF (NX : Nat → Int) (a b : Int) : Nat → Int := if slF a < 0 then NX else va_up NX (slF a).toNat b
set_option maxHeartbeats 4000000 in
set_option maxRecDepth 100000 in
theorem c_CR_point (l : Launch) (g : zG) (sz : Nat) (h q : Nat) (la : Int) (NX : Nat → Int) (a b : Int) (ha : -2147483648 ≤ a ∧ a ≤ 2147483647) : Met l y_CR_point w_CR_point { frames := 1, cells := 0, slots := 0, locals := 20 } (zPw g [.ref h, .int (iI a), .int (iI b)] ([(h, .inr (3, [.int (iI la), .ref q])), (q, .inl (zI g, 1122, .inl (ai NX)))]) [] sz) (va_Qv (fun w => w = [(h, .inr (3, [.int (iI la), .ref q])), (q, .inl (zI g, 1122, .inl (ai ((pntF NX a b)))))]) (zB g (va_A ([(h, .inr (3, [.int (iI la), .ref q])), (q, .inl (zI g, 1122, .inl (ai NX)))]) sz)) (va_A ([(h, .inr (3, [.int (iI la), .ref q])), (q, .inl (zI g, 1122, .inl (ai NX)))]) sz)) 0 0 (va_A ([(h, .inr (3, [.int (iI la), .ref q])), (q, .inl (zI g, 1122, .inl (ai NX)))]) sz) := by
  refine Met.ofW (cc := b_CR_point) (maxL := 4) (ret := none) (by decide) rfl ?_
  intro p e s m args below meth cd s₁ B hml hv
  obtain ⟨hargs, hsz, hP, hK, hD0, hZ, hO0, hAp⟩ := hv
  have hx := B.exec
  have hb := B.bytes
  have hr := B.returns
  have ht : ∀ w ∈ lw_ok, w.before args s = true := fun w h => atoms_spec (ws := w_CR_point) B.pre w (List.mem_cons_of_mem _ h)
  have hown : s.vm.findClass R_CR = some m.cls := findClass_of_methodNamed B.named
  have hlocks := B.notSynchronized
  subst hsz
  have hD := hD0.self (sz := s.heap.size)
  generalize hAe : va_A ([(h, .inr (3, [.int (iI la), .ref q])), (q, .inl (zI g, 1122, .inl (ai NX)))]) s.heap.size = A at hD hZ hAp ⊢
  have hA : ∀ q : Nat, s.heap.size ≤ q → A q := fun q h => by rw [← hAe]; exact Or.inr h
  have hS : va_S A s.heap s.heap [] := va_S.rf
  generalize hQ : MQ below _ args s 0 0 _ = Q
  have hl := lv_entry ([.ref h, .int (iI a), .int (iI b)]) (n := 4) (Nat.le_of_ble_eq_true rfl)
  rw [show entryFrame m args 4 = entryFrame m ([.ref h, .int (iI a), .int (iI b)] : List Value).toArray 4 by rw [hargs], lg_entry_eq]
  generalize (lg_sl ([.ref h, .int (iI a), .int (iI b)]) ++ List.replicate (4 - (lg_sl ([.ref h, .int (iI a), .int (iI b)])).length) Slot.unset).toArray = ls at hl ⊢
  have hl : lv_has ls 4 [(0, .ref h), (1, .int (iI a)), (2, .int (iI b))] := hl
  obtain ⟨H, locs, hHe, hLe⟩ : ∃ (H : Heap) (locs : List Loc), H = s.heap ∧ locs = [] := ⟨_, _, rfl, rfl⟩
  rw [show W p l e _ s m args below meth cd s.heap [] 0 0 Q = W p l e _ s m args below meth cd H locs 0 0 Q by rw [hHe, hLe]]
  rw [← hHe] at hP
  have hS : va_S A s.heap H locs := by rw [hHe, hLe]; exact hS
  refine lv_iload_n hx hb d_CR_point_0 rfl (lv_at hl 1 rfl) ?_
  refine zcS (As := [.int (iI a)]) (rest := []) ⟨hx, hb, hml, hown, ht⟩ t_CR_35 (c_CR_slotOf l g a (by omega)) ⟨Nat.le_of_ble_eq_true rfl, Nat.le_of_ble_eq_true rfl⟩ ⟨Nat.zero_le _, Nat.zero_le _⟩ hK hZ hS zP_nil rfl hl.1 rfl (Nat.le_of_ble_eq_true rfl) d_CR_point_1 (fun r_1 h_1 => ?_)
  subst h_1
  have hsl := slF_bd a
  refine lv_istore_n (lv' := [(3, .int (iI (slF a))), (0, .ref h), (1, .int (iI a)), (2, .int (iI b))]) hx hb d_CR_point_4 rfl hl (by decide) rfl (fun ls hl => ?_)
  refine lv_iload_n hx hb d_CR_point_5 rfl (lv_at hl 0 rfl) ?_
  refine ix_if_lt (tgt := 16) hx hb d_CR_point_6 (by decide) (by omega) (fun c_6 => ?_) (fun c_6 => ?_)
  · subst hQ
    exact W.vret hx hb hr (fun t h9 hW => ⟨⟨_, rfl, by unfold pntF; rw [if_pos (by omega)], by rw [h9]; exact hP, va_K.moved hW.alike hK, hD⟩, hS.F h9⟩) hS.2.2 d_CR_point_16
  · refine lv_aload_n hx hb d_CR_point_9 rfl (lv_at hl 1 rfl) ?_
    refine va_get (D := g.1) (ci := 3) (v := .ref q) (C := R_CR) (T := F_CR) (N := 2) hx hb ht i_CR hown hK hP 0 rfl rfl 1 (by decide) (ht _ k_81) (fun _ h9 => h9) rfl d_CR_point_10 ?_
    refine lv_iload_n hx hb d_CR_point_13 rfl (lv_at hl 0 rfl) ?_
    refine lv_iload_n hx hb d_CR_point_14 rfl (lv_at hl 3 rfl) ?_
    refine ix_iast hx hb hK hP hD hS 1 0 rfl rfl (i := (slF a)) ((slF a).toNat) (by omega) d_CR_point_15 (fun H locs hP hD hS => ?_)
    have hP : va_P g.1 classes [(h, .inr (3, [.int (iI la), .ref q])), (q, .inl (zI g, 1122, .inl (ai (va_up NX ((slF a).toNat) b))))] H := hP
    have hD : va_D A [(h, .inr (3, [.int (iI la), .ref q])), (q, .inl (zI g, 1122, .inl (ai (va_up NX ((slF a).toNat) b))))] := hD
    subst hQ
    exact W.vret hx hb hr (fun t h9 hW => ⟨⟨_, rfl, by unfold pntF; rw [if_neg (by omega)], by rw [h9]; exact hP, va_K.moved hW.alike hK, hD⟩, hS.F h9⟩) hS.2.2 d_CR_point_16
