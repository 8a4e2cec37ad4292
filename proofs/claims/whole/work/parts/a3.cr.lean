def pntF (NX : Nat → Int) (a b : Int) : Nat → Int := if slF a < 0 then NX else va_up NX (slF a).toNat b
set_option maxHeartbeats 4000000 in
set_option maxRecDepth 100000 in
theorem c_CR_point (l : Launch) (g : zG) (sz : Nat) (h q : Nat) (la : Int) (NX : Nat → Int) (a b : Int) (ha : -2147483648 ≤ a ∧ a ≤ 2147483647) : Met l y_CR_point w_CR_point { frames := 1, cells := 0, slots := 0, locals := 20 } (zPw g [.ref h, .int (iI a), .int (iI b)] ([(h, .inr (3, [.int (iI la), .ref q])), (q, .inl (zI g, 1122, .inl (ai NX)))]) [] sz) (va_Qv (fun w => w = [(h, .inr (3, [.int (iI la), .ref q])), (q, .inl (zI g, 1122, .inl (ai ((pntF NX a b)))))]) (zB g (va_A ([(h, .inr (3, [.int (iI la), .ref q])), (q, .inl (zI g, 1122, .inl (ai NX)))]) sz)) (va_A ([(h, .inr (3, [.int (iI la), .ref q])), (q, .inl (zI g, 1122, .inl (ai NX)))]) sz)) 0 0 (va_A ([(h, .inr (3, [.int (iI la), .ref q])), (q, .inl (zI g, 1122, .inl (ai NX)))]) sz) := by
  refine Met.ofW (cc := b_CR_point) (maxL := 4) (ret := none) (by decide) rfl ?_
  intro p e s m args below meth cd s₁ B hml hv
  obtain ⟨hargs, hsz, hP, hK, hD0, hZ, hO0, hAp⟩ := hv
  have hx := B.exec
  have hb := B.bytes
  have hr := B.returns
  have ht : ∀ w ∈ lw_ok, w.before args s = true := fun w h => atoms_spec (ws := w_CR_point) B.pre w (List.mem_cons_of_mem _ h)
  have hown : s.vm.findClass R_CR = some m.cls := findClass_of_methodNamed B.named
  have hlocks := B.notSynchronized
  subst hsz
  have hD := hD0.self (sz := s.heap.size)
  generalize hAe : va_A ([(h, .inr (3, [.int (iI la), .ref q])), (q, .inl (zI g, 1122, .inl (ai NX)))]) s.heap.size = A at hD hZ hAp ⊢
  have hA : ∀ q : Nat, s.heap.size ≤ q → A q := fun q h => by rw [← hAe]; exact Or.inr h
  have hS : va_S A s.heap s.heap [] := va_S.rf
  generalize hQ : MQ below _ args s 0 0 _ = Q
  have hl := lv_entry ([.ref h, .int (iI a), .int (iI b)]) (n := 4) (Nat.le_of_ble_eq_true rfl)
  rw [show entryFrame m args 4 = entryFrame m ([.ref h, .int (iI a), .int (iI b)] : List Value).toArray 4 by rw [hargs], lg_entry_eq]
  generalize (lg_sl ([.ref h, .int (iI a), .int (iI b)]) ++ List.replicate (4 - (lg_sl ([.ref h, .int (iI a), .int (iI b)])).length) Slot.unset).toArray = ls at hl ⊢
  have hl : lv_has ls 4 [(0, .ref h), (1, .int (iI a)), (2, .int (iI b))] := hl
  obtain ⟨H, locs, hHe, hLe⟩ : ∃ (H : Heap) (locs : List Loc), H = s.heap ∧ locs = [] := ⟨_, _, rfl, rfl⟩
  rw [show W p l e _ s m args below meth cd s.heap [] 0 0 Q = W p l e _ s m args below meth cd H locs 0 0 Q by rw [hHe, hLe]]
  rw [← hHe] at hP
  have hS : va_S A s.heap H locs := by rw [hHe, hLe]; exact hS
  refine lv_iload_n hx hb d_CR_point_0 rfl (lv_at hl 1 rfl) ?_
  refine zcS (As := [.int (iI a)]) (rest := []) ⟨hx, hb, hml, hown, ht⟩ t_CR_35 (c_CR_slotOf l g a (by omega)) ⟨Nat.le_of_ble_eq_true rfl, Nat.le_of_ble_eq_true rfl⟩ ⟨Nat.zero_le _, Nat.zero_le _⟩ hK hZ hS zP_nil rfl hl.1 rfl (Nat.le_of_ble_eq_true rfl) d_CR_point_1 (fun r_1 h_1 => ?_)
  subst h_1
  have hsl := slF_bd a
  refine lv_istore_n (lv' := [(3, .int (iI (slF a))), (0, .ref h), (1, .int (iI a)), (2, .int (iI b))]) hx hb d_CR_point_4 rfl hl (by decide) rfl (fun ls hl => ?_)
  refine lv_iload_n hx hb d_CR_point_5 rfl (lv_at hl 0 rfl) ?_
  refine ix_if_lt (tgt := 16) hx hb d_CR_point_6 (by decide) (by omega) (fun c_6 => ?_) (fun c_6 => ?_)
  · subst hQ
    exact W.vret hx hb hr (fun t h9 hW => ⟨⟨_, rfl, by unfold pntF; rw [if_pos (by omega)], by rw [h9]; exact hP, va_K.moved hW.alike hK, hD⟩, hS.F h9⟩) hS.2.2 d_CR_point_16
  · refine lv_aload_n hx hb d_CR_point_9 rfl (lv_at hl 1 rfl) ?_
    refine va_get (D := g.1) (ci := 3) (v := .ref q) (C := R_CR) (T := F_CR) (N := 2) hx hb ht i_CR hown hK hP 0 rfl rfl 1 (by decide) (ht _ k_81) (fun _ h9 => h9) rfl d_CR_point_10 ?_
    refine lv_iload_n hx hb d_CR_point_13 rfl (lv_at hl 0 rfl) ?_
    refine lv_iload_n hx hb d_CR_point_14 rfl (lv_at hl 3 rfl) ?_
    refine ix_iast hx hb hK hP hD hS 1 0 rfl rfl (i := (slF a)) ((slF a).toNat) (by omega) d_CR_point_15 (fun H locs hP hD hS => ?_)
    have hP : va_P g.1 classes [(h, .inr (3, [.int (iI la), .ref q])), (q, .inl (zI g, 1122, .inl (ai (va_up NX ((slF a).toNat) b))))] H := hP
    have hD : va_D A [(h, .inr (3, [.int (iI la), .ref q])), (q, .inl (zI g, 1122, .inl (ai (va_up NX ((slF a).toNat) b))))] := hD
    subst hQ
    exact W.vret hx hb hr (fun t h9 hW => ⟨⟨_, rfl, by unfold pntF; rw [if_neg (by omega)], by rw [h9]; exact hP, va_K.moved hW.alike hK, hD⟩, hS.F h9⟩) hS.2.2 d_CR_point_16
def thrF (la : Int) (NX : Nat → Int) (a b c : Int) : Nat → Int := if c ≤ la then pntF (pntF (pntF NX a b) b c) c a else NX
set_option maxHeartbeats 4000000 in
set_option maxRecDepth 100000 in
theorem c_CR_linkThree (l : Launch) (g : zG) (sz : Nat) (h q : Nat) (la : Int) (NX : Nat → Int) (a b c : Int) (hla : 0 ≤ la ∧ la ≤ 1114111) (ha : -2147483648 ≤ a ∧ a ≤ 2147483647) (hb : -2147483648 ≤ b ∧ b ≤ 2147483647) (hc : -2147483648 ≤ c ∧ c ≤ 2147483647)  : Met l y_CR_linkThree w_CR_linkThree { frames := 2, cells := 0, slots := 0, locals := 43 } (zPw g [.ref h, .int (iI a), .int (iI b), .int (iI c)] ([(h, .inr (3, [.int (iI la), .ref q])), (q, .inl (zI g, 1122, .inl (ai NX)))]) [] sz) (va_Qv (fun w => w = [(h, .inr (3, [.int (iI la), .ref q])), (q, .inl (zI g, 1122, .inl (ai ((thrF la NX a b c)))))]) (zB g (va_A ([(h, .inr (3, [.int (iI la), .ref q])), (q, .inl (zI g, 1122, .inl (ai NX)))]) sz)) (va_A ([(h, .inr (3, [.int (iI la), .ref q])), (q, .inl (zI g, 1122, .inl (ai NX)))]) sz)) 0 0 (va_A ([(h, .inr (3, [.int (iI la), .ref q])), (q, .inl (zI g, 1122, .inl (ai NX)))]) sz) := by
  refine Met.ofW (cc := b_CR_linkThree) (maxL := 4) (ret := none) (by decide) rfl ?_
  intro p e s m args below meth cd s₁ B hml hv
  obtain ⟨hargs, hsz, hP, hK, hD0, hZ, hO0, hAp⟩ := hv
  have hx := B.exec
  have hb := B.bytes
  have hr := B.returns
  have ht : ∀ w ∈ lw_ok, w.before args s = true := fun w h => atoms_spec (ws := w_CR_linkThree) B.pre w (List.mem_cons_of_mem _ h)
  have hown : s.vm.findClass R_CR = some m.cls := findClass_of_methodNamed B.named
  have hlocks := B.notSynchronized
  subst hsz
  have hD := hD0.self (sz := s.heap.size)
  generalize hAe : va_A ([(h, .inr (3, [.int (iI la), .ref q])), (q, .inl (zI g, 1122, .inl (ai NX)))]) s.heap.size = A at hD hZ hAp ⊢
  have hA : ∀ q : Nat, s.heap.size ≤ q → A q := fun q h => by rw [← hAe]; exact Or.inr h
  have hS : va_S A s.heap s.heap [] := va_S.rf
  generalize hQ : MQ below _ args s 0 0 _ = Q
  have hl := lv_entry ([.ref h, .int (iI a), .int (iI b), .int (iI c)]) (n := 4) (Nat.le_of_ble_eq_true rfl)
  rw [show entryFrame m args 4 = entryFrame m ([.ref h, .int (iI a), .int (iI b), .int (iI c)] : List Value).toArray 4 by rw [hargs], lg_entry_eq]
  generalize (lg_sl ([.ref h, .int (iI a), .int (iI b), .int (iI c)]) ++ List.replicate (4 - (lg_sl ([.ref h, .int (iI a), .int (iI b), .int (iI c)])).length) Slot.unset).toArray = ls at hl ⊢
  have hl : lv_has ls 4 [(0, .ref h), (1, .int (iI a)), (2, .int (iI b)), (3, .int (iI c))] := hl
  obtain ⟨H, locs, hHe, hLe⟩ : ∃ (H : Heap) (locs : List Loc), H = s.heap ∧ locs = [] := ⟨_, _, rfl, rfl⟩
  rw [show W p l e _ s m args below meth cd s.heap [] 0 0 Q = W p l e _ s m args below meth cd H locs 0 0 Q by rw [hHe, hLe]]
  rw [← hHe] at hP
  have hS : va_S A s.heap H locs := by rw [hHe, hLe]; exact hS
  refine lv_iload_n hx hb d_CR_linkThree_0 rfl (lv_at hl 3 rfl) ?_
  refine lv_aload_n hx hb d_CR_linkThree_1 rfl (lv_at hl 0 rfl) ?_
  refine va_get (D := g.1) (ci := 3) (v := .int (iI la)) (C := R_CR) (T := F_CR) (N := 2) hx hb ht i_CR hown hK hP 0 rfl rfl 0 (by decide) (ht _ k_80) (fun _ h9 => h9) rfl d_CR_linkThree_2 ?_
  refine ix_icmp_gt (tgt := 26) hx hb d_CR_linkThree_5 (by decide) (by omega) (fun c_5 => ?_) (fun c_5 => ?_)
  · subst hQ
    exact W.vret hx hb hr (fun t h9 hW => ⟨⟨_, rfl, by unfold thrF; rw [if_neg (by omega)], by rw [h9]; exact hP, va_K.moved hW.alike hK, hD⟩, hS.F h9⟩) hS.2.2 d_CR_linkThree_26
  · refine lv_aload_n hx hb d_CR_linkThree_8 rfl (lv_at hl 0 rfl) ?_
    refine lv_iload_n hx hb d_CR_linkThree_9 rfl (lv_at hl 1 rfl) ?_
    refine lv_iload_n hx hb d_CR_linkThree_10 rfl (lv_at hl 2 rfl) ?_
    have hF_11 := va_free (wc := [(h, .inr (3, [.int (iI la), .ref q])), (q, .inl (zI g, 1122, .inl (ai NX)))]) hD hS hA [0, 1] rfl
    refine zcVv (ci := 3) (q0 := 0) (As := [.int (iI a), .int (iI b)]) (rest := []) ⟨hx, hb, hml, hown, ht⟩ v_CR_38 (c_CR_point l g H.size h q la NX a b (by omega)) ⟨Nat.le_of_ble_eq_true rfl, Nat.le_of_ble_eq_true rfl⟩ ⟨Nat.zero_le _, Nat.zero_le _⟩ hK hZ hS hP (hD.weaken (fun _ _ _ _ => trivial)) hF_11 zP_nil zAp_nil rfl rfl rfl rfl hl.1 rfl (Nat.le_of_ble_eq_true rfl) d_CR_linkThree_11 (fun w_11 H locs h_11 pp_11 dd_11 zz_11 kk_11 hS => ?_)
    subst h_11
    have hP : va_P g.1 classes [(h, .inr (3, [.int (iI la), .ref q])), (q, .inl (zI g, 1122, .inl (ai (pntF NX a b))))] H := pp_11
    have hD : va_D A [(h, .inr (3, [.int (iI la), .ref q])), (q, .inl (zI g, 1122, .inl (ai (pntF NX a b))))] := dd_11.weaken (fun _ _ _ h9 => hF_11 _ h9)
    refine lv_aload_n hx hb d_CR_linkThree_14 rfl (lv_at hl 0 rfl) ?_
    refine lv_iload_n hx hb d_CR_linkThree_15 rfl (lv_at hl 2 rfl) ?_
    refine lv_iload_n hx hb d_CR_linkThree_16 rfl (lv_at hl 3 rfl) ?_
    have hF_17 := va_free (wc := [(h, .inr (3, [.int (iI la), .ref q])), (q, .inl (zI g, 1122, .inl (ai (pntF NX a b))))]) hD hS hA [0, 1] rfl
    refine zcVv (ci := 3) (q0 := 0) (As := [.int (iI b), .int (iI c)]) (rest := []) ⟨hx, hb, hml, hown, ht⟩ v_CR_38 (c_CR_point l g H.size h q la (pntF NX a b) b c (by omega)) ⟨Nat.le_of_ble_eq_true rfl, Nat.le_of_ble_eq_true rfl⟩ ⟨Nat.zero_le _, Nat.zero_le _⟩ hK hZ hS hP (hD.weaken (fun _ _ _ _ => trivial)) hF_17 zP_nil zAp_nil rfl rfl rfl rfl hl.1 rfl (Nat.le_of_ble_eq_true rfl) d_CR_linkThree_17 (fun w_17 H locs h_17 pp_17 dd_17 zz_17 kk_17 hS => ?_)
    subst h_17
    have hP : va_P g.1 classes [(h, .inr (3, [.int (iI la), .ref q])), (q, .inl (zI g, 1122, .inl (ai (pntF (pntF NX a b) b c))))] H := pp_17
    have hD : va_D A [(h, .inr (3, [.int (iI la), .ref q])), (q, .inl (zI g, 1122, .inl (ai (pntF (pntF NX a b) b c))))] := dd_17.weaken (fun _ _ _ h9 => hF_17 _ h9)
    refine lv_aload_n hx hb d_CR_linkThree_20 rfl (lv_at hl 0 rfl) ?_
    refine lv_iload_n hx hb d_CR_linkThree_21 rfl (lv_at hl 3 rfl) ?_
    refine lv_iload_n hx hb d_CR_linkThree_22 rfl (lv_at hl 1 rfl) ?_
    have hF_23 := va_free (wc := [(h, .inr (3, [.int (iI la), .ref q])), (q, .inl (zI g, 1122, .inl (ai (pntF (pntF NX a b) b c))))]) hD hS hA [0, 1] rfl
    refine zcVv (ci := 3) (q0 := 0) (As := [.int (iI c), .int (iI a)]) (rest := []) ⟨hx, hb, hml, hown, ht⟩ v_CR_38 (c_CR_point l g H.size h q la (pntF (pntF NX a b) b c) c a (by omega)) ⟨Nat.le_of_ble_eq_true rfl, Nat.le_of_ble_eq_true rfl⟩ ⟨Nat.zero_le _, Nat.zero_le _⟩ hK hZ hS hP (hD.weaken (fun _ _ _ _ => trivial)) hF_23 zP_nil zAp_nil rfl rfl rfl rfl hl.1 rfl (Nat.le_of_ble_eq_true rfl) d_CR_linkThree_23 (fun w_23 H locs h_23 pp_23 dd_23 zz_23 kk_23 hS => ?_)
    subst h_23
    have hP : va_P g.1 classes [(h, .inr (3, [.int (iI la), .ref q])), (q, .inl (zI g, 1122, .inl (ai (pntF (pntF (pntF NX a b) b c) c a))))] H := pp_23
    have hD : va_D A [(h, .inr (3, [.int (iI la), .ref q])), (q, .inl (zI g, 1122, .inl (ai (pntF (pntF (pntF NX a b) b c) c a))))] := dd_23.weaken (fun _ _ _ h9 => hF_23 _ h9)
    subst hQ
    exact W.vret hx hb hr (fun t h9 hW => ⟨⟨_, rfl, by unfold thrF; rw [if_pos (by omega)], by rw [h9]; exact hP, va_K.moved hW.alike hK, hD⟩, hS.F h9⟩) hS.2.2 d_CR_linkThree_26
