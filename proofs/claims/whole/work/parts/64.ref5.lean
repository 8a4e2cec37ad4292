def wm (la : Int) (L : List Int) (c : Int) : List Int := if c ≤ la then L ++ [c] else L
theorem wm_len (la : Int) (L : List Int) (c : Int) : (wm la L c).length ≤ L.length + 1 := by unfold wm; split <;> simp
theorem wm_yes {la c : Int} (L : List Int) (h : c ≤ la) : wm la L c = L ++ [c] := if_pos h
theorem wm_no {la c : Int} (L : List Int) (h : la < c) : wm la L c = L := if_neg (by omega)
theorem wm_up {mt : Nat → Int} {L : List Int} {c : Int} (hm : ∀ i, i < L.length → mt i = L.getD i 0) : ∀ i, i < (L ++ [c]).length → va_up mt L.length c i = (L ++ [c]).getD i 0 := by
  intro i hi
  rw [List.length_append, List.length_singleton] at hi
  unfold va_up
  by_cases q : i = L.length
  · rw [if_pos q, q]; simp
  · rw [if_neg q, hm i (by omega)]
    simp [List.getElem?_append_left (show i < L.length by omega)]
set_option maxHeartbeats 4000000 in
set_option maxRecDepth 100000 in
theorem c_MO_withMate (l : Launch) (g : zG) (sz : Nat) (r : Nat → Nat) (ut uc la wo : Int) (bw : Nat → Nat) (mt : Nat → Int) (L : List Int) (c : Int) (hm : ∀ i, i < L.length → mt i = L.getD i 0) (hla : 0 ≤ la ∧ la ≤ 1114111) (hL : L.length ≤ 3) (hc : 0 ≤ c ∧ c ≤ 1114111) : Met l y_MO_withMate w_MO_withMate { frames := 0, cells := 0, slots := 0, locals := 0 } (zPw g [.ref (r 0), .int (iI c)] [(r 0, .inr (4, [.int (iI ut), .int (iI uc), .int (iI la), .int (iI wo), .ref (r 1), .ref (r 2), .ref (r 3), .int (iI (((L.length : Nat) : Int))), .ref (r 4)])), (r 1, .inl (zJ g, 139264, .inr (.inl (lA bw)))), (r 2, .inl (zBt g, 12544, .inl (ai kF))), (r 3, .inl (zI g, 4, .inl (ai mt))), (r 4, .inl (zI g, 14, .inl (ai PT)))] [] sz) (va_Qv (fun w => ∃ mt2 : Nat → Int, w = [(r 0, .inr (4, [.int (iI ut), .int (iI uc), .int (iI la), .int (iI wo), .ref (r 1), .ref (r 2), .ref (r 3), .int (iI (((((wm la L c)).length : Nat) : Int))), .ref (r 4)])), (r 1, .inl (zJ g, 139264, .inr (.inl (lA bw)))), (r 2, .inl (zBt g, 12544, .inl (ai kF))), (r 3, .inl (zI g, 4, .inl (ai mt2))), (r 4, .inl (zI g, 14, .inl (ai PT)))] ∧ ∀ i, i < (wm la L c).length → mt2 i = (wm la L c).getD i 0) (zB g (va_A [(r 0, .inr (4, [.int (iI ut), .int (iI uc), .int (iI la), .int (iI wo), .ref (r 1), .ref (r 2), .ref (r 3), .int (iI (((L.length : Nat) : Int))), .ref (r 4)])), (r 1, .inl (zJ g, 139264, .inr (.inl (lA bw)))), (r 2, .inl (zBt g, 12544, .inl (ai kF))), (r 3, .inl (zI g, 4, .inl (ai mt))), (r 4, .inl (zI g, 14, .inl (ai PT)))] sz)) (va_A [(r 0, .inr (4, [.int (iI ut), .int (iI uc), .int (iI la), .int (iI wo), .ref (r 1), .ref (r 2), .ref (r 3), .int (iI (((L.length : Nat) : Int))), .ref (r 4)])), (r 1, .inl (zJ g, 139264, .inr (.inl (lA bw)))), (r 2, .inl (zBt g, 12544, .inl (ai kF))), (r 3, .inl (zI g, 4, .inl (ai mt))), (r 4, .inl (zI g, 14, .inl (ai PT)))] sz)) 0 0 (va_A [(r 0, .inr (4, [.int (iI ut), .int (iI uc), .int (iI la), .int (iI wo), .ref (r 1), .ref (r 2), .ref (r 3), .int (iI (((L.length : Nat) : Int))), .ref (r 4)])), (r 1, .inl (zJ g, 139264, .inr (.inl (lA bw)))), (r 2, .inl (zBt g, 12544, .inl (ai kF))), (r 3, .inl (zI g, 4, .inl (ai mt))), (r 4, .inl (zI g, 14, .inl (ai PT)))] sz) := by
  refine Met.ofW (cc := b_MO_withMate) (maxL := 2) (ret := none) (by decide) rfl ?_
  intro p e s m args below meth cd s₁ B hml hv
  obtain ⟨hargs, hsz, hP, hK, hD0, hZ, hO0, hAp⟩ := hv
  have hx := B.exec
  have hb := B.bytes
  have hr := B.returns
  have ht : ∀ w ∈ lw_ok, w.before args s = true := fun w h => atoms_spec (ws := w_MO_withMate) B.pre w (List.mem_cons_of_mem _ h)
  have hown : s.vm.findClass R_MO = some m.cls := findClass_of_methodNamed B.named
  have hlocks := B.notSynchronized
  subst hsz
  have hD := hD0.self (sz := s.heap.size)
  generalize hAe : va_A [(r 0, .inr (4, [.int (iI ut), .int (iI uc), .int (iI la), .int (iI wo), .ref (r 1), .ref (r 2), .ref (r 3), .int (iI (((L.length : Nat) : Int))), .ref (r 4)])), (r 1, .inl (zJ g, 139264, .inr (.inl (lA bw)))), (r 2, .inl (zBt g, 12544, .inl (ai kF))), (r 3, .inl (zI g, 4, .inl (ai mt))), (r 4, .inl (zI g, 14, .inl (ai PT)))] s.heap.size = A at hD hZ hAp ⊢
  have hA : ∀ q : Nat, s.heap.size ≤ q → A q := fun q h => by rw [← hAe]; exact Or.inr h
  have hS : va_S A s.heap s.heap [] := va_S.rf
  generalize hQ : MQ below _ args s 0 0 _ = Q
  have hl := lv_entry ([.ref (r 0), .int (iI c)]) (n := 2) (Nat.le_of_ble_eq_true rfl)
  rw [show entryFrame m args 2 = entryFrame m ([.ref (r 0), .int (iI c)] : List Value).toArray 2 by rw [hargs], lg_entry_eq]
  generalize (lg_sl ([.ref (r 0), .int (iI c)]) ++ List.replicate (2 - (lg_sl ([.ref (r 0), .int (iI c)])).length) Slot.unset).toArray = ls at hl ⊢
  have hl : lv_has ls 2 [(0, .ref (r 0)), (1, .int (iI c))] := hl
  obtain ⟨H, locs, hHe, hLe⟩ : ∃ (H : Heap) (locs : List Loc), H = s.heap ∧ locs = [] := ⟨_, _, rfl, rfl⟩
  rw [show W p l e _ s m args below meth cd s.heap [] 0 0 Q = W p l e _ s m args below meth cd H locs 0 0 Q by rw [hHe, hLe]]
  rw [← hHe] at hP
  have hS : va_S A s.heap H locs := by rw [hHe, hLe]; exact hS
  refine lv_iload_n hx hb d_MO_withMate_0 rfl (lv_at hl 1 rfl) ?_
  refine lv_aload_n hx hb d_MO_withMate_1 rfl (lv_at hl 0 rfl) ?_
  refine va_get (D := g.1) (ci := 4) (v := .int (iI la)) (C := R_MO) (T := F_MO) (N := 9) hx hb ht i_MO hown hK hP 0 rfl rfl 2 (by decide) (ht _ k_420) (fun _ h9 => h9) rfl d_MO_withMate_2 ?_
  refine ix_icmp_gt (tgt := 25) hx hb d_MO_withMate_5 (by decide) (by omega) (fun c_5 => ?_) (fun c_5 => ?_)
  · subst hQ
    exact W.vret hx hb hr (fun t h9 hW => ⟨⟨_, rfl, ⟨mt, by rw [wm_no L (by omega)], by rw [wm_no L (by omega)]; exact hm⟩, by rw [h9]; exact hP, va_K.moved hW.alike hK, hD⟩, hS.F h9⟩) hS.2.2 d_MO_withMate_25
  · refine lv_aload_n hx hb d_MO_withMate_8 rfl (lv_at hl 0 rfl) ?_
    refine va_get (D := g.1) (ci := 4) (v := .ref (r 3)) (C := R_MO) (T := F_MO) (N := 9) hx hb ht i_MO hown hK hP 0 rfl rfl 6 (by decide) (ht _ k_424) (fun _ h9 => h9) rfl d_MO_withMate_9 ?_
    refine lv_aload_n hx hb d_MO_withMate_12 rfl (lv_at hl 0 rfl) ?_
    refine lv_dup hx hb d_MO_withMate_13 rfl ?_
    refine va_get (D := g.1) (ci := 4) (v := .int (iI (((L.length : Nat) : Int)))) (C := R_MO) (T := F_MO) (N := 9) hx hb ht i_MO hown hK hP 0 rfl rfl 7 (by decide) (ht _ k_425) (fun _ h9 => h9) rfl d_MO_withMate_14 ?_
    refine lv_dup_x1 hx hb d_MO_withMate_17 rfl rfl ?_
    refine lv_iconst (v := iI 1) hx hb d_MO_withMate_18 rfl ?_
    refine ix_iadd hx hb d_MO_withMate_19 ?_
    refine va_put (D := g.1) (ci := 4) (v := .int (iI ((((L.length : Nat) : Int)) + 1))) (ty := .int) (C := R_MO) (T := F_MO) (N := 9) hx hb ht i_MO t_MO t_MO_ok n_MO hown hK hP hD hS 0 rfl rfl 7 (by decide) (ht _ k_425) (fun _ h9 => h9) rfl (by decide +kernel) rfl rfl (Nat.le_of_ble_eq_true rfl) d_MO_withMate_20 (fun H locs hP hD hS => ?_)
    have hP : va_P g.1 classes [(r 0, .inr (4, [.int (iI ut), .int (iI uc), .int (iI la), .int (iI wo), .ref (r 1), .ref (r 2), .ref (r 3), .int (iI ((((L.length : Nat) : Int)) + 1)), .ref (r 4)])), (r 1, .inl (zJ g, 139264, .inr (.inl (lA bw)))), (r 2, .inl (zBt g, 12544, .inl (ai kF))), (r 3, .inl (zI g, 4, .inl (ai mt))), (r 4, .inl (zI g, 14, .inl (ai PT)))] H := hP
    have hD : va_D A [(r 0, .inr (4, [.int (iI ut), .int (iI uc), .int (iI la), .int (iI wo), .ref (r 1), .ref (r 2), .ref (r 3), .int (iI ((((L.length : Nat) : Int)) + 1)), .ref (r 4)])), (r 1, .inl (zJ g, 139264, .inr (.inl (lA bw)))), (r 2, .inl (zBt g, 12544, .inl (ai kF))), (r 3, .inl (zI g, 4, .inl (ai mt))), (r 4, .inl (zI g, 14, .inl (ai PT)))] := hD
    refine lv_iload_n hx hb d_MO_withMate_23 rfl (lv_at hl 1 rfl) ?_
    refine ix_iast hx hb hK hP hD hS 3 0 rfl rfl (i := (((L.length : Nat) : Int))) L.length (by omega) d_MO_withMate_24 (fun H locs hP hD hS => ?_)
    have hP : va_P g.1 classes [(r 0, .inr (4, [.int (iI ut), .int (iI uc), .int (iI la), .int (iI wo), .ref (r 1), .ref (r 2), .ref (r 3), .int (iI ((((L.length : Nat) : Int)) + 1)), .ref (r 4)])), (r 1, .inl (zJ g, 139264, .inr (.inl (lA bw)))), (r 2, .inl (zBt g, 12544, .inl (ai kF))), (r 3, .inl (zI g, 4, .inl (ai (va_up mt L.length c)))), (r 4, .inl (zI g, 14, .inl (ai PT)))] H := hP
    have hD : va_D A [(r 0, .inr (4, [.int (iI ut), .int (iI uc), .int (iI la), .int (iI wo), .ref (r 1), .ref (r 2), .ref (r 3), .int (iI ((((L.length : Nat) : Int)) + 1)), .ref (r 4)])), (r 1, .inl (zJ g, 139264, .inr (.inl (lA bw)))), (r 2, .inl (zBt g, 12544, .inl (ai kF))), (r 3, .inl (zI g, 4, .inl (ai (va_up mt L.length c)))), (r 4, .inl (zI g, 14, .inl (ai PT)))] := hD
    subst hQ
    exact W.vret hx hb hr (fun t h9 hW => ⟨⟨_, rfl, ⟨va_up mt L.length c, by rw [wm_yes L (by omega), List.length_append, List.length_singleton]; rfl, by rw [wm_yes L (by omega)]; exact wm_up hm⟩, by rw [h9]; exact hP, va_K.moved hW.alike hK, hD⟩, hS.F h9⟩) hS.2.2 d_MO_withMate_25
