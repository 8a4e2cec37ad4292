theorem la_0 : (fun _ : Nat => (0 : Int64)) = lA (fun _ => 0) := by funext j; rfl
set_option maxHeartbeats 4000000 in
set_option maxRecDepth 100000 in
theorem c_RG_init (l : Launch) (g : zG) (sz : Nat) (h : Nat) (x0 : Int)  : Met l y_RG_init w_RG_init { frames := 1, cells := 1, slots := 2048, locals := 20 } (zPw g [.ref h] ([(h, .inr (1, [.null, .int (iI x0)]))]) [] sz) (va_Qv (fun w => ∃ q9 : Nat, w = [(h, .inr (1, [.ref q9, .int (iI 0)])), (q9, .inl (zI g, 2048, .inl (ai (fun _ => 0))))]) (zB g (va_A ([(h, .inr (1, [.null, .int (iI x0)]))]) sz)) (va_A ([(h, .inr (1, [.null, .int (iI x0)]))]) sz)) 1 2048 (va_A ([(h, .inr (1, [.null, .int (iI x0)]))]) sz) := by
  refine Met.ofW (cc := b_RG_init) (maxL := 1) (ret := none) (by decide) rfl ?_
  intro p e s m args below meth cd s₁ B hml hv
  obtain ⟨hargs, hsz, hP, hK, hD0, hZ, hO0, hAp⟩ := hv
  have hx := B.exec
  have hb := B.bytes
  have hr := B.returns
  have ht : ∀ w ∈ lw_ok, w.before args s = true := fun w h => atoms_spec (ws := w_RG_init) B.pre w (List.mem_cons_of_mem _ h)
  have hown : s.vm.findClass R_RG = some m.cls := findClass_of_methodNamed B.named
  have hlocks := B.notSynchronized
  have hin : meth.name = "<init>" := (name_of_methodNamed B.named B.method).1
  subst hsz
  have hD := hD0.self (sz := s.heap.size)
  generalize hAe : va_A ([(h, .inr (1, [.null, .int (iI x0)]))]) s.heap.size = A at hD hZ hAp ⊢
  have hA : ∀ q : Nat, s.heap.size ≤ q → A q := fun q h => by rw [← hAe]; exact Or.inr h
  have hS : va_S A s.heap s.heap [] := va_S.rf
  generalize hQ : MQ below _ args s 1 2048 _ = Q
  have hl := lv_entry ([.ref h]) (n := 1) (Nat.le_of_ble_eq_true rfl)
  rw [show entryFrame m args 1 = entryFrame m ([.ref h] : List Value).toArray 1 by rw [hargs], lg_entry_eq]
  generalize (lg_sl ([.ref h]) ++ List.replicate (1 - (lg_sl ([.ref h])).length) Slot.unset).toArray = ls at hl ⊢
  have hl : lv_has ls 1 [(0, .ref h)] := hl
  obtain ⟨H, locs, hHe, hLe⟩ : ∃ (H : Heap) (locs : List Loc), H = s.heap ∧ locs = [] := ⟨_, _, rfl, rfl⟩
  rw [show W p l e _ s m args below meth cd s.heap [] 0 0 Q = W p l e _ s m args below meth cd H locs 0 0 Q by rw [hHe, hLe]]
  rw [← hHe] at hP
  have hS : va_S A s.heap H locs := by rw [hHe, hLe]; exact hS
  refine lv_aload_n hx hb d_RG_init_0 rfl (lv_at hl 0 rfl) ?_
  refine W.objInit hx hb hown (ht _ k_92) (ht _ k_14) (ht _ k_15) rfl (by rw [hml]; exact hl.1) rfl d_RG_init_1 (Nat.le_of_ble_eq_true rfl) (Nat.le_of_ble_eq_true rfl) ?_
  refine W.eq (g2 := F0 m 4 ls []) rfl ?_
  refine lv_aload_n hx hb d_RG_init_4 rfl (lv_at hl 0 rfl) ?_
  refine lv_sipush (v := iI 2048) hx hb d_RG_init_5 (by decide) ?_
  refine ix_newa (atype := .int) hx hb (ht _ k_51) rfl hK hP hD hS hA 0 rfl (N' := 2048) (a0 := (2048, .inl (fun _ => 0))) (fun _ => rfl) (by omega) (by decide) (Nat.le_of_ble_eq_true rfl) (Nat.le_of_ble_eq_true rfl) d_RG_init_8 (fun q8 H hP hD hS => ?_)
  rw [ai_0] at hP hD
  have hP : va_P g.1 classes [(h, .inr (1, [.null, .int (iI x0)])), (q8, .inl (zI g, 2048, .inl (ai (fun _ => 0))))] H := hP
  have hD : va_D A [(h, .inr (1, [.null, .int (iI x0)])), (q8, .inl (zI g, 2048, .inl (ai (fun _ => 0))))] := hD
  refine va_putF (D := g.1) (ci := 1) (v := .ref q8) (ty := .array .int) (C := R_RG) (T := F_RG) (N := 2) hx hb ht i_RG t_RG t_RG_ok n_RG hown hK hP hD hS 0 rfl rfl 0 (by decide) (ht _ k_93) (fun _ h9 => h9) rfl hin rfl (by decide +kernel) rfl rfl (Nat.le_of_ble_eq_true rfl) d_RG_init_10 (fun H locs hP hD hS => ?_)
  have hP : va_P g.1 classes [(h, .inr (1, [.ref q8, .int (iI x0)])), (q8, .inl (zI g, 2048, .inl (ai (fun _ => 0))))] H := hP
  have hD : va_D A [(h, .inr (1, [.ref q8, .int (iI x0)])), (q8, .inl (zI g, 2048, .inl (ai (fun _ => 0))))] := hD
  refine lv_aload_n hx hb d_RG_init_13 rfl (lv_at hl 0 rfl) ?_
  refine lv_iconst (v := iI 0) hx hb d_RG_init_14 rfl ?_
  refine va_put (D := g.1) (ci := 1) (v := .int (iI 0)) (ty := .int) (C := R_RG) (T := F_RG) (N := 2) hx hb ht i_RG t_RG t_RG_ok n_RG hown hK hP hD hS 0 rfl rfl 1 (by decide) (ht _ k_94) (fun _ h9 => h9) rfl (by decide +kernel) rfl rfl (Nat.le_of_ble_eq_true rfl) d_RG_init_15 (fun H locs hP hD hS => ?_)
  have hP : va_P g.1 classes [(h, .inr (1, [.ref q8, .int (iI 0)])), (q8, .inl (zI g, 2048, .inl (ai (fun _ => 0))))] H := hP
  have hD : va_D A [(h, .inr (1, [.ref q8, .int (iI 0)])), (q8, .inl (zI g, 2048, .inl (ai (fun _ => 0))))] := hD
  subst hQ
  exact W.vret hx hb hr (fun t h9 hW => ⟨⟨_, rfl, ⟨q8, rfl⟩, by rw [h9]; exact hP, va_K.moved hW.alike hK, hD⟩, hS.F h9⟩) hS.2.2 d_RG_init_18
