set_option maxHeartbeats 4000000 in
set_option maxRecDepth 100000 in
theorem c_CS_gatherNamed (l : Launch) (g : zG) (sz : Nat) (q : Nat → Nat) (u la : Int) (NX : Nat → Int) (n : Nat → Nat) (es : Nat → Nat → Int) (mg : Nat) (eg : Nat → Int) (k : Nat) (Bs : List Int) (hBl : Bs.length ≤ 2046) (hgo : gok Bs eg mg) (hla : 0 ≤ la ∧ la ≤ 1114111) (hu : u = 0 ∨ u = 1) (hk : k ≤ 18) (hla2 : 255 ≤ la) (hPB1 : ∀ i, i < 253 → LOf i ≤ min (hiE i - 1) la → LOf i ∈ Bs ∧ min (hiE i - 1) la + 1 ∈ Bs) (hBC : 95 ∈ Bs ∧ 96 ∈ Bs ∧ 9 ∈ Bs ∧ 14 ∈ Bs ∧ 133 ∈ Bs ∧ 134 ∈ Bs) (hB7 : ∀ i, i < 253 → LOf i ≤ min (min (hiE i - 1) 127) la → LOf i ∈ Bs ∧ min (min (hiE i - 1) 127) la + 1 ∈ Bs) (hBL : ∀ t, 2 ≤ t → t ≤ 17 → ∀ i, 2 * i + 1 < (stE t).length → (stE t).getD (2 * i) 0 ≤ min ((stE t).getD (2 * i + 1) 0) la → (stE t).getD (2 * i) 0 ∈ Bs ∧ min ((stE t).getD (2 * i + 1) 0) la + 1 ∈ Bs)  : Met l y_CS_gatherNamed w_CS_gatherNamed { frames := 5, cells := 0, slots := 0, locals := 119 } (zPw g [.ref (q 0), .int (iI (((k : Nat) : Int)))] (cw g q u la NX (va_up n 8 mg) (va_up es 8 eg)) [] sz) (va_Qv (fun w => ∃ (e2 : Nat → Int) (n2 : Nat), GG la eg mg (rlN u la k) e2 n2 ∧ gok Bs e2 n2 ∧ w = cw g q u la NX (va_up n 8 n2) (va_up es 8 e2)) (zB g (va_A (cw g q u la NX (va_up n 8 mg) (va_up es 8 eg)) sz)) (va_A (cw g q u la NX (va_up n 8 mg) (va_up es 8 eg)) sz)) 0 0 (va_A (cw g q u la NX (va_up n 8 mg) (va_up es 8 eg)) sz) := by
  refine Met.ofW (cc := b_CS_gatherNamed) (maxL := 3) (ret := none) (by decide) rfl ?_
  intro p e s m args below meth cd s₁ B hml hv
  obtain ⟨hargs, hsz, hP, hK, hD0, hZ, hO0, hAp⟩ := hv
  have hx := B.exec
  have hb := B.bytes
  have hr := B.returns
  have ht : ∀ w ∈ lw_ok, w.before args s = true := fun w h => atoms_spec (ws := w_CS_gatherNamed) B.pre w (List.mem_cons_of_mem _ h)
  have hown : s.vm.findClass R_CS = some m.cls := findClass_of_methodNamed B.named
  have hlocks := B.notSynchronized
  subst hsz
  have hD := hD0.self (sz := s.heap.size)
  generalize hAe : va_A (cw g q u la NX (va_up n 8 mg) (va_up es 8 eg)) s.heap.size = A at hD hZ hAp ⊢
  have hA : ∀ q : Nat, s.heap.size ≤ q → A q := fun q h => by rw [← hAe]; exact Or.inr h
  have hS : va_S A s.heap s.heap [] := va_S.rf
  generalize hQ : MQ below _ args s 0 0 _ = Q
  have hl := lv_entry ([.ref (q 0), .int (iI (((k : Nat) : Int)))]) (n := 3) (Nat.le_of_ble_eq_true rfl)
  rw [show entryFrame m args 3 = entryFrame m ([.ref (q 0), .int (iI (((k : Nat) : Int)))] : List Value).toArray 3 by rw [hargs], lg_entry_eq]
  generalize (lg_sl ([.ref (q 0), .int (iI (((k : Nat) : Int)))]) ++ List.replicate (3 - (lg_sl ([.ref (q 0), .int (iI (((k : Nat) : Int)))])).length) Slot.unset).toArray = ls at hl ⊢
  have hl : lv_has ls 3 [(0, .ref (q 0)), (1, .int (iI (((k : Nat) : Int))))] := hl
  obtain ⟨H, locs, hHe, hLe⟩ : ∃ (H : Heap) (locs : List Loc), H = s.heap ∧ locs = [] := ⟨_, _, rfl, rfl⟩
  rw [show W p l e _ s m args below meth cd s.heap [] 0 0 Q = W p l e _ s m args below meth cd H locs 0 0 Q by rw [hHe, hLe]]
  rw [← hHe] at hP
  have hS : va_S A s.heap H locs := by rw [hHe, hLe]; exact hS
  refine lv_aload_n hx hb d_CS_gatherNamed_0 rfl (lv_at hl 0 rfl) ?_
  refine va_get (D := g.1) (ci := 0) (v := .int (iI u)) (C := R_CS) (T := F_CS) (N := 6) hx hb ht i_CS hown hK hP 0 rfl rfl 0 (by decide) (ht _ k_101) (fun _ h9 => h9) rfl d_CS_gatherNamed_1 ?_
  refine ix_if_ne (tgt := 16) hx hb d_CS_gatherNamed_4 (by decide) (by omega) (fun c_4 => ?_) (fun c_4 => ?_)
  · refine lv_iload_n hx hb d_CS_gatherNamed_16 rfl (lv_at hl 1 rfl) ?_
    refine zcS (As := [.int (iI (((k : Nat) : Int)))]) (rest := []) ⟨hx, hb, hml, hown, ht⟩ t_CS_152 (c_CS_propertyOf l g k (by omega)) ⟨Nat.le_of_ble_eq_true rfl, Nat.le_of_ble_eq_true rfl⟩ ⟨Nat.zero_le _, Nat.zero_le _⟩ hK hZ hS zP_nil rfl hl.1 rfl (Nat.le_of_ble_eq_true rfl) d_CS_gatherNamed_17 (fun r_17 h_17 => ?_)
    subst h_17
    have hpb := pro_bd k (by omega)
    refine lv_istore_n (lv' := [(2, .int (iI (proF k))), (0, .ref (q 0)), (1, .int (iI (((k : Nat) : Int))))]) hx hb d_CS_gatherNamed_20 rfl hl (by decide) rfl (fun ls hl => ?_)
    refine lv_iload_n hx hb d_CS_gatherNamed_21 rfl (lv_at hl 0 rfl) ?_
    refine lv_iconst (v := iI (-1)) hx hb d_CS_gatherNamed_22 rfl ?_
    refine ix_icmp_eq (tgt := 32) hx hb d_CS_gatherNamed_23 (by decide) (by omega) (fun c_23 => ?_) (fun c_23 => ?_)
    · refine lv_iload_n hx hb d_CS_gatherNamed_32 rfl (lv_at hl 2 rfl) ?_
      rcases (show ((k : Nat) : Int) = 12 ∨ ((k : Nat) : Int) = 13 ∨ ((k : Nat) : Int) = 14 ∨ ((k : Nat) : Int) = 15 ∨ ((k : Nat) : Int) = 16 ∨ (((k : Nat) : Int) < 12 ∨ 16 < ((k : Nat) : Int)) from by omega) with c_33 | c_33 | c_33 | c_33 | c_33 | c_33
      · refine ix_table (tgt := 68) hx hb d_CS_gatherNamed_33 (by omega) 35 (by omega) (by rw [c_33]; rfl) (by decide) ?_
        refine lv_aload_n hx hb d_CS_gatherNamed_68 rfl (lv_at hl 1 rfl) ?_
        refine ix_gets hx hb hZ 17 (by decide) hS hown (ht _ k_244) d_CS_gatherNamed_69 ?_
        have hF_72 : ∀ x9, va_A (cw g q u la NX (va_up n 8 mg) (va_up es 8 eg)) H.size x9 → A x9 := fun x9 h9 => h9.elim (fun ⟨j9, e9, hj9⟩ => hD.2 j9 _ hj9) (fun h9 => hA x9 (Nat.le_trans hS.1 h9))
        refine zcVv (ci := 0) (q0 := 0) (As := [.ref (g.2.2 17)]) (rest := []) ⟨hx, hb, hml, hown, ht⟩ v_CS_148 (c_CS_gatherList l g H.size q u la NX n es mg eg 17 Bs hBl hgo hla (by omega) hor_ok.1 hor_ok.2 (hBL 17 (by omega) (by omega))) ⟨Nat.le_of_ble_eq_true rfl, Nat.le_of_ble_eq_true rfl⟩ ⟨Nat.zero_le _, Nat.zero_le _⟩ hK hZ hS hP (hD.weaken (fun _ _ _ _ => trivial)) hF_72 zP_nil zAp_nil rfl rfl rfl rfl hl.1 rfl (Nat.le_of_ble_eq_true rfl) d_CS_gatherNamed_72 (fun w_72 H locs h_72 pp_72 dd_72 zz_72 kk_72 hS => ?_)
        obtain ⟨e72, m72, hGG72, hg72, rfl⟩ := h_72
        have hP : va_P g.1 classes (cw g q u la NX (va_up n 8 m72) (va_up es 8 e72)) H := pp_72
        have hD : va_D A (cw g q u la NX (va_up n 8 m72) (va_up es 8 e72)) := dd_72.weaken (fun _ _ _ h9 => hF_72 _ h9)
        refine lv_goto (tgt := 133) hx hb d_CS_gatherNamed_75 (by decide) ?_
        subst hQ
        exact W.vret hx hb hr (fun t h9 hW => ⟨⟨_, rfl, ⟨e72, m72, by unfold rlN; (repeat (first | rw [if_pos (by omega)] | rw [if_neg (by omega)])); exact hGG72, hg72, rfl⟩, by rw [h9]; exact hP, va_K.moved hW.alike hK, hD⟩, hS.F h9⟩) hS.2.2 d_CS_gatherNamed_133
      · refine ix_table (tgt := 125) hx hb d_CS_gatherNamed_33 (by omega) 92 (by omega) (by rw [c_33]; rfl) (by decide) ?_
        refine lv_aload_n hx hb d_CS_gatherNamed_125 rfl (lv_at hl 1 rfl) ?_
        refine lv_iload_n hx hb d_CS_gatherNamed_126 rfl (lv_at hl 2 rfl) ?_
        refine zcSr (As := [.int (iI (((k : Nat) : Int)))]) (rest := [.ref (q 0)]) ⟨hx, hb, hml, hown, ht⟩ t_CS_144 (c_CS_listOf l g k (by omega)) ⟨Nat.le_of_ble_eq_true rfl, Nat.le_of_ble_eq_true rfl⟩ ⟨Nat.zero_le _, Nat.zero_le _⟩ hK hZ hS zP_nil rfl hl.1 rfl (Nat.le_of_ble_eq_true rfl) d_CS_gatherNamed_127 (fun r_127 h_127 => ?_)
        subst h_127
        have hF_130 : ∀ x9, va_A (cw g q u la NX (va_up n 8 mg) (va_up es 8 eg)) H.size x9 → A x9 := fun x9 h9 => h9.elim (fun ⟨j9, e9, hj9⟩ => hD.2 j9 _ hj9) (fun h9 => hA x9 (Nat.le_trans hS.1 h9))
        refine zcVv (ci := 0) (q0 := 0) (As := [.ref (g.2.2 (lisF k))]) (rest := []) ⟨hx, hb, hml, hown, ht⟩ v_CS_148 (c_CS_gatherList l g H.size q u la NX n es mg eg (lisF k) Bs hBl hgo hla (by have := (lis_ok k (by omega)).1; omega) (lis_ok k (by omega)).2.1 (lis_ok k (by omega)).2.2 (hBL (lisF k) (lis_ok k (by omega)).1.1 (lis_ok k (by omega)).1.2)) ⟨Nat.le_of_ble_eq_true rfl, Nat.le_of_ble_eq_true rfl⟩ ⟨Nat.zero_le _, Nat.zero_le _⟩ hK hZ hS hP (hD.weaken (fun _ _ _ _ => trivial)) hF_130 zP_nil zAp_nil rfl rfl rfl rfl hl.1 rfl (Nat.le_of_ble_eq_true rfl) d_CS_gatherNamed_130 (fun w_130 H locs h_130 pp_130 dd_130 zz_130 kk_130 hS => ?_)
        obtain ⟨e130, m130, hGG130, hg130, rfl⟩ := h_130
        have hP : va_P g.1 classes (cw g q u la NX (va_up n 8 m130) (va_up es 8 e130)) H := pp_130
        have hD : va_D A (cw g q u la NX (va_up n 8 m130) (va_up es 8 e130)) := dd_130.weaken (fun _ _ _ h9 => hF_130 _ h9)
        subst hQ
        exact W.vret hx hb hr (fun t h9 hW => ⟨⟨_, rfl, ⟨e130, m130, by unfold rlN; (repeat (first | rw [if_pos (by omega)] | rw [if_neg (by omega)])); exact hGG130, hg130, rfl⟩, by rw [h9]; exact hP, va_K.moved hW.alike hK, hD⟩, hS.F h9⟩) hS.2.2 d_CS_gatherNamed_133
      · refine ix_table (tgt := 78) hx hb d_CS_gatherNamed_33 (by omega) 45 (by omega) (by rw [c_33]; rfl) (by decide) ?_
        refine lv_aload_n hx hb d_CS_gatherNamed_78 rfl (lv_at hl 1 rfl) ?_
        refine lv_ldc (v := iI 4194300) hx hb hown (ht _ k_279) d_CS_gatherNamed_79 ?_
        refine lv_aload_n hx hb d_CS_gatherNamed_81 rfl (lv_at hl 1 rfl) ?_
        refine va_get (D := g.1) (ci := 0) (v := .int (iI la)) (C := R_CS) (T := F_CS) (N := 6) hx hb ht i_CS hown hK hP 0 rfl rfl 1 (by decide) (ht _ k_102) (fun _ h9 => h9) rfl d_CS_gatherNamed_82 ?_
        have hF_85 : ∀ x9, va_A (cw g q u la NX (va_up n 8 mg) (va_up es 8 eg)) H.size x9 → A x9 := fun x9 h9 => h9.elim (fun ⟨j9, e9, hj9⟩ => hD.2 j9 _ hj9) (fun h9 => hA x9 (Nat.le_trans hS.1 h9))
        refine zcVv (ci := 0) (q0 := 0) (As := [.int (iI 4194300), .int (iI la)]) (rest := []) ⟨hx, hb, hml, hown, ht⟩ v_CS_132 (c_CS_gatherCategories l g H.size q u la NX n es mg eg 4194300 la Bs hBl hgo hla (by omega) (by omega) (fun i hi h9 => by have q9 := hPB1 i hi (by omega); rw [show min (min (hiE i - 1) la) la = min (hiE i - 1) la by omega]; exact q9)) ⟨Nat.le_of_ble_eq_true rfl, Nat.le_of_ble_eq_true rfl⟩ ⟨Nat.zero_le _, Nat.zero_le _⟩ hK hZ hS hP (hD.weaken (fun _ _ _ _ => trivial)) hF_85 zP_nil zAp_nil rfl rfl rfl rfl hl.1 rfl (Nat.le_of_ble_eq_true rfl) d_CS_gatherNamed_85 (fun w_85 H locs h_85 pp_85 dd_85 zz_85 kk_85 hS => ?_)
        obtain ⟨e85, m85, hGG85, hg85, rfl⟩ := h_85
        have hP : va_P g.1 classes (cw g q u la NX (va_up n 8 m85) (va_up es 8 e85)) H := pp_85
        have hD : va_D A (cw g q u la NX (va_up n 8 m85) (va_up es 8 e85)) := dd_85.weaken (fun _ _ _ h9 => hF_85 _ h9)
        refine lv_goto (tgt := 133) hx hb d_CS_gatherNamed_88 (by decide) ?_
        subst hQ
        exact W.vret hx hb hr (fun t h9 hW => ⟨⟨_, rfl, ⟨e85, m85, by unfold rlN; (repeat (first | rw [if_pos (by omega)] | rw [if_neg (by omega)])); exact hGG85, hg85, rfl⟩, by rw [h9]; exact hP, va_K.moved hW.alike hK, hD⟩, hS.F h9⟩) hS.2.2 d_CS_gatherNamed_133
      · refine ix_table (tgt := 91) hx hb d_CS_gatherNamed_33 (by omega) 58 (by omega) (by rw [c_33]; rfl) (by decide) ?_
        refine lv_aload_n hx hb d_CS_gatherNamed_91 rfl (lv_at hl 1 rfl) ?_
        refine lv_ldc (v := iI 20971516) hx hb hown (ht _ k_280) d_CS_gatherNamed_92 ?_
        refine lv_aload_n hx hb d_CS_gatherNamed_94 rfl (lv_at hl 1 rfl) ?_
        refine va_get (D := g.1) (ci := 0) (v := .int (iI la)) (C := R_CS) (T := F_CS) (N := 6) hx hb ht i_CS hown hK hP 0 rfl rfl 1 (by decide) (ht _ k_102) (fun _ h9 => h9) rfl d_CS_gatherNamed_95 ?_
        have hF_98 : ∀ x9, va_A (cw g q u la NX (va_up n 8 mg) (va_up es 8 eg)) H.size x9 → A x9 := fun x9 h9 => h9.elim (fun ⟨j9, e9, hj9⟩ => hD.2 j9 _ hj9) (fun h9 => hA x9 (Nat.le_trans hS.1 h9))
        refine zcVv (ci := 0) (q0 := 0) (As := [.int (iI 20971516), .int (iI la)]) (rest := []) ⟨hx, hb, hml, hown, ht⟩ v_CS_132 (c_CS_gatherCategories l g H.size q u la NX n es mg eg 20971516 la Bs hBl hgo hla (by omega) (by omega) (fun i hi h9 => by have q9 := hPB1 i hi (by omega); rw [show min (min (hiE i - 1) la) la = min (hiE i - 1) la by omega]; exact q9)) ⟨Nat.le_of_ble_eq_true rfl, Nat.le_of_ble_eq_true rfl⟩ ⟨Nat.zero_le _, Nat.zero_le _⟩ hK hZ hS hP (hD.weaken (fun _ _ _ _ => trivial)) hF_98 zP_nil zAp_nil rfl rfl rfl rfl hl.1 rfl (Nat.le_of_ble_eq_true rfl) d_CS_gatherNamed_98 (fun w_98 H locs h_98 pp_98 dd_98 zz_98 kk_98 hS => ?_)
        obtain ⟨e98, m98, hGG98, hg98, rfl⟩ := h_98
        have hP : va_P g.1 classes (cw g q u la NX (va_up n 8 m98) (va_up es 8 e98)) H := pp_98
        have hD : va_D A (cw g q u la NX (va_up n 8 m98) (va_up es 8 e98)) := dd_98.weaken (fun _ _ _ h9 => hF_98 _ h9)
        refine lv_goto (tgt := 133) hx hb d_CS_gatherNamed_101 (by decide) ?_
        subst hQ
        exact W.vret hx hb hr (fun t h9 hW => ⟨⟨_, rfl, ⟨e98, m98, by unfold rlN; (repeat (first | rw [if_pos (by omega)] | rw [if_neg (by omega)])); exact hGG98, hg98, rfl⟩, by rw [h9]; exact hP, va_K.moved hW.alike hK, hD⟩, hS.F h9⟩) hS.2.2 d_CS_gatherNamed_133
      · refine ix_table (tgt := 104) hx hb d_CS_gatherNamed_33 (by omega) 71 (by omega) (by rw [c_33]; rfl) (by decide) ?_
        refine lv_aload_n hx hb d_CS_gatherNamed_104 rfl (lv_at hl 1 rfl) ?_
        refine lv_ldc (v := iI 260096) hx hb hown (ht _ k_281) d_CS_gatherNamed_105 ?_
        refine lv_aload_n hx hb d_CS_gatherNamed_107 rfl (lv_at hl 1 rfl) ?_
        refine va_get (D := g.1) (ci := 0) (v := .int (iI la)) (C := R_CS) (T := F_CS) (N := 6) hx hb ht i_CS hown hK hP 0 rfl rfl 1 (by decide) (ht _ k_102) (fun _ h9 => h9) rfl d_CS_gatherNamed_108 ?_
        have hF_111 : ∀ x9, va_A (cw g q u la NX (va_up n 8 mg) (va_up es 8 eg)) H.size x9 → A x9 := fun x9 h9 => h9.elim (fun ⟨j9, e9, hj9⟩ => hD.2 j9 _ hj9) (fun h9 => hA x9 (Nat.le_trans hS.1 h9))
        refine zcVv (ci := 0) (q0 := 0) (As := [.int (iI 260096), .int (iI la)]) (rest := []) ⟨hx, hb, hml, hown, ht⟩ v_CS_132 (c_CS_gatherCategories l g H.size q u la NX n es mg eg 260096 la Bs hBl hgo hla (by omega) (by omega) (fun i hi h9 => by have q9 := hPB1 i hi (by omega); rw [show min (min (hiE i - 1) la) la = min (hiE i - 1) la by omega]; exact q9)) ⟨Nat.le_of_ble_eq_true rfl, Nat.le_of_ble_eq_true rfl⟩ ⟨Nat.zero_le _, Nat.zero_le _⟩ hK hZ hS hP (hD.weaken (fun _ _ _ _ => trivial)) hF_111 zP_nil zAp_nil rfl rfl rfl rfl hl.1 rfl (Nat.le_of_ble_eq_true rfl) d_CS_gatherNamed_111 (fun w_111 H locs h_111 pp_111 dd_111 zz_111 kk_111 hS => ?_)
        obtain ⟨e111, m111, hGG111, hg111, rfl⟩ := h_111
        have hP : va_P g.1 classes (cw g q u la NX (va_up n 8 m111) (va_up es 8 e111)) H := pp_111
        have hD : va_D A (cw g q u la NX (va_up n 8 m111) (va_up es 8 e111)) := dd_111.weaken (fun _ _ _ h9 => hF_111 _ h9)
        refine lv_aload_n hx hb d_CS_gatherNamed_114 rfl (lv_at hl 1 rfl) ?_
        refine lv_ldc (v := iI 3932160) hx hb hown (ht _ k_282) d_CS_gatherNamed_115 ?_
        refine lv_bipush (v := iI 127) hx hb d_CS_gatherNamed_117 (by decide) ?_
        have hF_119 : ∀ x9, va_A (cw g q u la NX (va_up n 8 m111) (va_up es 8 e111)) H.size x9 → A x9 := fun x9 h9 => h9.elim (fun ⟨j9, e9, hj9⟩ => hD.2 j9 _ hj9) (fun h9 => hA x9 (Nat.le_trans hS.1 h9))
        refine zcVv (ci := 0) (q0 := 0) (As := [.int (iI 3932160), .int (iI 127)]) (rest := []) ⟨hx, hb, hml, hown, ht⟩ v_CS_132 (c_CS_gatherCategories l g H.size q u la NX n es m111 e111 3932160 127 Bs hBl hg111 hla (by omega) (by omega) hB7) ⟨Nat.le_of_ble_eq_true rfl, Nat.le_of_ble_eq_true rfl⟩ ⟨Nat.zero_le _, Nat.zero_le _⟩ hK hZ hS hP (hD.weaken (fun _ _ _ _ => trivial)) hF_119 zP_nil zAp_nil rfl rfl rfl rfl hl.1 rfl (Nat.le_of_ble_eq_true rfl) d_CS_gatherNamed_119 (fun w_119 H locs h_119 pp_119 dd_119 zz_119 kk_119 hS => ?_)
        obtain ⟨e119, m119, hGG119, hg119, rfl⟩ := h_119
        have hP : va_P g.1 classes (cw g q u la NX (va_up n 8 m119) (va_up es 8 e119)) H := pp_119
        have hD : va_D A (cw g q u la NX (va_up n 8 m119) (va_up es 8 e119)) := dd_119.weaken (fun _ _ _ h9 => hF_119 _ h9)
        have hGG119 := GG_append hGG111 hGG119
        refine lv_goto (tgt := 133) hx hb d_CS_gatherNamed_122 (by decide) ?_
        subst hQ
        exact W.vret hx hb hr (fun t h9 hW => ⟨⟨_, rfl, ⟨e119, m119, by unfold rlN; (repeat (first | rw [if_pos (by omega)] | rw [if_neg (by omega)])); exact hGG119, hg119, rfl⟩, by rw [h9]; exact hP, va_K.moved hW.alike hK, hD⟩, hS.F h9⟩) hS.2.2 d_CS_gatherNamed_133
      · refine ix_tableO (tgt := 125) hx hb d_CS_gatherNamed_33 (by omega) c_33 (by decide) ?_
        refine lv_aload_n hx hb d_CS_gatherNamed_125 rfl (lv_at hl 1 rfl) ?_
        refine lv_iload_n hx hb d_CS_gatherNamed_126 rfl (lv_at hl 2 rfl) ?_
        refine zcSr (As := [.int (iI (((k : Nat) : Int)))]) (rest := [.ref (q 0)]) ⟨hx, hb, hml, hown, ht⟩ t_CS_144 (c_CS_listOf l g k (by omega)) ⟨Nat.le_of_ble_eq_true rfl, Nat.le_of_ble_eq_true rfl⟩ ⟨Nat.zero_le _, Nat.zero_le _⟩ hK hZ hS zP_nil rfl hl.1 rfl (Nat.le_of_ble_eq_true rfl) d_CS_gatherNamed_127 (fun r_127 h_127 => ?_)
        subst h_127
        have hF_130 : ∀ x9, va_A (cw g q u la NX (va_up n 8 mg) (va_up es 8 eg)) H.size x9 → A x9 := fun x9 h9 => h9.elim (fun ⟨j9, e9, hj9⟩ => hD.2 j9 _ hj9) (fun h9 => hA x9 (Nat.le_trans hS.1 h9))
        refine zcVv (ci := 0) (q0 := 0) (As := [.ref (g.2.2 (lisF k))]) (rest := []) ⟨hx, hb, hml, hown, ht⟩ v_CS_148 (c_CS_gatherList l g H.size q u la NX n es mg eg (lisF k) Bs hBl hgo hla (by have := (lis_ok k (by omega)).1; omega) (lis_ok k (by omega)).2.1 (lis_ok k (by omega)).2.2 (hBL (lisF k) (lis_ok k (by omega)).1.1 (lis_ok k (by omega)).1.2)) ⟨Nat.le_of_ble_eq_true rfl, Nat.le_of_ble_eq_true rfl⟩ ⟨Nat.zero_le _, Nat.zero_le _⟩ hK hZ hS hP (hD.weaken (fun _ _ _ _ => trivial)) hF_130 zP_nil zAp_nil rfl rfl rfl rfl hl.1 rfl (Nat.le_of_ble_eq_true rfl) d_CS_gatherNamed_130 (fun w_130 H locs h_130 pp_130 dd_130 zz_130 kk_130 hS => ?_)
        obtain ⟨e130, m130, hGG130, hg130, rfl⟩ := h_130
        have hP : va_P g.1 classes (cw g q u la NX (va_up n 8 m130) (va_up es 8 e130)) H := pp_130
        have hD : va_D A (cw g q u la NX (va_up n 8 m130) (va_up es 8 e130)) := dd_130.weaken (fun _ _ _ h9 => hF_130 _ h9)
        subst hQ
        exact W.vret hx hb hr (fun t h9 hW => ⟨⟨_, rfl, ⟨e130, m130, by unfold rlN; (repeat (first | rw [if_pos (by omega)] | rw [if_neg (by omega)])); exact hGG130, hg130, rfl⟩, by rw [h9]; exact hP, va_K.moved hW.alike hK, hD⟩, hS.F h9⟩) hS.2.2 d_CS_gatherNamed_133
    · obtain ⟨kp, hkp⟩ : ∃ kp : Nat, proF k = ((kp : Nat) : Int) := ⟨(proF k).toNat, by omega⟩
      rw [hkp] at hl
      refine lv_aload_n hx hb d_CS_gatherNamed_26 rfl (lv_at hl 1 rfl) ?_
      refine lv_iload_n hx hb d_CS_gatherNamed_27 rfl (lv_at hl 0 rfl) ?_
      have hF_28 : ∀ x9, va_A (cw g q u la NX (va_up n 8 mg) (va_up es 8 eg)) H.size x9 → A x9 := fun x9 h9 => h9.elim (fun ⟨j9, e9, hj9⟩ => hD.2 j9 _ hj9) (fun h9 => hA x9 (Nat.le_trans hS.1 h9))
      refine zcVv (ci := 0) (q0 := 0) (As := [.int (iI (((kp : Nat) : Int)))]) (rest := []) ⟨hx, hb, hml, hown, ht⟩ v_CS_63 (c_CS_gatherProperty l g H.size q u la NX n es mg eg kp Bs hBl hgo hla (by omega) hla2 hPB1 hBC) ⟨Nat.le_of_ble_eq_true rfl, Nat.le_of_ble_eq_true rfl⟩ ⟨Nat.zero_le _, Nat.zero_le _⟩ hK hZ hS hP (hD.weaken (fun _ _ _ _ => trivial)) hF_28 zP_nil zAp_nil rfl rfl rfl rfl hl.1 rfl (Nat.le_of_ble_eq_true rfl) d_CS_gatherNamed_28 (fun w_28 H locs h_28 pp_28 dd_28 zz_28 kk_28 hS => ?_)
      obtain ⟨e28, m28, hGG28, hg28, rfl⟩ := h_28
      have hP : va_P g.1 classes (cw g q u la NX (va_up n 8 m28) (va_up es 8 e28)) H := pp_28
      have hD : va_D A (cw g q u la NX (va_up n 8 m28) (va_up es 8 e28)) := dd_28.weaken (fun _ _ _ h9 => hF_28 _ h9)
      subst hQ
      exact W.vret hx hb hr (fun t h9 hW => ⟨⟨_, rfl, ⟨e28, m28, by unfold rlN; (repeat (first | rw [if_pos (by omega)] | rw [if_neg (by omega)])); rw [show (proF k).toNat = kp by omega]; exact hGG28, hg28, rfl⟩, by rw [h9]; exact hP, va_K.moved hW.alike hK, hD⟩, hS.F h9⟩) hS.2.2 d_CS_gatherNamed_31
  · refine lv_aload_n hx hb d_CS_gatherNamed_7 rfl (lv_at hl 0 rfl) ?_
    refine lv_iload_n hx hb d_CS_gatherNamed_8 rfl (lv_at hl 1 rfl) ?_
    refine zcSr (As := [.int (iI (((k : Nat) : Int)))]) (rest := [.ref (q 0)]) ⟨hx, hb, hml, hown, ht⟩ t_CS_144 (c_CS_listOf l g k (by omega)) ⟨Nat.le_of_ble_eq_true rfl, Nat.le_of_ble_eq_true rfl⟩ ⟨Nat.zero_le _, Nat.zero_le _⟩ hK hZ hS zP_nil rfl hl.1 rfl (Nat.le_of_ble_eq_true rfl) d_CS_gatherNamed_9 (fun r_9 h_9 => ?_)
    subst h_9
    have hF_12 : ∀ x9, va_A (cw g q u la NX (va_up n 8 mg) (va_up es 8 eg)) H.size x9 → A x9 := fun x9 h9 => h9.elim (fun ⟨j9, e9, hj9⟩ => hD.2 j9 _ hj9) (fun h9 => hA x9 (Nat.le_trans hS.1 h9))
    refine zcVv (ci := 0) (q0 := 0) (As := [.ref (g.2.2 (lisF k))]) (rest := []) ⟨hx, hb, hml, hown, ht⟩ v_CS_148 (c_CS_gatherList l g H.size q u la NX n es mg eg (lisF k) Bs hBl hgo hla (by have := (lis_ok k (by omega)).1; omega) (lis_ok k (by omega)).2.1 (lis_ok k (by omega)).2.2 (hBL (lisF k) (lis_ok k (by omega)).1.1 (lis_ok k (by omega)).1.2)) ⟨Nat.le_of_ble_eq_true rfl, Nat.le_of_ble_eq_true rfl⟩ ⟨Nat.zero_le _, Nat.zero_le _⟩ hK hZ hS hP (hD.weaken (fun _ _ _ _ => trivial)) hF_12 zP_nil zAp_nil rfl rfl rfl rfl hl.1 rfl (Nat.le_of_ble_eq_true rfl) d_CS_gatherNamed_12 (fun w_12 H locs h_12 pp_12 dd_12 zz_12 kk_12 hS => ?_)
    obtain ⟨e12, m12, hGG12, hg12, rfl⟩ := h_12
    have hP : va_P g.1 classes (cw g q u la NX (va_up n 8 m12) (va_up es 8 e12)) H := pp_12
    have hD : va_D A (cw g q u la NX (va_up n 8 m12) (va_up es 8 e12)) := dd_12.weaken (fun _ _ _ h9 => hF_12 _ h9)
    subst hQ
    exact W.vret hx hb hr (fun t h9 hW => ⟨⟨_, rfl, ⟨e12, m12, by unfold rlN; (repeat (first | rw [if_pos (by omega)] | rw [if_neg (by omega)])); exact hGG12, hg12, rfl⟩, by rw [h9]; exact hP, va_K.moved hW.alike hK, hD⟩, hS.F h9⟩) hS.2.2 d_CS_gatherNamed_15
