set_option maxHeartbeats 4000000 in
set_option maxRecDepth 100000 in
theorem c_CS_gather (l : Launch) (g : zG) (sz : Nat) (q : Nat → Nat) (u la : Int) (NX : Nat → Int) (n : Nat → Nat) (es : Nat → Nat → Int) (mg : Nat) (eg : Nat → Int) (low high : Int) (Bs : List Int) (hBl : Bs.length ≤ 2046) (hgo : gok Bs eg mg) (hla : 0 ≤ la ∧ la ≤ 1114111) (hlo : 0 ≤ low ∧ low ≤ 1114112) (hhi : -1 ≤ high ∧ high ≤ 2147483647) (hBG : low ≤ min high la → low ∈ Bs ∧ min high la + 1 ∈ Bs) : Met l y_CS_gather w_CS_gather { frames := 2, cells := 0, slots := 0, locals := 52 } (zPw g [.ref (q 0), .int (iI low), .int (iI high)] (cw g q u la NX (va_up n 8 mg) (va_up es 8 eg)) [] sz) (va_Qv (fun w => ∃ (e2 : Nat → Int) (n2 : Nat), GI la eg mg low high e2 n2 ∧ w = cw g q u la NX (va_up n 8 n2) (va_up es 8 e2)) (zB g (va_A (cw g q u la NX (va_up n 8 mg) (va_up es 8 eg)) sz)) (va_A (cw g q u la NX (va_up n 8 mg) (va_up es 8 eg)) sz)) 0 0 (va_A (cw g q u la NX (va_up n 8 mg) (va_up es 8 eg)) sz) := by
  refine Met.ofW (cc := b_CS_gather) (maxL := 4) (ret := none) (by decide) rfl ?_
  intro p e s m args below meth cd s₁ B hml hv
  obtain ⟨hargs, hsz, hP, hK, hD0, hZ, hO0, hAp⟩ := hv
  have hx := B.exec
  have hb := B.bytes
  have hr := B.returns
  have ht : ∀ w ∈ lw_ok, w.before args s = true := fun w h => atoms_spec (ws := w_CS_gather) B.pre w (List.mem_cons_of_mem _ h)
  have hown : s.vm.findClass R_CS = some m.cls := findClass_of_methodNamed B.named
  have hlocks := B.notSynchronized
  subst hsz
  have hD := hD0.self (sz := s.heap.size)
  generalize hAe : va_A (cw g q u la NX (va_up n 8 mg) (va_up es 8 eg)) s.heap.size = A at hD hZ hAp ⊢
  have hA : ∀ q : Nat, s.heap.size ≤ q → A q := fun q h => by rw [← hAe]; exact Or.inr h
  have hS : va_S A s.heap s.heap [] := va_S.rf
  generalize hQ : MQ below _ args s 0 0 _ = Q
  have hl := lv_entry ([.ref (q 0), .int (iI low), .int (iI high)]) (n := 4) (Nat.le_of_ble_eq_true rfl)
  rw [show entryFrame m args 4 = entryFrame m ([.ref (q 0), .int (iI low), .int (iI high)] : List Value).toArray 4 by rw [hargs], lg_entry_eq]
  generalize (lg_sl ([.ref (q 0), .int (iI low), .int (iI high)]) ++ List.replicate (4 - (lg_sl ([.ref (q 0), .int (iI low), .int (iI high)])).length) Slot.unset).toArray = ls at hl ⊢
  have hl : lv_has ls 4 [(0, .ref (q 0)), (1, .int (iI low)), (2, .int (iI high))] := hl
  obtain ⟨H, locs, hHe, hLe⟩ : ∃ (H : Heap) (locs : List Loc), H = s.heap ∧ locs = [] := ⟨_, _, rfl, rfl⟩
  rw [show W p l e _ s m args below meth cd s.heap [] 0 0 Q = W p l e _ s m args below meth cd H locs 0 0 Q by rw [hHe, hLe]]
  rw [← hHe] at hP
  have hS : va_S A s.heap H locs := by rw [hHe, hLe]; exact hS
  have hml9 := gok_len hgo
  refine lv_iload_n hx hb d_CS_gather_0 rfl (lv_at hl 2 rfl) ?_
  refine lv_aload_n hx hb d_CS_gather_1 rfl (lv_at hl 0 rfl) ?_
  refine va_get (D := g.1) (ci := 0) (v := .int (iI la)) (C := R_CS) (T := F_CS) (N := 6) hx hb ht i_CS hown hK hP 0 rfl rfl 1 (by decide) (ht _ k_102) (fun _ h9 => h9) rfl d_CS_gather_2 ?_
  refine ix_min hx hb (by rw [hml]; exact hl.1.symm) hown (ht _ k_187) (ht _ k_188) (ht _ k_7) (ht _ k_189) (Nat.le_of_ble_eq_true rfl) (Nat.le_of_ble_eq_true rfl) (Nat.zero_le _) (Nat.zero_le _) (min high la) (by omega) rfl d_CS_gather_5 ?_
  refine lv_istore_n (lv' := [(3, .int (iI (min high la))), (0, .ref (q 0)), (1, .int (iI low)), (2, .int (iI high))]) hx hb d_CS_gather_8 rfl hl (by decide) rfl (fun ls hl => ?_)
  refine lv_iload_n hx hb d_CS_gather_9 rfl (lv_at hl 2 rfl) ?_
  refine lv_iload_n hx hb d_CS_gather_10 rfl (lv_at hl 0 rfl) ?_
  refine ix_icmp_gt (tgt := 23) hx hb d_CS_gather_11 (by decide) (by omega) (fun c_11 => ?_) (fun c_11 => ?_)
  · subst hQ
    exact W.vret hx hb hr (fun t h9 hW => ⟨⟨_, rfl, ⟨eg, mg, Or.inr ⟨by omega, rfl, rfl⟩, rfl⟩, by rw [h9]; exact hP, va_K.moved hW.alike hK, hD⟩, hS.F h9⟩) hS.2.2 d_CS_gather_23
  · refine lv_aload_n hx hb d_CS_gather_14 rfl (lv_at hl 1 rfl) ?_
    refine va_get (D := g.1) (ci := 0) (v := .ref (q 24)) (C := R_CS) (T := F_CS) (N := 6) hx hb ht i_CS hown hK hP 0 rfl rfl 5 (by decide) (ht _ k_106) (fun _ h9 => h9) rfl d_CS_gather_15 ?_
    refine lv_iload_n hx hb d_CS_gather_18 rfl (lv_at hl 2 rfl) ?_
    refine lv_iload_n hx hb d_CS_gather_19 rfl (lv_at hl 0 rfl) ?_
    have hF_20 := cw_prF8 hD hS hA
    refine zcVv (ci := 1) (q0 := 0) (As := [.int (iI low), .int (iI (min high la))]) (rest := []) ⟨hx, hb, hml, hown, ht⟩ v_CS_55 (c_RG_insert l g H.size (q 24) (q 25) mg eg low (min high la) hgo.1 (by omega) hgo.2.1 (by omega) (by omega) (by omega) Bs hgo.2.2 (hBG (by omega)).1 (hBG (by omega)).2 (by omega)) ⟨Nat.le_of_ble_eq_true rfl, Nat.le_of_ble_eq_true rfl⟩ ⟨Nat.zero_le _, Nat.zero_le _⟩ hK hZ hS (cw_pr8 hP) ((cw_prD8 hD).weaken (fun _ _ _ _ => trivial)) hF_20 zP_nil zAp_nil rfl rfl rfl rfl hl.1 rfl (Nat.le_of_ble_eq_true rfl) d_CS_gather_20 (fun w_20 H locs h_20 pp_20 dd_20 zz_20 kk_20 hS => ?_)
    obtain ⟨e2, n2, rfl, hI⟩ := h_20
    obtain ⟨hP, hD⟩ := cw_put8 hP hD (n1 := n2) (e1 := e2) kk_20 hF_20 pp_20 dd_20
    subst hQ
    exact W.vret hx hb hr (fun t h9 hW => ⟨⟨_, rfl, ⟨e2, n2, Or.inl ⟨by omega, hI⟩, rfl⟩, by rw [h9]; exact hP, va_K.moved hW.alike hK, hD⟩, hS.F h9⟩) hS.2.2 d_CS_gather_23
set_option maxHeartbeats 4000000 in
set_option maxRecDepth 100000 in
theorem c_CS_gatherScript (l : Launch) (g : zG) (sz : Nat) (q : Nat → Nat) (u la : Int) (NX : Nat → Int) (n : Nat → Nat) (es : Nat → Nat → Int) (mg : Nat) (eg : Nat → Int) (sc : Int) (Bs : List Int) (hBl : Bs.length ≤ 2046) (hgo : gok Bs eg mg) (hla : 0 ≤ la ∧ la ≤ 1114111) (hsc : 0 ≤ sc ∧ sc ≤ 11) (hPB : ∀ i, i < 253 → LOf i ≤ min (hiE i - 1) la → LOf i ∈ Bs ∧ min (hiE i - 1) la + 1 ∈ Bs) : Met l y_CS_gatherScript w_CS_gatherScript { frames := 3, cells := 0, slots := 0, locals := 75 } (zPw g [.ref (q 0), .int (iI sc)] (cw g q u la NX (va_up n 8 mg) (va_up es 8 eg)) [] sz) (va_Qv (fun w => ∃ (e2 : Nat → Int) (n2 : Nat), GG la eg mg (rlS sc 253) e2 n2 ∧ gok Bs e2 n2 ∧ w = cw g q u la NX (va_up n 8 n2) (va_up es 8 e2)) (zB g (va_A (cw g q u la NX (va_up n 8 mg) (va_up es 8 eg)) sz)) (va_A (cw g q u la NX (va_up n 8 mg) (va_up es 8 eg)) sz)) 0 0 (va_A (cw g q u la NX (va_up n 8 mg) (va_up es 8 eg)) sz) := by
  refine Met.ofW (cc := b_CS_gatherScript) (maxL := 3) (ret := none) (by decide) rfl ?_
  intro p e s m args below meth cd s₁ B hml hv
  obtain ⟨hargs, hsz, hP, hK, hD0, hZ, hO0, hAp⟩ := hv
  have hx := B.exec
  have hb := B.bytes
  have hr := B.returns
  have ht : ∀ w ∈ lw_ok, w.before args s = true := fun w h => atoms_spec (ws := w_CS_gatherScript) B.pre w (List.mem_cons_of_mem _ h)
  have hown : s.vm.findClass R_CS = some m.cls := findClass_of_methodNamed B.named
  have hlocks := B.notSynchronized
  subst hsz
  have hD := hD0.self (sz := s.heap.size)
  generalize hAe : va_A (cw g q u la NX (va_up n 8 mg) (va_up es 8 eg)) s.heap.size = A at hD hZ hAp ⊢
  have hA : ∀ q : Nat, s.heap.size ≤ q → A q := fun q h => by rw [← hAe]; exact Or.inr h
  have hS : va_S A s.heap s.heap [] := va_S.rf
  generalize hQ : MQ below _ args s 0 0 _ = Q
  have hl := lv_entry ([.ref (q 0), .int (iI sc)]) (n := 3) (Nat.le_of_ble_eq_true rfl)
  rw [show entryFrame m args 3 = entryFrame m ([.ref (q 0), .int (iI sc)] : List Value).toArray 3 by rw [hargs], lg_entry_eq]
  generalize (lg_sl ([.ref (q 0), .int (iI sc)]) ++ List.replicate (3 - (lg_sl ([.ref (q 0), .int (iI sc)])).length) Slot.unset).toArray = ls at hl ⊢
  have hl : lv_has ls 3 [(0, .ref (q 0)), (1, .int (iI sc))] := hl
  obtain ⟨H, locs, hHe, hLe⟩ : ∃ (H : Heap) (locs : List Loc), H = s.heap ∧ locs = [] := ⟨_, _, rfl, rfl⟩
  rw [show W p l e _ s m args below meth cd s.heap [] 0 0 Q = W p l e _ s m args below meth cd H locs 0 0 Q by rw [hHe, hLe]]
  rw [← hHe] at hP
  have hS : va_S A s.heap H locs := by rw [hHe, hLe]; exact hS
  have J2 : ∀ fu : Nat, ∀ (i m2 : Nat) (e2 : Nat → Int) (H : Heap) (locs : List Loc) (ls : Array Slot), 253 - i < fu → lv_has ls 3 [(0, .ref (q 0)), (1, .int (iI sc)), (2, .int (iI (((i : Nat) : Int))))] → (i ≤ 253) → (GG la eg mg (rlS sc i) e2 m2) → (gok Bs e2 m2) → va_P g.1 classes (cw g q u la NX (va_up n 8 m2) (va_up es 8 e2)) H → va_D A (cw g q u la NX (va_up n 8 m2) (va_up es 8 e2)) → va_S A s.heap H locs → W p l e (headSpec w_CS_gatherScript { frames := 3, cells := 0, slots := 0, locals := 75 }).room s m args below meth cd H locs 0 0 Q (F0 m 2 ls []) := by
    intro fu
    induction fu with
    | zero => exact fun _ _ _ _ _ _ hfu _ _ _ _ _ _ _ => absurd hfu (Nat.not_lt_zero _)
    | succ fu ih =>
      intro i m2 e2 H locs ls hfu hl h1 hG hg2 hP hD hS
      refine lv_iload_n hx hb d_CS_gatherScript_2 rfl (lv_at hl 2 rfl) ?_
      refine lv_aload_n hx hb d_CS_gatherScript_3 rfl (lv_at hl 0 rfl) ?_
      refine va_get (D := g.1) (ci := 0) (v := .ref (q 1)) (C := R_CS) (T := F_CS) (N := 6) hx hb ht i_CS hown hK hP 0 rfl rfl 2 (by decide) (ht _ k_103) (fun _ h9 => h9) rfl d_CS_gatherScript_4 ?_
      refine zcV (ci := 2) (q0 := 0) (As := []) (rest := [.int (iI (((i : Nat) : Int)))]) ⟨hx, hb, hml, hown, ht⟩ v_CS_210 (c_TB_pieceCount l g (q 1) (q 2) (q 3) (q 4)  ) ⟨Nat.le_of_ble_eq_true rfl, Nat.le_of_ble_eq_true rfl⟩ ⟨Nat.zero_le _, Nat.zero_le _⟩ hK hZ hS (cw_tb hP) rfl rfl rfl rfl hl.1 rfl (Nat.le_of_ble_eq_true rfl) d_CS_gatherScript_7 (fun r_7 h_7 => ?_)
      subst h_7
      refine ix_icmp_ge (tgt := 51) hx hb d_CS_gatherScript_10 (by decide) (by omega) (fun c_10 => ?_) (fun c_10 => ?_)
      · obtain rfl : i = 253 := by omega
        subst hQ
        exact W.vret hx hb hr (fun t h9 hW => ⟨⟨_, rfl, ⟨e2, m2, hG, hg2, rfl⟩, by rw [h9]; exact hP, va_K.moved hW.alike hK, hD⟩, hS.F h9⟩) hS.2.2 d_CS_gatherScript_51
      · have pin := PL_in i (by omega)
        have hgt := hiE_gt i (by omega)
        refine lv_aload_n hx hb d_CS_gatherScript_13 rfl (lv_at hl 0 rfl) ?_
        refine va_get (D := g.1) (ci := 0) (v := .ref (q 1)) (C := R_CS) (T := F_CS) (N := 6) hx hb ht i_CS hown hK hP 0 rfl rfl 2 (by decide) (ht _ k_103) (fun _ h9 => h9) rfl d_CS_gatherScript_14 ?_
        refine lv_iload_n hx hb d_CS_gatherScript_17 rfl (lv_at hl 2 rfl) ?_
        refine zcV (ci := 2) (q0 := 0) (As := [.int (iI (((i : Nat) : Int)))]) (rest := []) ⟨hx, hb, hml, hown, ht⟩ v_CS_228 (c_TB_pieceScript l g (q 1) (q 2) (q 3) (q 4) i (by omega)) ⟨Nat.le_of_ble_eq_true rfl, Nat.le_of_ble_eq_true rfl⟩ ⟨Nat.zero_le _, Nat.zero_le _⟩ hK hZ hS (cw_tb hP) rfl rfl rfl rfl hl.1 rfl (Nat.le_of_ble_eq_true rfl) d_CS_gatherScript_18 (fun r_18 h_18 => ?_)
        subst h_18
        refine lv_iload_n hx hb d_CS_gatherScript_21 rfl (lv_at hl 1 rfl) ?_
        refine ix_icmp_ne (tgt := 45) hx hb d_CS_gatherScript_22 (by decide) (by omega) (fun c_22 => ?_) (fun c_22 => ?_)
        · refine lv_iinc (v := iI ((((i : Nat) : Int)) + 1)) (lv' := [(2, .int (iI ((((i : Nat) : Int)) + 1))), (0, .ref (q 0)), (1, .int (iI sc))]) hx hb d_CS_gatherScript_45 hl (k := 2) rfl (iI_add _ _) (by decide) rfl (fun ls hl => ?_)
          refine lv_goto (tgt := 2) hx hb d_CS_gatherScript_48 (by decide) ?_
          exact ih (i + 1) m2 e2 _ _ ls (by omega) (lv_sub hl [1, 2, 0] rfl) (by omega) (by unfold rlS; rw [if_neg (by omega)]; exact hG) (by exact hg2) hP hD hS
        · refine lv_aload_n hx hb d_CS_gatherScript_25 rfl (lv_at hl 0 rfl) ?_
          refine lv_aload_n hx hb d_CS_gatherScript_26 rfl (lv_at hl 0 rfl) ?_
          refine va_get (D := g.1) (ci := 0) (v := .ref (q 1)) (C := R_CS) (T := F_CS) (N := 6) hx hb ht i_CS hown hK hP 0 rfl rfl 2 (by decide) (ht _ k_103) (fun _ h9 => h9) rfl d_CS_gatherScript_27 ?_
          refine lv_iload_n hx hb d_CS_gatherScript_30 rfl (lv_at hl 2 rfl) ?_
          refine zcV (ci := 2) (q0 := 0) (As := [.int (iI (((i : Nat) : Int)))]) (rest := [.ref (q 0)]) ⟨hx, hb, hml, hown, ht⟩ v_CS_216 (c_TB_pieceLow l g (q 1) (q 2) (q 3) (q 4) i (by omega)) ⟨Nat.le_of_ble_eq_true rfl, Nat.le_of_ble_eq_true rfl⟩ ⟨Nat.zero_le _, Nat.zero_le _⟩ hK hZ hS (cw_tb hP) rfl rfl rfl rfl hl.1 rfl (Nat.le_of_ble_eq_true rfl) d_CS_gatherScript_31 (fun r_31 h_31 => ?_)
          subst h_31
          refine lv_aload_n hx hb d_CS_gatherScript_34 rfl (lv_at hl 0 rfl) ?_
          refine va_get (D := g.1) (ci := 0) (v := .ref (q 1)) (C := R_CS) (T := F_CS) (N := 6) hx hb ht i_CS hown hK hP 0 rfl rfl 2 (by decide) (ht _ k_103) (fun _ h9 => h9) rfl d_CS_gatherScript_35 ?_
          refine lv_iload_n hx hb d_CS_gatherScript_38 rfl (lv_at hl 2 rfl) ?_
          refine zcV (ci := 2) (q0 := 0) (As := [.int (iI (((i : Nat) : Int)))]) (rest := [.int (iI (LOf i)), .ref (q 0)]) ⟨hx, hb, hml, hown, ht⟩ v_CS_219 (c_TB_pieceHigh l g (q 1) (q 2) (q 3) (q 4) i (by omega)) ⟨Nat.le_of_ble_eq_true rfl, Nat.le_of_ble_eq_true rfl⟩ ⟨Nat.zero_le _, Nat.zero_le _⟩ hK hZ hS (cw_tb hP) rfl rfl rfl rfl hl.1 rfl (Nat.le_of_ble_eq_true rfl) d_CS_gatherScript_39 (fun r_39 h_39 => ?_)
          subst h_39
          have hB_42 : (LOf i) ≤ min (hiE i - 1) la → (LOf i) ∈ Bs ∧ min (hiE i - 1) la + 1 ∈ Bs := hPB i (by omega)
          have hF_42 : ∀ x9, va_A (cw g q u la NX (va_up n 8 m2) (va_up es 8 e2)) H.size x9 → A x9 := fun x9 h9 => h9.elim (fun ⟨j9, e9, hj9⟩ => hD.2 j9 _ hj9) (fun h9 => hA x9 (Nat.le_trans hS.1 h9))
          refine zcVv (ci := 0) (q0 := 0) (As := [.int (iI (LOf i)), .int (iI (hiE i - 1))]) (rest := []) ⟨hx, hb, hml, hown, ht⟩ v_CS_135 (c_CS_gather l g H.size q u la NX n es m2 e2 (LOf i) (hiE i - 1) Bs hBl hg2 hla (by omega) (by omega) hB_42) ⟨Nat.le_of_ble_eq_true rfl, Nat.le_of_ble_eq_true rfl⟩ ⟨Nat.zero_le _, Nat.zero_le _⟩ hK hZ hS hP (hD.weaken (fun _ _ _ _ => trivial)) hF_42 zP_nil zAp_nil rfl rfl rfl rfl hl.1 rfl (Nat.le_of_ble_eq_true rfl) d_CS_gatherScript_42 (fun w_42 H locs h_42 pp_42 dd_42 zz_42 kk_42 hS => ?_)
          obtain ⟨e42, m42, hGI42, rfl⟩ := h_42
          have hP : va_P g.1 classes (cw g q u la NX (va_up n 8 m42) (va_up es 8 e42)) H := pp_42
          have hD : va_D A (cw g q u la NX (va_up n 8 m42) (va_up es 8 e42)) := dd_42.weaken (fun _ _ _ h9 => hF_42 _ h9)
          have hg42 := gok_GI hla (by omega) hg2 hGI42 hB_42
          refine lv_iinc (v := iI ((((i : Nat) : Int)) + 1)) (lv' := [(2, .int (iI ((((i : Nat) : Int)) + 1))), (0, .ref (q 0)), (1, .int (iI sc))]) hx hb d_CS_gatherScript_45 hl (k := 2) rfl (iI_add _ _) (by decide) rfl (fun ls hl => ?_)
          refine lv_goto (tgt := 2) hx hb d_CS_gatherScript_48 (by decide) ?_
          exact ih (i + 1) m42 e42 _ _ ls (by omega) (lv_sub hl [1, 2, 0] rfl) (by omega) (by unfold rlS; rw [if_pos (by omega)]; exact ⟨e2, m2, hG, hGI42⟩) (by exact hg42) hP hD hS
  refine lv_iconst (v := iI 0) hx hb d_CS_gatherScript_0 rfl ?_
  refine lv_istore_n (lv' := [(2, .int (iI 0)), (0, .ref (q 0)), (1, .int (iI sc))]) hx hb d_CS_gatherScript_1 rfl hl (by decide) rfl (fun ls hl => ?_)
  exact J2 (_ + 1) 0 mg eg _ _ ls (Nat.lt_succ_self _) (lv_sub hl [1, 2, 0] rfl) (by omega) (by exact ⟨rfl, rfl⟩) (by exact hgo) hP hD hS
set_option maxHeartbeats 4000000 in
set_option maxRecDepth 100000 in
theorem c_CS_gatherCategories (l : Launch) (g : zG) (sz : Nat) (q : Nat → Nat) (u la : Int) (NX : Nat → Int) (n : Nat → Nat) (es : Nat → Nat → Int) (mg : Nat) (eg : Nat → Int) (Mc : Nat) (en : Int) (Bs : List Int) (hBl : Bs.length ≤ 2046) (hgo : gok Bs eg mg) (hla : 0 ≤ la ∧ la ≤ 1114111) (hM : Mc < 33554432) (hen : 0 ≤ en ∧ en ≤ 1114111) (hPB : ∀ i, i < 253 → LOf i ≤ min (min (hiE i - 1) en) la → LOf i ∈ Bs ∧ min (min (hiE i - 1) en) la + 1 ∈ Bs) : Met l y_CS_gatherCategories w_CS_gatherCategories { frames := 3, cells := 0, slots := 0, locals := 75 } (zPw g [.ref (q 0), .int (iI (((Mc : Nat) : Int))), .int (iI en)] (cw g q u la NX (va_up n 8 mg) (va_up es 8 eg)) [] sz) (va_Qv (fun w => ∃ (e2 : Nat → Int) (n2 : Nat), GG la eg mg (rlC Mc en 253) e2 n2 ∧ gok Bs e2 n2 ∧ w = cw g q u la NX (va_up n 8 n2) (va_up es 8 e2)) (zB g (va_A (cw g q u la NX (va_up n 8 mg) (va_up es 8 eg)) sz)) (va_A (cw g q u la NX (va_up n 8 mg) (va_up es 8 eg)) sz)) 0 0 (va_A (cw g q u la NX (va_up n 8 mg) (va_up es 8 eg)) sz) := by
  refine Met.ofW (cc := b_CS_gatherCategories) (maxL := 4) (ret := none) (by decide) rfl ?_
  intro p e s m args below meth cd s₁ B hml hv
  obtain ⟨hargs, hsz, hP, hK, hD0, hZ, hO0, hAp⟩ := hv
  have hx := B.exec
  have hb := B.bytes
  have hr := B.returns
  have ht : ∀ w ∈ lw_ok, w.before args s = true := fun w h => atoms_spec (ws := w_CS_gatherCategories) B.pre w (List.mem_cons_of_mem _ h)
  have hown : s.vm.findClass R_CS = some m.cls := findClass_of_methodNamed B.named
  have hlocks := B.notSynchronized
  subst hsz
  have hD := hD0.self (sz := s.heap.size)
  generalize hAe : va_A (cw g q u la NX (va_up n 8 mg) (va_up es 8 eg)) s.heap.size = A at hD hZ hAp ⊢
  have hA : ∀ q : Nat, s.heap.size ≤ q → A q := fun q h => by rw [← hAe]; exact Or.inr h
  have hS : va_S A s.heap s.heap [] := va_S.rf
  generalize hQ : MQ below _ args s 0 0 _ = Q
  have hl := lv_entry ([.ref (q 0), .int (iI (((Mc : Nat) : Int))), .int (iI en)]) (n := 4) (Nat.le_of_ble_eq_true rfl)
  rw [show entryFrame m args 4 = entryFrame m ([.ref (q 0), .int (iI (((Mc : Nat) : Int))), .int (iI en)] : List Value).toArray 4 by rw [hargs], lg_entry_eq]
  generalize (lg_sl ([.ref (q 0), .int (iI (((Mc : Nat) : Int))), .int (iI en)]) ++ List.replicate (4 - (lg_sl ([.ref (q 0), .int (iI (((Mc : Nat) : Int))), .int (iI en)])).length) Slot.unset).toArray = ls at hl ⊢
  have hl : lv_has ls 4 [(0, .ref (q 0)), (1, .int (iI (((Mc : Nat) : Int)))), (2, .int (iI en))] := hl
  obtain ⟨H, locs, hHe, hLe⟩ : ∃ (H : Heap) (locs : List Loc), H = s.heap ∧ locs = [] := ⟨_, _, rfl, rfl⟩
  rw [show W p l e _ s m args below meth cd s.heap [] 0 0 Q = W p l e _ s m args below meth cd H locs 0 0 Q by rw [hHe, hLe]]
  rw [← hHe] at hP
  have hS : va_S A s.heap H locs := by rw [hHe, hLe]; exact hS
  have J2 : ∀ fu : Nat, ∀ (i m2 : Nat) (e2 : Nat → Int) (H : Heap) (locs : List Loc) (ls : Array Slot), 253 - i < fu → lv_has ls 4 [(0, .ref (q 0)), (1, .int (iI (((Mc : Nat) : Int)))), (2, .int (iI en)), (3, .int (iI (((i : Nat) : Int))))] → (i ≤ 253) → (GG la eg mg (rlC Mc en i) e2 m2) → (gok Bs e2 m2) → va_P g.1 classes (cw g q u la NX (va_up n 8 m2) (va_up es 8 e2)) H → va_D A (cw g q u la NX (va_up n 8 m2) (va_up es 8 e2)) → va_S A s.heap H locs → W p l e (headSpec w_CS_gatherCategories { frames := 3, cells := 0, slots := 0, locals := 75 }).room s m args below meth cd H locs 0 0 Q (F0 m 2 ls []) := by
    intro fu
    induction fu with
    | zero => exact fun _ _ _ _ _ _ hfu _ _ _ _ _ _ _ => absurd hfu (Nat.not_lt_zero _)
    | succ fu ih =>
      intro i m2 e2 H locs ls hfu hl h1 hG hg2 hP hD hS
      refine lv_iload_n hx hb d_CS_gatherCategories_2 rfl (lv_at hl 3 rfl) ?_
      refine lv_aload_n hx hb d_CS_gatherCategories_3 rfl (lv_at hl 0 rfl) ?_
      refine va_get (D := g.1) (ci := 0) (v := .ref (q 1)) (C := R_CS) (T := F_CS) (N := 6) hx hb ht i_CS hown hK hP 0 rfl rfl 2 (by decide) (ht _ k_103) (fun _ h9 => h9) rfl d_CS_gatherCategories_4 ?_
      refine zcV (ci := 2) (q0 := 0) (As := []) (rest := [.int (iI (((i : Nat) : Int)))]) ⟨hx, hb, hml, hown, ht⟩ v_CS_210 (c_TB_pieceCount l g (q 1) (q 2) (q 3) (q 4)  ) ⟨Nat.le_of_ble_eq_true rfl, Nat.le_of_ble_eq_true rfl⟩ ⟨Nat.zero_le _, Nat.zero_le _⟩ hK hZ hS (cw_tb hP) rfl rfl rfl rfl hl.1 rfl (Nat.le_of_ble_eq_true rfl) d_CS_gatherCategories_7 (fun r_7 h_7 => ?_)
      subst h_7
      refine ix_icmp_ge (tgt := 58) hx hb d_CS_gatherCategories_10 (by decide) (by omega) (fun c_10 => ?_) (fun c_10 => ?_)
      · obtain rfl : i = 253 := by omega
        subst hQ
        exact W.vret hx hb hr (fun t h9 hW => ⟨⟨_, rfl, ⟨e2, m2, hG, hg2, rfl⟩, by rw [h9]; exact hP, va_K.moved hW.alike hK, hD⟩, hS.F h9⟩) hS.2.2 d_CS_gatherCategories_58
      · have pin := PL_in i (by omega)
        have hgt := hiE_gt i (by omega)
        refine lv_iload_n hx hb d_CS_gatherCategories_13 rfl (lv_at hl 1 rfl) ?_
        refine lv_aload_n hx hb d_CS_gatherCategories_14 rfl (lv_at hl 0 rfl) ?_
        refine va_get (D := g.1) (ci := 0) (v := .ref (q 1)) (C := R_CS) (T := F_CS) (N := 6) hx hb ht i_CS hown hK hP 0 rfl rfl 2 (by decide) (ht _ k_103) (fun _ h9 => h9) rfl d_CS_gatherCategories_15 ?_
        refine lv_iload_n hx hb d_CS_gatherCategories_18 rfl (lv_at hl 3 rfl) ?_
        refine zcV (ci := 2) (q0 := 0) (As := [.int (iI (((i : Nat) : Int)))]) (rest := [.int (iI (((Mc : Nat) : Int)))]) ⟨hx, hb, hml, hown, ht⟩ v_CS_213 (c_TB_pieceCategory l g (q 1) (q 2) (q 3) (q 4) i (by omega)) ⟨Nat.le_of_ble_eq_true rfl, Nat.le_of_ble_eq_true rfl⟩ ⟨Nat.zero_le _, Nat.zero_le _⟩ hK hZ hS (cw_tb hP) rfl rfl rfl rfl hl.1 rfl (Nat.le_of_ble_eq_true rfl) d_CS_gatherCategories_19 (fun r_19 h_19 => ?_)
        subst h_19
        have hca : CAn i < 25 := by have h9 : ((CAn i : Nat) : Int) ≤ 24 := pin.2.1.2; omega
        refine lv_ishr hx hb d_CS_gatherCategories_22 ?_
        refine lv_iconst (v := iI 1) hx hb d_CS_gatherCategories_23 rfl ?_
        refine lv_iand hx hb d_CS_gatherCategories_24 ?_
        refine lv_if_eq (tgt := 52) hx hb d_CS_gatherCategories_25 (by decide) (fun c_25 => ?_) (fun c_25 => ?_)
        · have hb9 := (cat_bit (T := CAn i) hM hca).mp (show (iI ((Mc : Nat) : Int) >>> (iI ((CAn i : Nat) : Int) &&& 31)) &&& iI 1 = 0 from c_25)
          refine lv_iinc (v := iI ((((i : Nat) : Int)) + 1)) (lv' := [(3, .int (iI ((((i : Nat) : Int)) + 1))), (0, .ref (q 0)), (1, .int (iI (((Mc : Nat) : Int)))), (2, .int (iI en))]) hx hb d_CS_gatherCategories_52 hl (k := 3) rfl (iI_add _ _) (by decide) rfl (fun ls hl => ?_)
          refine lv_goto (tgt := 2) hx hb d_CS_gatherCategories_55 (by decide) ?_
          exact ih (i + 1) m2 e2 _ _ ls (by omega) (lv_sub hl [1, 2, 3, 0] rfl) (by omega) (by unfold rlC; rw [if_neg hb9]; exact hG) (by exact hg2) hP hD hS
        · have hb9 : Mc / 2 ^ CAn i % 2 = 1 := Classical.not_not.mp (fun q9 => c_25 (show (iI ((Mc : Nat) : Int) >>> (iI ((CAn i : Nat) : Int) &&& 31)) &&& iI 1 = 0 from (cat_bit (T := CAn i) hM hca).mpr q9))
          refine lv_aload_n hx hb d_CS_gatherCategories_28 rfl (lv_at hl 0 rfl) ?_
          refine lv_aload_n hx hb d_CS_gatherCategories_29 rfl (lv_at hl 0 rfl) ?_
          refine va_get (D := g.1) (ci := 0) (v := .ref (q 1)) (C := R_CS) (T := F_CS) (N := 6) hx hb ht i_CS hown hK hP 0 rfl rfl 2 (by decide) (ht _ k_103) (fun _ h9 => h9) rfl d_CS_gatherCategories_30 ?_
          refine lv_iload_n hx hb d_CS_gatherCategories_33 rfl (lv_at hl 3 rfl) ?_
          refine zcV (ci := 2) (q0 := 0) (As := [.int (iI (((i : Nat) : Int)))]) (rest := [.ref (q 0)]) ⟨hx, hb, hml, hown, ht⟩ v_CS_216 (c_TB_pieceLow l g (q 1) (q 2) (q 3) (q 4) i (by omega)) ⟨Nat.le_of_ble_eq_true rfl, Nat.le_of_ble_eq_true rfl⟩ ⟨Nat.zero_le _, Nat.zero_le _⟩ hK hZ hS (cw_tb hP) rfl rfl rfl rfl hl.1 rfl (Nat.le_of_ble_eq_true rfl) d_CS_gatherCategories_34 (fun r_34 h_34 => ?_)
          subst h_34
          refine lv_aload_n hx hb d_CS_gatherCategories_37 rfl (lv_at hl 0 rfl) ?_
          refine va_get (D := g.1) (ci := 0) (v := .ref (q 1)) (C := R_CS) (T := F_CS) (N := 6) hx hb ht i_CS hown hK hP 0 rfl rfl 2 (by decide) (ht _ k_103) (fun _ h9 => h9) rfl d_CS_gatherCategories_38 ?_
          refine lv_iload_n hx hb d_CS_gatherCategories_41 rfl (lv_at hl 3 rfl) ?_
          refine zcV (ci := 2) (q0 := 0) (As := [.int (iI (((i : Nat) : Int)))]) (rest := [.int (iI (LOf i)), .ref (q 0)]) ⟨hx, hb, hml, hown, ht⟩ v_CS_219 (c_TB_pieceHigh l g (q 1) (q 2) (q 3) (q 4) i (by omega)) ⟨Nat.le_of_ble_eq_true rfl, Nat.le_of_ble_eq_true rfl⟩ ⟨Nat.zero_le _, Nat.zero_le _⟩ hK hZ hS (cw_tb hP) rfl rfl rfl rfl hl.1 rfl (Nat.le_of_ble_eq_true rfl) d_CS_gatherCategories_42 (fun r_42 h_42 => ?_)
          subst h_42
          refine lv_iload_n hx hb d_CS_gatherCategories_45 rfl (lv_at hl 2 rfl) ?_
          refine ix_min hx hb (by rw [hml]; exact hl.1.symm) hown (ht _ k_187) (ht _ k_188) (ht _ k_7) (ht _ k_189) (Nat.le_of_ble_eq_true rfl) (Nat.le_of_ble_eq_true rfl) (Nat.zero_le _) (Nat.zero_le _) (min (hiE i - 1) en) (by omega) rfl d_CS_gatherCategories_46 ?_
          have hB_49 : (LOf i) ≤ min (min (hiE i - 1) en) la → (LOf i) ∈ Bs ∧ min (min (hiE i - 1) en) la + 1 ∈ Bs := hPB i (by omega)
          have hF_49 : ∀ x9, va_A (cw g q u la NX (va_up n 8 m2) (va_up es 8 e2)) H.size x9 → A x9 := fun x9 h9 => h9.elim (fun ⟨j9, e9, hj9⟩ => hD.2 j9 _ hj9) (fun h9 => hA x9 (Nat.le_trans hS.1 h9))
          refine zcVv (ci := 0) (q0 := 0) (As := [.int (iI (LOf i)), .int (iI (min (hiE i - 1) en))]) (rest := []) ⟨hx, hb, hml, hown, ht⟩ v_CS_135 (c_CS_gather l g H.size q u la NX n es m2 e2 (LOf i) (min (hiE i - 1) en) Bs hBl hg2 hla (by omega) (by omega) hB_49) ⟨Nat.le_of_ble_eq_true rfl, Nat.le_of_ble_eq_true rfl⟩ ⟨Nat.zero_le _, Nat.zero_le _⟩ hK hZ hS hP (hD.weaken (fun _ _ _ _ => trivial)) hF_49 zP_nil zAp_nil rfl rfl rfl rfl hl.1 rfl (Nat.le_of_ble_eq_true rfl) d_CS_gatherCategories_49 (fun w_49 H locs h_49 pp_49 dd_49 zz_49 kk_49 hS => ?_)
          obtain ⟨e49, m49, hGI49, rfl⟩ := h_49
          have hP : va_P g.1 classes (cw g q u la NX (va_up n 8 m49) (va_up es 8 e49)) H := pp_49
          have hD : va_D A (cw g q u la NX (va_up n 8 m49) (va_up es 8 e49)) := dd_49.weaken (fun _ _ _ h9 => hF_49 _ h9)
          have hg49 := gok_GI hla (by omega) hg2 hGI49 hB_49
          refine lv_iinc (v := iI ((((i : Nat) : Int)) + 1)) (lv' := [(3, .int (iI ((((i : Nat) : Int)) + 1))), (0, .ref (q 0)), (1, .int (iI (((Mc : Nat) : Int)))), (2, .int (iI en))]) hx hb d_CS_gatherCategories_52 hl (k := 3) rfl (iI_add _ _) (by decide) rfl (fun ls hl => ?_)
          refine lv_goto (tgt := 2) hx hb d_CS_gatherCategories_55 (by decide) ?_
          exact ih (i + 1) m49 e49 _ _ ls (by omega) (lv_sub hl [1, 2, 3, 0] rfl) (by omega) (by unfold rlC; rw [if_pos hb9]; exact ⟨e2, m2, hG, hGI49⟩) (by exact hg49) hP hD hS
  refine lv_iconst (v := iI 0) hx hb d_CS_gatherCategories_0 rfl ?_
  refine lv_istore_n (lv' := [(3, .int (iI 0)), (0, .ref (q 0)), (1, .int (iI (((Mc : Nat) : Int)))), (2, .int (iI en))]) hx hb d_CS_gatherCategories_1 rfl hl (by decide) rfl (fun ls hl => ?_)
  exact J2 (_ + 1) 0 mg eg _ _ ls (Nat.lt_succ_self _) (lv_sub hl [1, 2, 3, 0] rfl) (by omega) (by exact ⟨rfl, rfl⟩) (by exact hgo) hP hD hS
set_option maxHeartbeats 4000000 in
set_option maxRecDepth 100000 in
theorem c_CS_gatherList (l : Launch) (g : zG) (sz : Nat) (q : Nat → Nat) (u la : Int) (NX : Nat → Int) (n : Nat → Nat) (es : Nat → Nat → Int) (mg : Nat) (eg : Nat → Int) (k : Nat) (Bs : List Int) (hBl : Bs.length ≤ 2046) (hgo : gok Bs eg mg) (hla : 0 ≤ la ∧ la ≤ 1114111) (hk22 : k < 22) (hlen : (stE k).length ≤ 400) (hel : ∀ j, j < (stE k).length → 0 ≤ (stE k).getD j 0 ∧ (stE k).getD j 0 ≤ 1114111) (hPB : ∀ i, 2 * i + 1 < (stE k).length → (stE k).getD (2 * i) 0 ≤ min ((stE k).getD (2 * i + 1) 0) la → (stE k).getD (2 * i) 0 ∈ Bs ∧ min ((stE k).getD (2 * i + 1) 0) la + 1 ∈ Bs) : Met l y_CS_gatherList w_CS_gatherList { frames := 3, cells := 0, slots := 0, locals := 75 } (zPw g [.ref (q 0), .ref (g.2.2 k)] (cw g q u la NX (va_up n 8 mg) (va_up es 8 eg)) [] sz) (va_Qv (fun w => ∃ (e2 : Nat → Int) (n2 : Nat), GG la eg mg (rlL (stE k) ((stE k).length / 2)) e2 n2 ∧ gok Bs e2 n2 ∧ w = cw g q u la NX (va_up n 8 n2) (va_up es 8 e2)) (zB g (va_A (cw g q u la NX (va_up n 8 mg) (va_up es 8 eg)) sz)) (va_A (cw g q u la NX (va_up n 8 mg) (va_up es 8 eg)) sz)) 0 0 (va_A (cw g q u la NX (va_up n 8 mg) (va_up es 8 eg)) sz) := by
  refine Met.ofW (cc := b_CS_gatherList) (maxL := 3) (ret := none) (by decide) rfl ?_
  intro p e s m args below meth cd s₁ B hml hv
  obtain ⟨hargs, hsz, hP, hK, hD0, hZ, hO0, hAp⟩ := hv
  have hx := B.exec
  have hb := B.bytes
  have hr := B.returns
  have ht : ∀ w ∈ lw_ok, w.before args s = true := fun w h => atoms_spec (ws := w_CS_gatherList) B.pre w (List.mem_cons_of_mem _ h)
  have hown : s.vm.findClass R_CS = some m.cls := findClass_of_methodNamed B.named
  have hlocks := B.notSynchronized
  subst hsz
  have hD := hD0.self (sz := s.heap.size)
  generalize hAe : va_A (cw g q u la NX (va_up n 8 mg) (va_up es 8 eg)) s.heap.size = A at hD hZ hAp ⊢
  have hA : ∀ q : Nat, s.heap.size ≤ q → A q := fun q h => by rw [← hAe]; exact Or.inr h
  have hS : va_S A s.heap s.heap [] := va_S.rf
  generalize hQ : MQ below _ args s 0 0 _ = Q
  have hl := lv_entry ([.ref (q 0), .ref (g.2.2 k)]) (n := 3) (Nat.le_of_ble_eq_true rfl)
  rw [show entryFrame m args 3 = entryFrame m ([.ref (q 0), .ref (g.2.2 k)] : List Value).toArray 3 by rw [hargs], lg_entry_eq]
  generalize (lg_sl ([.ref (q 0), .ref (g.2.2 k)]) ++ List.replicate (3 - (lg_sl ([.ref (q 0), .ref (g.2.2 k)])).length) Slot.unset).toArray = ls at hl ⊢
  have hl : lv_has ls 3 [(0, .ref (q 0)), (1, .ref (g.2.2 k))] := hl
  obtain ⟨H, locs, hHe, hLe⟩ : ∃ (H : Heap) (locs : List Loc), H = s.heap ∧ locs = [] := ⟨_, _, rfl, rfl⟩
  rw [show W p l e _ s m args below meth cd s.heap [] 0 0 Q = W p l e _ s m args below meth cd H locs 0 0 Q by rw [hHe, hLe]]
  rw [← hHe] at hP
  have hS : va_S A s.heap H locs := by rw [hHe, hLe]; exact hS
  have J2 : ∀ fu : Nat, ∀ (i m2 : Nat) (e2 : Nat → Int) (H : Heap) (locs : List Loc) (ls : Array Slot), (stE k).length - 2 * i < fu → lv_has ls 3 [(0, .ref (q 0)), (1, .ref (g.2.2 k)), (2, .int (iI (((2 * i : Nat) : Int))))] → (2 * i ≤ (stE k).length) → (GG la eg mg (rlL (stE k) i) e2 m2) → (gok Bs e2 m2) → va_P g.1 classes (cw g q u la NX (va_up n 8 m2) (va_up es 8 e2)) H → va_D A (cw g q u la NX (va_up n 8 m2) (va_up es 8 e2)) → va_S A s.heap H locs → W p l e (headSpec w_CS_gatherList { frames := 3, cells := 0, slots := 0, locals := 75 }).room s m args below meth cd H locs 0 0 Q (F0 m 2 ls []) := by
    intro fu
    induction fu with
    | zero => exact fun _ _ _ _ _ _ hfu _ _ _ _ _ _ _ => absurd hfu (Nat.not_lt_zero _)
    | succ fu ih =>
      intro i m2 e2 H locs ls hfu hl h1 hG hg2 hP hD hS
      refine lv_iload_n hx hb d_CS_gatherList_2 rfl (lv_at hl 2 rfl) ?_
      refine lv_iconst (v := iI 1) hx hb d_CS_gatherList_3 rfl ?_
      refine ix_iadd hx hb d_CS_gatherList_4 ?_
      refine lv_aload_n hx hb d_CS_gatherList_5 rfl (lv_at hl 1 rfl) ?_
      refine ix_tlen hx hb hZ k hk22 hS (((stE k).length : Nat) : Int) rfl d_CS_gatherList_6 ?_
      refine ix_icmp_ge (tgt := 28) hx hb d_CS_gatherList_7 (by decide) (by omega) (fun c_7 => ?_) (fun c_7 => ?_)
      · have e9 : i = (stE k).length / 2 := by omega
        rw [e9] at hG
        subst hQ
        exact W.vret hx hb hr (fun t h9 hW => ⟨⟨_, rfl, ⟨e2, m2, hG, hg2, rfl⟩, by rw [h9]; exact hP, va_K.moved hW.alike hK, hD⟩, hS.F h9⟩) hS.2.2 d_CS_gatherList_28
      · refine lv_aload_n hx hb d_CS_gatherList_10 rfl (lv_at hl 0 rfl) ?_
        refine lv_aload_n hx hb d_CS_gatherList_11 rfl (lv_at hl 1 rfl) ?_
        refine lv_iload_n hx hb d_CS_gatherList_12 rfl (lv_at hl 2 rfl) ?_
        refine ix_tald hx hb hZ k hk22 hS (z := (((2 * i : Nat) : Int))) (2 * i) (by omega) d_CS_gatherList_13 ?_
        have f9_13 := hel (2 * i) (by omega)
        refine lv_aload_n hx hb d_CS_gatherList_14 rfl (lv_at hl 1 rfl) ?_
        refine lv_iload_n hx hb d_CS_gatherList_15 rfl (lv_at hl 2 rfl) ?_
        refine lv_iconst (v := iI 1) hx hb d_CS_gatherList_16 rfl ?_
        refine ix_iadd hx hb d_CS_gatherList_17 ?_
        refine ix_tald hx hb hZ k hk22 hS (z := ((((2 * i : Nat) : Int)) + 1)) ((2 * i) + 1) (by omega) d_CS_gatherList_18 ?_
        have f9_18 := hel ((2 * i) + 1) (by omega)
        have hB_19 : ((stE k).getD (2 * i) 0) ≤ min ((stE k).getD ((2 * i) + 1) 0) la → ((stE k).getD (2 * i) 0) ∈ Bs ∧ min ((stE k).getD ((2 * i) + 1) 0) la + 1 ∈ Bs := hPB i (by omega)
        have hF_19 : ∀ x9, va_A (cw g q u la NX (va_up n 8 m2) (va_up es 8 e2)) H.size x9 → A x9 := fun x9 h9 => h9.elim (fun ⟨j9, e9, hj9⟩ => hD.2 j9 _ hj9) (fun h9 => hA x9 (Nat.le_trans hS.1 h9))
        refine zcVv (ci := 0) (q0 := 0) (As := [.int (iI ((stE k).getD (2 * i) 0)), .int (iI ((stE k).getD ((2 * i) + 1) 0))]) (rest := []) ⟨hx, hb, hml, hown, ht⟩ v_CS_135 (c_CS_gather l g H.size q u la NX n es m2 e2 ((stE k).getD (2 * i) 0) ((stE k).getD ((2 * i) + 1) 0) Bs hBl hg2 hla (by omega) (by omega) hB_19) ⟨Nat.le_of_ble_eq_true rfl, Nat.le_of_ble_eq_true rfl⟩ ⟨Nat.zero_le _, Nat.zero_le _⟩ hK hZ hS hP (hD.weaken (fun _ _ _ _ => trivial)) hF_19 zP_nil zAp_nil rfl rfl rfl rfl hl.1 rfl (Nat.le_of_ble_eq_true rfl) d_CS_gatherList_19 (fun w_19 H locs h_19 pp_19 dd_19 zz_19 kk_19 hS => ?_)
        obtain ⟨e19, m19, hGI19, rfl⟩ := h_19
        have hP : va_P g.1 classes (cw g q u la NX (va_up n 8 m19) (va_up es 8 e19)) H := pp_19
        have hD : va_D A (cw g q u la NX (va_up n 8 m19) (va_up es 8 e19)) := dd_19.weaken (fun _ _ _ h9 => hF_19 _ h9)
        have hg19 := gok_GI hla (by omega) hg2 hGI19 hB_19
        refine lv_iinc (v := iI ((((2 * i : Nat) : Int)) + 2)) (lv' := [(2, .int (iI ((((2 * i : Nat) : Int)) + 2))), (0, .ref (q 0)), (1, .ref (g.2.2 k))]) hx hb d_CS_gatherList_22 hl (k := 2) rfl (iI_add _ _) (by decide) rfl (fun ls hl => ?_)
        refine lv_goto (tgt := 2) hx hb d_CS_gatherList_25 (by decide) ?_
        exact ih (i + 1) m19 e19 _ _ ls (by omega) (lv_sub hl [1, 2, 0] rfl) (by omega) (by exact ⟨e2, m2, hG, hGI19⟩) (by exact hg19) hP hD hS
  refine lv_iconst (v := iI 0) hx hb d_CS_gatherList_0 rfl ?_
  refine lv_istore_n (lv' := [(2, .int (iI 0)), (0, .ref (q 0)), (1, .ref (g.2.2 k))]) hx hb d_CS_gatherList_1 rfl hl (by decide) rfl (fun ls hl => ?_)
  exact J2 (_ + 1) 0 mg eg _ _ ls (Nat.lt_succ_self _) (lv_sub hl [1, 2, 0] rfl) (by omega) (by exact ⟨rfl, rfl⟩) (by exact hgo) hP hD hS
