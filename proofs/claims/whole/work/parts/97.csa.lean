set_option maxHeartbeats 4000000 in
set_option maxRecDepth 100000 in
theorem c_CS_addGathered (l : Launch) (g : zG) (sz : Nat) (q : Nat → Nat) (u la : Int) (NX : Nat → Int) (n : Nat → Nat) (es : Nat → Nat → Int) (mg : Nat) (eg : Nat → Int) (nt : Int) (Bs : List Int) (hBl : Bs.length ≤ 2046) (hgo : gok Bs eg mg) (hla : 0 ≤ la ∧ la ≤ 1114111) (sn : Nat) (hsn8 : sn < 8) (has : asc (es sn) (n sn)) (hbs : ∀ i, i < n sn → 0 ≤ es sn i ∧ es sn i ≤ 1114112) (hBsn : ∀ i, i < n sn → es sn i ∈ Bs) (hev : mg % 2 = 0) (hle : ∀ i, i < mg → eg i ≤ la + 1) (h0B : 0 ∈ Bs) (hlB : la + 1 ∈ Bs) (hnt : nt = 0 ∨ nt = 1) : Met l y_CS_addGathered w_CS_addGathered { frames := 3, cells := 0, slots := 0, locals := 74 } (zPw g [.ref (q 0), .ref (q (8 + 2 * sn)), .int (iI nt)] (cw g q u la NX (va_up n 8 mg) (va_up es 8 eg)) [] sz) (va_Qi (fun z w => ∃ (e2 : Nat → Int) (n2 : Nat) (e3 : Nat → Int) (n3 : Nat), ((nt = 0 ∧ e2 = eg ∧ n2 = mg) ∨ (¬ nt = 0 ∧ Cmp la eg mg e2 n2)) ∧ IA (es sn) (n sn) e2 (n2 / 2) e3 n3 ∧ z = iI ((n3 / 2 : Nat) : Int) ∧ w = cw g q u la NX (va_up (va_up n 8 n2) sn n3) (va_up (va_up es 8 e2) sn e3)) (zB g (va_A (cw g q u la NX (va_up n 8 mg) (va_up es 8 eg)) sz)) (va_A (cw g q u la NX (va_up n 8 mg) (va_up es 8 eg)) sz)) 0 0 (va_A (cw g q u la NX (va_up n 8 mg) (va_up es 8 eg)) sz) := by
  refine Met.ofW (cc := b_CS_addGathered) (maxL := 3) (ret := (some .int)) (by decide) rfl ?_
  intro p e s m args below meth cd s₁ B hml hv
  obtain ⟨hargs, hsz, hP, hK, hD0, hZ, hO0, hAp⟩ := hv
  have hx := B.exec
  have hb := B.bytes
  have hr := B.returns
  have ht : ∀ w ∈ lw_ok, w.before args s = true := fun w h => atoms_spec (ws := w_CS_addGathered) B.pre w (List.mem_cons_of_mem _ h)
  have hown : s.vm.findClass R_CS = some m.cls := findClass_of_methodNamed B.named
  have hlocks := B.notSynchronized
  subst hsz
  have hD := hD0.self (sz := s.heap.size)
  generalize hAe : va_A (cw g q u la NX (va_up n 8 mg) (va_up es 8 eg)) s.heap.size = A at hD hZ hAp ⊢
  have hA : ∀ q : Nat, s.heap.size ≤ q → A q := fun q h => by rw [← hAe]; exact Or.inr h
  have hS : va_S A s.heap s.heap [] := va_S.rf
  generalize hQ : MQ below _ args s 0 0 _ = Q
  have hl := lv_entry ([.ref (q 0), .ref (q (8 + 2 * sn)), .int (iI nt)]) (n := 3) (Nat.le_of_ble_eq_true rfl)
  rw [show entryFrame m args 3 = entryFrame m ([.ref (q 0), .ref (q (8 + 2 * sn)), .int (iI nt)] : List Value).toArray 3 by rw [hargs], lg_entry_eq]
  generalize (lg_sl ([.ref (q 0), .ref (q (8 + 2 * sn)), .int (iI nt)]) ++ List.replicate (3 - (lg_sl ([.ref (q 0), .ref (q (8 + 2 * sn)), .int (iI nt)])).length) Slot.unset).toArray = ls at hl ⊢
  have hl : lv_has ls 3 [(0, .ref (q 0)), (1, .ref (q (8 + 2 * sn))), (2, .int (iI nt))] := hl
  obtain ⟨H, locs, hHe, hLe⟩ : ∃ (H : Heap) (locs : List Loc), H = s.heap ∧ locs = [] := ⟨_, _, rfl, rfl⟩
  rw [show W p l e _ s m args below meth cd s.heap [] 0 0 Q = W p l e _ s m args below meth cd H locs 0 0 Q by rw [hHe, hLe]]
  rw [← hHe] at hP
  have hS : va_S A s.heap H locs := by rw [hHe, hLe]; exact hS
  have hml9 := gok_len hgo
  have hnl9 := asc_len has Bs hBsn
  obtain ⟨last, hlast⟩ : ∃ last : Nat, la = ((last : Nat) : Int) := ⟨la.toNat, by omega⟩
  refine lv_iload_n hx hb d_CS_addGathered_0 rfl (lv_at hl 2 rfl) ?_
  refine ix_if_eq (tgt := 15) hx hb d_CS_addGathered_1 (by decide) (by omega) (fun c_1 => ?_) (fun c_1 => ?_)
  · refine lv_aload_n hx hb d_CS_addGathered_15 rfl (lv_at hl 1 rfl) ?_
    refine lv_aload_n hx hb d_CS_addGathered_16 rfl (lv_at hl 0 rfl) ?_
    refine va_get (D := g.1) (ci := 0) (v := .ref (q 24)) (C := R_CS) (T := F_CS) (N := 6) hx hb ht i_CS hown hK hP 0 rfl rfl 5 (by decide) (ht _ k_106) (fun _ h9 => h9) rfl d_CS_addGathered_17 ?_
    have hF_20 := cw_prFS hD hS hA hsn8
    refine zcVv (ci := 1) (q0 := 0) (As := [.ref (q 24)]) (rest := []) ⟨hx, hb, hml, hown, ht⟩ v_CS_85 (c_RG_insertAll l g H.size (q (8 + 2 * sn)) (q (9 + 2 * sn)) (n sn) (es sn) (q 24) (q 25) mg eg has (by omega) hbs hgo.1 (by omega) hgo.2.1 Bs hBsn hgo.2.2 (by omega)) ⟨Nat.le_of_ble_eq_true rfl, Nat.le_of_ble_eq_true rfl⟩ ⟨Nat.zero_le _, Nat.zero_le _⟩ hK hZ hS (cw_prS hP hsn8) ((cw_prDS hD hsn8).weaken (fun _ _ _ _ => trivial)) hF_20 (cw_pr8 hP) (cw_apS hP hD hsn8) rfl rfl rfl rfl hl.1 rfl (Nat.le_of_ble_eq_true rfl) d_CS_addGathered_20 (fun w_20 H locs h_20 pp_20 dd_20 zz_20 kk_20 hS => ?_)
    obtain ⟨e3, n3, rfl, hIA⟩ := h_20
    have hL3 := IA_len hIA Bs has hBsn hgo.2.2 (by omega)
    obtain ⟨hP, hD⟩ := cw_putS hP hD hsn8 (n1 := n3) (e1 := e3) kk_20 hF_20 pp_20 dd_20
    obtain ⟨n20, hn20⟩ : ∃ f9, f9 = va_up (va_up n 8 mg) sn n3 := ⟨_, rfl⟩
    obtain ⟨e20, he20⟩ : ∃ f9, f9 = va_up (va_up es 8 eg) sn e3 := ⟨_, rfl⟩
    rw [← hn20, ← he20] at hP hD
    have n20k : n20 sn = n3 := by rw [hn20]; exact up_same _ _ _
    refine lv_aload_n hx hb d_CS_addGathered_23 rfl (lv_at hl 1 rfl) ?_
    refine zcV (ci := 1) (q0 := 0) (As := []) (rest := []) ⟨hx, hb, hml, hown, ht⟩ v_CS_59 (c_RG_rangeCount l g (q (8 + 2 * sn)) (q (9 + 2 * sn)) (n20 sn) (e20 sn) (by rw [n20k]; omega)) ⟨Nat.le_of_ble_eq_true rfl, Nat.le_of_ble_eq_true rfl⟩ ⟨Nat.zero_le _, Nat.zero_le _⟩ hK hZ hS (cw_pr hP (k := sn) (by omega)) rfl rfl rfl rfl hl.1 rfl (Nat.le_of_ble_eq_true rfl) d_CS_addGathered_24 (fun r_24 h_24 => ?_)
    subst h_24
    subst hQ
    exact W.iret (v := iI ((((n20 sn / 2) : Nat) : Int))) hx hb hr (fun t h9 hW => ⟨⟨_, _, rfl, ⟨eg, mg, e3, n3, Or.inl ⟨by omega, rfl, rfl⟩, hIA, by rw [n20k], by rw [hn20, he20]⟩, by rw [h9]; exact hP, va_K.moved hW.alike hK, hD⟩, hS.F h9⟩) hS.2.2 d_CS_addGathered_27
  · refine lv_aload_n hx hb d_CS_addGathered_4 rfl (lv_at hl 0 rfl) ?_
    refine va_get (D := g.1) (ci := 0) (v := .ref (q 24)) (C := R_CS) (T := F_CS) (N := 6) hx hb ht i_CS hown hK hP 0 rfl rfl 5 (by decide) (ht _ k_106) (fun _ h9 => h9) rfl d_CS_addGathered_5 ?_
    refine lv_aload_n hx hb d_CS_addGathered_8 rfl (lv_at hl 0 rfl) ?_
    refine va_get (D := g.1) (ci := 0) (v := .int (iI la)) (C := R_CS) (T := F_CS) (N := 6) hx hb ht i_CS hown hK hP 0 rfl rfl 1 (by decide) (ht _ k_102) (fun _ h9 => h9) rfl d_CS_addGathered_9 ?_
    have hla9 : iI la = iI ((last : Nat) : Int) := by rw [hlast]
    rw [hla9]
    have hF_12 := cw_prF8 hD hS hA
    refine zcVv (ci := 1) (q0 := 0) (As := [.int (iI (((last : Nat) : Int)))]) (rest := []) ⟨hx, hb, hml, hown, ht⟩ v_CS_82 (c_RG_complement l g H.size (q 24) (q 25) mg eg hgo.1 (by omega) hgo.2.1 last (by omega) (by omega)) ⟨Nat.le_of_ble_eq_true rfl, Nat.le_of_ble_eq_true rfl⟩ ⟨Nat.zero_le _, Nat.zero_le _⟩ hK hZ hS (cw_pr8 hP) ((cw_prD8 hD).weaken (fun _ _ _ _ => trivial)) hF_12 zP_nil zAp_nil rfl rfl rfl rfl hl.1 rfl (Nat.le_of_ble_eq_true rfl) d_CS_addGathered_12 (fun w_12 H locs h_12 pp_12 dd_12 zz_12 kk_12 hS => ?_)
    obtain ⟨e2, n2, rfl, hCm⟩ := h_12
    obtain ⟨hP, hD⟩ := cw_put8 hP hD (n1 := n2) (e1 := e2) kk_12 hF_12 pp_12 dd_12
    obtain ⟨hgc, -, -⟩ := Cmp_gok hCm hgo (fun i hi => by have := hle i hi; omega) hev (by omega) h0B (by rw [← hlast]; exact hlB)
    have hml8 := gok_len hgc
    refine lv_aload_n hx hb d_CS_addGathered_15 rfl (lv_at hl 1 rfl) ?_
    refine lv_aload_n hx hb d_CS_addGathered_16 rfl (lv_at hl 0 rfl) ?_
    refine va_get (D := g.1) (ci := 0) (v := .ref (q 24)) (C := R_CS) (T := F_CS) (N := 6) hx hb ht i_CS hown hK hP 0 rfl rfl 5 (by decide) (ht _ k_106) (fun _ h9 => h9) rfl d_CS_addGathered_17 ?_
    have hF_20 := cw_prFS hD hS hA hsn8
    refine zcVv (ci := 1) (q0 := 0) (As := [.ref (q 24)]) (rest := []) ⟨hx, hb, hml, hown, ht⟩ v_CS_85 (c_RG_insertAll l g H.size (q (8 + 2 * sn)) (q (9 + 2 * sn)) (n sn) (es sn) (q 24) (q 25) n2 e2 has (by omega) hbs hgc.1 (by omega) hgc.2.1 Bs hBsn hgc.2.2 (by omega)) ⟨Nat.le_of_ble_eq_true rfl, Nat.le_of_ble_eq_true rfl⟩ ⟨Nat.zero_le _, Nat.zero_le _⟩ hK hZ hS (cw_prS hP hsn8) ((cw_prDS hD hsn8).weaken (fun _ _ _ _ => trivial)) hF_20 (cw_pr8 hP) (cw_apS hP hD hsn8) rfl rfl rfl rfl hl.1 rfl (Nat.le_of_ble_eq_true rfl) d_CS_addGathered_20 (fun w_20 H locs h_20 pp_20 dd_20 zz_20 kk_20 hS => ?_)
    obtain ⟨e3, n3, rfl, hIA⟩ := h_20
    have hL3 := IA_len hIA Bs has hBsn hgc.2.2 (by omega)
    obtain ⟨hP, hD⟩ := cw_putS hP hD hsn8 (n1 := n3) (e1 := e3) kk_20 hF_20 pp_20 dd_20
    obtain ⟨n20, hn20⟩ : ∃ f9, f9 = va_up (va_up n 8 n2) sn n3 := ⟨_, rfl⟩
    obtain ⟨e20, he20⟩ : ∃ f9, f9 = va_up (va_up es 8 e2) sn e3 := ⟨_, rfl⟩
    rw [← hn20, ← he20] at hP hD
    have n20k : n20 sn = n3 := by rw [hn20]; exact up_same _ _ _
    refine lv_aload_n hx hb d_CS_addGathered_23 rfl (lv_at hl 1 rfl) ?_
    refine zcV (ci := 1) (q0 := 0) (As := []) (rest := []) ⟨hx, hb, hml, hown, ht⟩ v_CS_59 (c_RG_rangeCount l g (q (8 + 2 * sn)) (q (9 + 2 * sn)) (n20 sn) (e20 sn) (by rw [n20k]; omega)) ⟨Nat.le_of_ble_eq_true rfl, Nat.le_of_ble_eq_true rfl⟩ ⟨Nat.zero_le _, Nat.zero_le _⟩ hK hZ hS (cw_pr hP (k := sn) (by omega)) rfl rfl rfl rfl hl.1 rfl (Nat.le_of_ble_eq_true rfl) d_CS_addGathered_24 (fun r_24 h_24 => ?_)
    subst h_24
    subst hQ
    exact W.iret (v := iI ((((n20 sn / 2) : Nat) : Int))) hx hb hr (fun t h9 hW => ⟨⟨_, _, rfl, ⟨e2, n2, e3, n3, Or.inr ⟨by omega, by rw [hlast]; exact hCm⟩, hIA, by rw [n20k], by rw [hn20, he20]⟩, by rw [h9]; exact hP, va_K.moved hW.alike hK, hD⟩, hS.F h9⟩) hS.2.2 d_CS_addGathered_27
