set_option maxHeartbeats 4000000 in
set_option maxRecDepth 100000 in
theorem c_CS_close (l : Launch) (g : zG) (sz : Nat) (q : Nat → Nat) (u la : Int) (NX : Nat → Int) (n : Nat → Nat) (es : Nat → Nat → Int) (s9 : Int) (hs9 : -2147483648 ≤ s9 ∧ s9 ≤ 2147483647) (hok : ∀ k, k < 9 → asc (es k) (n k) ∧ n k ≤ 2046 ∧ ∀ i, i < n k → 0 ≤ es k i ∧ es k i ≤ 1114112) (Bs : List Int) (hBl : Bs.length ≤ 2046) (hBs : ∀ k, k < 9 → ∀ i, i < n k → es k i ∈ Bs) (hNX : ∀ j, j < 1122 → 0 ≤ NX j ∧ NX j ≤ 1114111) (hBK : ∀ i, i < 1122 → ¬ nxF NX (chA i) = chA i → chA i ∈ Bs ∧ chA i + 1 ∈ Bs)  : Met l y_CS_close w_CS_close { frames := 3, cells := 0, slots := 0, locals := 68 } (zPw g [.ref (q 0), .int (iI s9)] (cw g q u la NX n es) [] sz) (va_Qi (fun z w => ((¬ (0 ≤ s9 ∧ s9 ≤ 7)) ∧ z = iI (-2) ∧ w = cw g q u la NX n es) ∨ (¬ (¬ (0 ≤ s9 ∧ s9 ≤ 7)) ∧ ∃ (e2 : Nat → Int) (m2 k9 : Nat), CC NX (es s9.toNat) (n s9.toNat) 1122 e2 m2 k9 ∧ gok Bs e2 m2 ∧ z = iI ((k9 : Nat) : Int) ∧ w = cw g q u la NX (va_up n s9.toNat m2) (va_up es s9.toNat e2))) (zB g (va_A (cw g q u la NX n es) sz)) (va_A (cw g q u la NX n es) sz)) 0 0 (va_A (cw g q u la NX n es) sz) := by
  refine Met.ofW (cc := b_CS_close) (maxL := 5) (ret := (some .int)) (by decide) rfl ?_
  intro p e s m args below meth cd s₁ B hml hv
  obtain ⟨hargs, hsz, hP, hK, hD0, hZ, hO0, hAp⟩ := hv
  have hx := B.exec
  have hb := B.bytes
  have hr := B.returns
  have ht : ∀ w ∈ lw_ok, w.before args s = true := fun w h => atoms_spec (ws := w_CS_close) B.pre w (List.mem_cons_of_mem _ h)
  have hown : s.vm.findClass R_CS = some m.cls := findClass_of_methodNamed B.named
  have hlocks := B.notSynchronized
  subst hsz
  have hD := hD0.self (sz := s.heap.size)
  generalize hAe : va_A (cw g q u la NX n es) s.heap.size = A at hD hZ hAp ⊢
  have hA : ∀ q : Nat, s.heap.size ≤ q → A q := fun q h => by rw [← hAe]; exact Or.inr h
  have hS : va_S A s.heap s.heap [] := va_S.rf
  generalize hQ : MQ below _ args s 0 0 _ = Q
  have hl := lv_entry ([.ref (q 0), .int (iI s9)]) (n := 5) (Nat.le_of_ble_eq_true rfl)
  rw [show entryFrame m args 5 = entryFrame m ([.ref (q 0), .int (iI s9)] : List Value).toArray 5 by rw [hargs], lg_entry_eq]
  generalize (lg_sl ([.ref (q 0), .int (iI s9)]) ++ List.replicate (5 - (lg_sl ([.ref (q 0), .int (iI s9)])).length) Slot.unset).toArray = ls at hl ⊢
  have hl : lv_has ls 5 [(0, .ref (q 0)), (1, .int (iI s9))] := hl
  obtain ⟨H, locs, hHe, hLe⟩ : ∃ (H : Heap) (locs : List Loc), H = s.heap ∧ locs = [] := ⟨_, _, rfl, rfl⟩
  rw [show W p l e _ s m args below meth cd s.heap [] 0 0 Q = W p l e _ s m args below meth cd H locs 0 0 Q by rw [hHe, hLe]]
  rw [← hHe] at hP
  have hS : va_S A s.heap H locs := by rw [hHe, hLe]; exact hS
  have J14 : ∀ fu : Nat, ∀ (sn i k9 m2 : Nat) (e2 : Nat → Int) (n2 : Nat → Nat) (es2 : Nat → Nat → Int) (H : Heap) (locs : List Loc) (ls : Array Slot), 1122 - i < fu → lv_has ls 5 [(0, .ref (q 0)), (1, .int (iI (((sn : Nat) : Int)))), (2, .int (iI (((k9 : Nat) : Int)))), (3, .int (iI (((i : Nat) : Int))))] → (s9 = ((sn : Nat) : Int)) → (sn < 8) → (i ≤ 1122) → (k9 ≤ i) → (CC NX (es sn) (n sn) i e2 m2 k9) → (gok Bs e2 m2) → (n2 = va_up n sn m2) → (es2 = va_up es sn e2) → va_P g.1 classes (cw g q u la NX n2 es2) H → va_D A (cw g q u la NX n2 es2) → va_S A s.heap H locs → W p l e (headSpec w_CS_close { frames := 3, cells := 0, slots := 0, locals := 68 }).room s m args below meth cd H locs 0 0 Q (F0 m 14 ls []) := by
    intro fu
    induction fu with
    | zero => exact fun _ _ _ _ _ _ _ _ _ _ hfu _ _ _ _ _ _ _ _ _ _ _ _ => absurd hfu (Nat.not_lt_zero _)
    | succ fu ih =>
      intro sn i k9 m2 e2 n2 es2 H locs ls hfu hl hs9n hsn8 h1 hk9 hCC hg2 hn2 he2 hP hD hS
      have hnk : n2 sn = m2 := by rw [hn2]; exact up_same _ _ _
      have hek : es2 sn = e2 := by rw [he2]; exact up_same _ _ _
      have hml2 := gok_len hg2
      refine lv_iload_n hx hb d_CS_close_14 rfl (lv_at hl 3 rfl) ?_
      refine lv_sipush (v := iI 1122) hx hb d_CS_close_15 (by decide) ?_
      refine ix_icmp_ge (tgt := 64) hx hb d_CS_close_18 (by decide) (by omega) (fun c_18 => ?_) (fun c_18 => ?_)
      · have hi9 : i = 1122 := by omega
        rw [hi9] at hCC
        refine lv_iload_n hx hb d_CS_close_64 rfl (lv_at hl 2 rfl) ?_
        subst hQ
        exact W.iret (v := iI (((k9 : Nat) : Int))) hx hb hr (fun t h9 hW => ⟨⟨_, _, rfl, Or.inr ⟨by omega, e2, m2, k9, by rw [show s9.toNat = sn by omega]; exact hCC, hg2, rfl, by rw [show s9.toNat = sn by omega, hn2, he2]⟩, by rw [h9]; exact hP, va_K.moved hW.alike hK, hD⟩, hS.F h9⟩) hS.2.2 d_CS_close_65
      · refine lv_iload_n hx hb d_CS_close_21 rfl (lv_at hl 3 rfl) ?_
        refine zcS (As := [.int (iI (((i : Nat) : Int)))]) (rest := []) ⟨hx, hb, hml, hown, ht⟩ t_CS_74 (c_CR_characterAt l g i (by omega)) ⟨Nat.le_of_ble_eq_true rfl, Nat.le_of_ble_eq_true rfl⟩ ⟨Nat.zero_le _, Nat.zero_le _⟩ hK hZ hS zP_nil rfl hl.1 rfl (Nat.le_of_ble_eq_true rfl) d_CS_close_22 (fun r_22 h_22 => ?_)
        subst h_22
        have hca := chA_bd (i := i) (by omega)
        refine lv_istore (lv' := [(4, .int (iI (chA i))), (0, .ref (q 0)), (1, .int (iI (((sn : Nat) : Int)))), (2, .int (iI (((k9 : Nat) : Int)))), (3, .int (iI (((i : Nat) : Int))))]) hx hb d_CS_close_25 hl (by decide) rfl (fun ls hl => ?_)
        refine lv_aload_n hx hb d_CS_close_27 rfl (lv_at hl 1 rfl) ?_
        refine lv_aload_n hx hb d_CS_close_28 rfl (lv_at hl 1 rfl) ?_
        refine va_get (D := g.1) (ci := 0) (v := .ref (q 7)) (C := R_CS) (T := F_CS) (N := 6) hx hb ht i_CS hown hK hP 0 rfl rfl 4 (by decide) (ht _ k_105) (fun _ h9 => h9) rfl d_CS_close_29 ?_
        refine lv_iload_n hx hb d_CS_close_32 rfl (lv_at hl 2 rfl) ?_
        refine ix_aald hx hb hK hP 7 3 rfl rfl (i := (((sn : Nat) : Int))) (q (8 + 2 * sn)) sn (by omega) rfl d_CS_close_33 ?_
        refine lv_iload hx hb d_CS_close_34 (lv_at hl 0 rfl) ?_
        refine zcV (ci := 0) (q0 := 0) (As := [.ref (q (8 + 2 * sn)), .int (iI (chA i))]) (rest := []) ⟨hx, hb, hml, hown, ht⟩ v_CS_78 (c_CS_isMissing l g q u la NX n2 es2 sn (chA i) hsn8 (by omega) hNX (by rw [hn2, he2]; exact hok_up hok hg2 hBl)) ⟨Nat.le_of_ble_eq_true rfl, Nat.le_of_ble_eq_true rfl⟩ ⟨Nat.zero_le _, Nat.zero_le _⟩ hK hZ hS hP rfl rfl rfl rfl hl.1 rfl (Nat.le_of_ble_eq_true rfl) d_CS_close_36 (fun r_36 h_36 => ?_)
        rcases h_36 with ⟨h_36, rfl⟩ | ⟨h_36, rfl⟩
        · rw [hek, hnk] at h_36
          obtain ⟨hB1, hB2⟩ := hBK i (by omega) h_36.1.1
          refine ix_if_eq (tgt := 58) hx hb d_CS_close_39 (by decide) (by omega) (fun c_39 => ?_) (fun c_39 => ?_)
          · exact absurd c_39 (by decide)
          · refine lv_aload_n hx hb d_CS_close_42 rfl (lv_at hl 1 rfl) ?_
            refine va_get (D := g.1) (ci := 0) (v := .ref (q 7)) (C := R_CS) (T := F_CS) (N := 6) hx hb ht i_CS hown hK hP 0 rfl rfl 4 (by decide) (ht _ k_105) (fun _ h9 => h9) rfl d_CS_close_43 ?_
            refine lv_iload_n hx hb d_CS_close_46 rfl (lv_at hl 2 rfl) ?_
            refine ix_aald hx hb hK hP 7 3 rfl rfl (i := (((sn : Nat) : Int))) (q (8 + 2 * sn)) sn (by omega) rfl d_CS_close_47 ?_
            refine lv_iload hx hb d_CS_close_48 (lv_at hl 0 rfl) ?_
            refine lv_iload hx hb d_CS_close_50 (lv_at hl 0 rfl) ?_
            have hF_52 := cw_prF hD hS hA (k := sn) (by omega)
            refine zcVv (ci := 1) (q0 := 0) (As := [.int (iI (chA i)), .int (iI (chA i))]) (rest := []) ⟨hx, hb, hml, hown, ht⟩ v_CS_55 (c_RG_insert l g H.size (q (8 + 2 * sn)) (q (9 + 2 * sn)) (n2 sn) (es2 sn) (chA i) (chA i) (by rw [hek, hnk]; exact hg2.1) (by rw [hnk]; omega) (by rw [hek, hnk]; exact hg2.2.1) (by omega) (by omega) (by omega) Bs (by rw [hek, hnk]; exact hg2.2.2) hB1 hB2 (by omega)) ⟨Nat.le_of_ble_eq_true rfl, Nat.le_of_ble_eq_true rfl⟩ ⟨Nat.zero_le _, Nat.zero_le _⟩ hK hZ hS (cw_pr hP (k := sn) (by omega)) ((cw_prD hD (k := sn) (by omega)).weaken (fun _ _ _ _ => trivial)) hF_52 zP_nil zAp_nil rfl rfl rfl rfl hl.1 rfl (Nat.le_of_ble_eq_true rfl) d_CS_close_52 (fun w_52 H locs h_52 pp_52 dd_52 zz_52 kk_52 hS => ?_)
            obtain ⟨e3, n3, rfl, hI⟩ := h_52
            rw [hek, hnk] at hI
            obtain ⟨hP, hD⟩ := cw_put hP hD (k := sn) (n1 := n3) (e1 := e3) (by omega) kk_52 hF_52 pp_52 dd_52
            obtain ⟨n52, hn52⟩ : ∃ f9, f9 = va_up n2 sn (n3) := ⟨_, rfl⟩
            obtain ⟨e52, he52⟩ : ∃ f9, f9 = va_up es2 sn (e3) := ⟨_, rfl⟩
            rw [← hn52, ← he52] at hP hD
            have n52k : n52 sn = n3 := by rw [hn52]; exact up_same _ _ _
            have e52k : e52 sn = e3 := by rw [he52]; exact up_same _ _ _
            refine lv_iinc (v := iI ((((k9 : Nat) : Int)) + 1)) (lv' := [(2, .int (iI ((((k9 : Nat) : Int)) + 1))), (4, .int (iI (chA i))), (0, .ref (q 0)), (1, .int (iI (((sn : Nat) : Int)))), (3, .int (iI (((i : Nat) : Int))))]) hx hb d_CS_close_55 hl (k := 3) rfl (iI_add _ _) (by decide) rfl (fun ls hl => ?_)
            refine lv_iinc (v := iI ((((i : Nat) : Int)) + 1)) (lv' := [(3, .int (iI ((((i : Nat) : Int)) + 1))), (2, .int (iI ((((k9 : Nat) : Int)) + 1))), (4, .int (iI (chA i))), (0, .ref (q 0)), (1, .int (iI (((sn : Nat) : Int))))]) hx hb d_CS_close_58 hl (k := 4) rfl (iI_add _ _) (by decide) rfl (fun ls hl => ?_)
            refine lv_goto (tgt := 14) hx hb d_CS_close_61 (by decide) ?_
            exact ih sn (i + 1) (k9 + 1) n3 e3 n52 e52 _ _ ls (by omega) (lv_sub hl [3, 4, 1, 0] rfl) (by exact hs9n) (by omega) (by omega) (by omega) (by exact ⟨e2, m2, k9, hCC, Or.inl ⟨h_36, hI, rfl⟩⟩) (by exact ⟨hI.1, fun j hj => by rcases hI.2.2.2 j hj with w9 | w9 | ⟨j9, hj9, w9⟩ <;> rw [w9] <;> first | omega | exact hg2.2.1 j9 hj9, Ins_B hI Bs hg2.2.2 hB1 hB2⟩) (by rw [hn52, hn2, bx_uu]) (by rw [he52, he2, bx_uu]) hP hD hS
        · rw [hek, hnk] at h_36
          refine ix_if_eq (tgt := 58) hx hb d_CS_close_39 (by decide) (by omega) (fun c_39 => ?_) (fun c_39 => ?_)
          · refine lv_iinc (v := iI ((((i : Nat) : Int)) + 1)) (lv' := [(3, .int (iI ((((i : Nat) : Int)) + 1))), (4, .int (iI (chA i))), (0, .ref (q 0)), (1, .int (iI (((sn : Nat) : Int)))), (2, .int (iI (((k9 : Nat) : Int))))]) hx hb d_CS_close_58 hl (k := 4) rfl (iI_add _ _) (by decide) rfl (fun ls hl => ?_)
            refine lv_goto (tgt := 14) hx hb d_CS_close_61 (by decide) ?_
            exact ih sn (i + 1) k9 m2 e2 n2 es2 _ _ ls (by omega) (lv_sub hl [2, 3, 4, 0] rfl) (by exact hs9n) (by omega) (by omega) (by omega) (by exact ⟨e2, m2, k9, hCC, Or.inr ⟨h_36, rfl, rfl, rfl⟩⟩) (by exact hg2) (by exact hn2) (by exact he2) hP hD hS
          · exact absurd c_39 (by decide)
  refine lv_iload_n hx hb d_CS_close_0 rfl (lv_at hl 1 rfl) ?_
  refine zcS (As := [.int (iI s9)]) (rest := []) ⟨hx, hb, hml, hown, ht⟩ t_CS_45 (c_CS_isSet l g s9 (by omega)) ⟨Nat.le_of_ble_eq_true rfl, Nat.le_of_ble_eq_true rfl⟩ ⟨Nat.zero_le _, Nat.zero_le _⟩ hK hZ hS zP_nil rfl hl.1 rfl (Nat.le_of_ble_eq_true rfl) d_CS_close_1 (fun r_1 h_1 => ?_)
  rcases h_1 with ⟨h_1, rfl⟩ | ⟨h_1, rfl⟩
  · refine ix_if_ne (tgt := 10) hx hb d_CS_close_4 (by decide) (by omega) (fun c_4 => ?_) (fun c_4 => ?_)
    · obtain ⟨sn, hsn⟩ : ∃ sn : Nat, s9 = ((sn : Nat) : Int) := ⟨s9.toNat, by omega⟩
      have hsnT : s9.toNat = sn := by omega
      rw [hsn] at hl
      refine lv_iconst (v := iI 0) hx hb d_CS_close_10 rfl ?_
      refine lv_istore_n (lv' := [(2, .int (iI 0)), (0, .ref (q 0)), (1, .int (iI (((sn : Nat) : Int))))]) hx hb d_CS_close_11 rfl hl (by decide) rfl (fun ls hl => ?_)
      refine lv_iconst (v := iI 0) hx hb d_CS_close_12 rfl ?_
      refine lv_istore_n (lv' := [(3, .int (iI 0)), (2, .int (iI 0)), (0, .ref (q 0)), (1, .int (iI (((sn : Nat) : Int))))]) hx hb d_CS_close_13 rfl hl (by decide) rfl (fun ls hl => ?_)
      exact J14 (_ + 1) sn 0 0 (n sn) (es sn) n es _ _ ls (Nat.lt_succ_self _) (lv_sub hl [2, 3, 1, 0] rfl) (by exact hsn) (by omega) (by omega) (by omega) (by exact ⟨rfl, rfl, rfl⟩) (by exact ⟨(hok sn (by omega)).1, (hok sn (by omega)).2.2, hBs sn (by omega)⟩) (by exact (up_id n sn).symm) (by exact (up_id es sn).symm) hP hD hS
    · exact absurd c_4 (by decide)
  · refine ix_if_ne (tgt := 10) hx hb d_CS_close_4 (by decide) (by omega) (fun c_4 => ?_) (fun c_4 => ?_)
    · exact absurd c_4 (by decide)
    · refine lv_bipush (v := iI (-2)) hx hb d_CS_close_7 (by decide) ?_
      subst hQ
      exact W.iret (v := iI ((-2))) hx hb hr (fun t h9 hW => ⟨⟨_, _, rfl, Or.inl ⟨by omega, rfl, rfl⟩, by rw [h9]; exact hP, va_K.moved hW.alike hK, hD⟩, hS.F h9⟩) hS.2.2 d_CS_close_9
