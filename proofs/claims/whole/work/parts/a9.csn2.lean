set_option maxHeartbeats 4000000 in
set_option maxRecDepth 100000 in
theorem c_CS_named (l : Launch) (g : zG) (sz : Nat) (q : Nat → Nat) (u la : Int) (NX : Nat → Int) (n : Nat → Nat) (es : Nat → Nat → Int) (s9 k nt cl : Int) (hs9 : -2147483648 ≤ s9 ∧ s9 ≤ 2147483647) (hk : -2147483648 ≤ k ∧ k ≤ 2147483647) (hnt : nt = 0 ∨ nt = 1) (hcl : cl = 0 ∨ cl = 1) (hla : 0 ≤ la ∧ la ≤ 1114111) (hok : ∀ k, k < 9 → asc (es k) (n k) ∧ n k ≤ 2046 ∧ ∀ i, i < n k → 0 ≤ es k i ∧ es k i ≤ 1114112) (Bs : List Int) (hBl : Bs.length ≤ 2046) (hBs : ∀ k, k < 9 → ∀ i, i < n k → es k i ∈ Bs) (h0B : 0 ∈ Bs) (hlB : la + 1 ∈ Bs) (hla2 : 255 ≤ la) (hPB1 : ∀ i, i < 253 → LOf i ≤ min (hiE i - 1) la → LOf i ∈ Bs ∧ min (hiE i - 1) la + 1 ∈ Bs) (hBC : 95 ∈ Bs ∧ 96 ∈ Bs ∧ 9 ∈ Bs ∧ 14 ∈ Bs ∧ 133 ∈ Bs ∧ 134 ∈ Bs) (hu : u = 0 ∨ u = 1) (hB7 : ∀ i, i < 253 → LOf i ≤ min (min (hiE i - 1) 127) la → LOf i ∈ Bs ∧ min (min (hiE i - 1) 127) la + 1 ∈ Bs) (hBL : ∀ t, 2 ≤ t → t ≤ 17 → ∀ i, 2 * i + 1 < (stE t).length → (stE t).getD (2 * i) 0 ≤ min ((stE t).getD (2 * i + 1) 0) la → (stE t).getD (2 * i) 0 ∈ Bs ∧ min ((stE t).getD (2 * i + 1) 0) la + 1 ∈ Bs)  : Met l y_CS_named w_CS_named { frames := 6, cells := 0, slots := 0, locals := 141 } (zPw g [.ref (q 0), .int (iI s9), .int (iI k), .int (iI nt), .int (iI cl)] (cw g q u la NX n es) [] sz) (va_Qi (fun z w => ((¬ (0 ≤ s9 ∧ s9 ≤ 7) ∨ k < 0 ∨ 18 < k) ∧ z = iI (-2) ∧ w = cw g q u la NX n es) ∨ (¬ (¬ (0 ≤ s9 ∧ s9 ≤ 7) ∨ k < 0 ∨ 18 < k) ∧ ∃ (eg : Nat → Int) (mg : Nat) (e2 : Nat → Int) (n2 : Nat) (e3 : Nat → Int) (n3 : Nat), GG la (es 8) 0 (rlN u la (whN k cl).toNat) eg mg ∧ gok Bs eg mg ∧ ((nt = 0 ∧ e2 = eg ∧ n2 = mg) ∨ (¬ nt = 0 ∧ Cmp la eg mg e2 n2)) ∧ IA (es s9.toNat) (n s9.toNat) e2 (n2 / 2) e3 n3 ∧ z = iI ((n3 / 2 : Nat) : Int) ∧ w = cw g q u la NX (va_up (va_up n 8 n2) s9.toNat n3) (va_up (va_up es 8 e2) s9.toNat e3))) (zB g (va_A (cw g q u la NX n es) sz)) (va_A (cw g q u la NX n es) sz)) 0 0 (va_A (cw g q u la NX n es) sz) := by
  refine Met.ofW (cc := b_CS_named) (maxL := 6) (ret := (some .int)) (by decide) rfl ?_
  intro p e s m args below meth cd s₁ B hml hv
  obtain ⟨hargs, hsz, hP, hK, hD0, hZ, hO0, hAp⟩ := hv
  have hx := B.exec
  have hb := B.bytes
  have hr := B.returns
  have ht : ∀ w ∈ lw_ok, w.before args s = true := fun w h => atoms_spec (ws := w_CS_named) B.pre w (List.mem_cons_of_mem _ h)
  have hown : s.vm.findClass R_CS = some m.cls := findClass_of_methodNamed B.named
  have hlocks := B.notSynchronized
  subst hsz
  have hD := hD0.self (sz := s.heap.size)
  generalize hAe : va_A (cw g q u la NX n es) s.heap.size = A at hD hZ hAp ⊢
  have hA : ∀ q : Nat, s.heap.size ≤ q → A q := fun q h => by rw [← hAe]; exact Or.inr h
  have hS : va_S A s.heap s.heap [] := va_S.rf
  generalize hQ : MQ below _ args s 0 0 _ = Q
  have hl := lv_entry ([.ref (q 0), .int (iI s9), .int (iI k), .int (iI nt), .int (iI cl)]) (n := 6) (Nat.le_of_ble_eq_true rfl)
  rw [show entryFrame m args 6 = entryFrame m ([.ref (q 0), .int (iI s9), .int (iI k), .int (iI nt), .int (iI cl)] : List Value).toArray 6 by rw [hargs], lg_entry_eq]
  generalize (lg_sl ([.ref (q 0), .int (iI s9), .int (iI k), .int (iI nt), .int (iI cl)]) ++ List.replicate (6 - (lg_sl ([.ref (q 0), .int (iI s9), .int (iI k), .int (iI nt), .int (iI cl)])).length) Slot.unset).toArray = ls at hl ⊢
  have hl : lv_has ls 6 [(0, .ref (q 0)), (1, .int (iI s9)), (2, .int (iI k)), (3, .int (iI nt)), (4, .int (iI cl))] := hl
  obtain ⟨H, locs, hHe, hLe⟩ : ∃ (H : Heap) (locs : List Loc), H = s.heap ∧ locs = [] := ⟨_, _, rfl, rfl⟩
  rw [show W p l e _ s m args below meth cd s.heap [] 0 0 Q = W p l e _ s m args below meth cd H locs 0 0 Q by rw [hHe, hLe]]
  rw [← hHe] at hP
  have hS : va_S A s.heap H locs := by rw [hHe, hLe]; exact hS
  have J44 : ∀ (sn kn : Nat) (cs : Int) (H : Heap) (locs : List Loc) (ls : Array Slot), lv_has ls 6 [(0, .ref (q 0)), (1, .int (iI (((sn : Nat) : Int)))), (2, .int (iI (((kn : Nat) : Int)))), (3, .int (iI nt)), (5, .int (iI cs))] → (s9 = ((sn : Nat) : Int)) → (k = ((kn : Nat) : Int)) → (sn < 8) → (kn ≤ 18) → ((cs = 0 ∧ whN k cl = k) ∨ (cs = 1 ∧ whN k cl = 5)) → va_P g.1 classes (cw g q u la NX n es) H → va_D A (cw g q u la NX n es) → va_S A s.heap H locs → W p l e (headSpec w_CS_named { frames := 6, cells := 0, slots := 0, locals := 141 }).room s m args below meth cd H locs 0 0 Q (F0 m 44 ls []) := by
    intro sn kn cs H locs ls hl hs9n hkn hsn8 hk9 hcs hP hD hS
    refine lv_aload_n hx hb d_CS_named_44 rfl (lv_at hl 0 rfl) ?_
    refine va_get (D := g.1) (ci := 0) (v := .ref (q 24)) (C := R_CS) (T := F_CS) (N := 6) hx hb ht i_CS hown hK hP 0 rfl rfl 5 (by decide) (ht _ k_106) (fun _ h9 => h9) rfl d_CS_named_45 ?_
    have hF_48 := cw_prF hD hS hA (k := 8) (by omega)
    refine zcVv (ci := 1) (q0 := 0) (As := []) (rest := []) ⟨hx, hb, hml, hown, ht⟩ v_CS_49 (c_RG_empty l g H.size (q 24) (q 25) (n 8) (es 8)) ⟨Nat.le_of_ble_eq_true rfl, Nat.le_of_ble_eq_true rfl⟩ ⟨Nat.zero_le _, Nat.zero_le _⟩ hK hZ hS (cw_pr hP (k := 8) (by omega)) ((cw_prD hD (k := 8) (by omega)).weaken (fun _ _ _ _ => trivial)) hF_48 zP_nil zAp_nil rfl rfl rfl rfl hl.1 rfl (Nat.le_of_ble_eq_true rfl) d_CS_named_48 (fun w_48 H locs h_48 pp_48 dd_48 zz_48 kk_48 hS => ?_)
    subst h_48
    obtain ⟨hP, hD⟩ := cw_put hP hD (k := 8) (n1 := 0) (e1 := es 8) (by omega) kk_48 hF_48 pp_48 dd_48
    have hg0 : gok Bs (es 8) 0 := gok_nil
    refine lv_aload_n hx hb d_CS_named_51 rfl (lv_at hl 0 rfl) ?_
    refine lv_iload hx hb d_CS_named_52 (lv_at hl 4 rfl) ?_
    refine ix_if_eq (tgt := 61) hx hb d_CS_named_54 (by decide) (by omega) (fun c_54 => ?_) (fun c_54 => ?_)
    · refine lv_iload_n hx hb d_CS_named_61 rfl (lv_at hl 2 rfl) ?_
      have hF_62 : ∀ x9, va_A (cw g q u la NX (va_up n 8 0) (va_up es 8 (es 8))) H.size x9 → A x9 := fun x9 h9 => h9.elim (fun ⟨j9, e9, hj9⟩ => hD.2 j9 _ hj9) (fun h9 => hA x9 (Nat.le_trans hS.1 h9))
      refine zcVv (ci := 0) (q0 := 0) (As := [.int (iI (((kn : Nat) : Int)))]) (rest := []) ⟨hx, hb, hml, hown, ht⟩ v_CS_71 (c_CS_gatherNamed l g H.size q u la NX n es 0 (es 8) kn Bs hBl hg0 hla hu (by omega) hla2 hPB1 hBC hB7 hBL) ⟨Nat.le_of_ble_eq_true rfl, Nat.le_of_ble_eq_true rfl⟩ ⟨Nat.zero_le _, Nat.zero_le _⟩ hK hZ hS hP (hD.weaken (fun _ _ _ _ => trivial)) hF_62 zP_nil zAp_nil rfl rfl rfl rfl hl.1 rfl (Nat.le_of_ble_eq_true rfl) d_CS_named_62 (fun w_62 H locs h_62 pp_62 dd_62 zz_62 kk_62 hS => ?_)
      obtain ⟨e62, m62, hGG62, hg62, rfl⟩ := h_62
      have hP : va_P g.1 classes (cw g q u la NX (va_up n 8 m62) (va_up es 8 e62)) H := pp_62
      have hD : va_D A (cw g q u la NX (va_up n 8 m62) (va_up es 8 e62)) := dd_62.weaken (fun _ _ _ h9 => hF_62 _ h9)
      obtain ⟨hev, hle⟩ := GG_ev (by omega) (fun i hi => absurd hi (by omega)) hGG62
      refine lv_aload_n hx hb d_CS_named_65 rfl (lv_at hl 0 rfl) ?_
      refine lv_aload_n hx hb d_CS_named_66 rfl (lv_at hl 0 rfl) ?_
      refine va_get (D := g.1) (ci := 0) (v := .ref (q 7)) (C := R_CS) (T := F_CS) (N := 6) hx hb ht i_CS hown hK hP 0 rfl rfl 4 (by decide) (ht _ k_105) (fun _ h9 => h9) rfl d_CS_named_67 ?_
      refine lv_iload_n hx hb d_CS_named_70 rfl (lv_at hl 1 rfl) ?_
      refine ix_aald hx hb hK hP 7 3 rfl rfl (i := (((sn : Nat) : Int))) (q (8 + 2 * sn)) sn (by omega) rfl d_CS_named_71 ?_
      refine lv_iload_n hx hb d_CS_named_72 rfl (lv_at hl 3 rfl) ?_
      have hF_73 : ∀ x9, va_A (cw g q u la NX (va_up n 8 m62) (va_up es 8 e62)) H.size x9 → A x9 := fun x9 h9 => h9.elim (fun ⟨j9, e9, hj9⟩ => hD.2 j9 _ hj9) (fun h9 => hA x9 (Nat.le_trans hS.1 h9))
      refine zcVi (ci := 0) (q0 := 0) (As := [.ref (q (8 + 2 * sn)), .int (iI nt)]) (rest := []) ⟨hx, hb, hml, hown, ht⟩ v_CS_67 (c_CS_addGathered l g H.size q u la NX n es m62 e62 nt Bs hBl hg62 hla sn hsn8 (hok sn (by omega)).1 (hok sn (by omega)).2.2 (hBs sn (by omega)) hev hle h0B hlB hnt) ⟨Nat.le_of_ble_eq_true rfl, Nat.le_of_ble_eq_true rfl⟩ ⟨Nat.zero_le _, Nat.zero_le _⟩ hK hZ hS hP (hD.weaken (fun _ _ _ _ => trivial)) hF_73 zP_nil zAp_nil rfl rfl rfl rfl hl.1 rfl (Nat.le_of_ble_eq_true rfl) d_CS_named_73 (fun r_73 w_73 H locs h_73 pp_73 dd_73 zz_73 kk_73 hS => ?_)
      obtain ⟨e2, n2, e3, n3, hG2, hIA, rfl, rfl⟩ := h_73
      have hP : va_P g.1 classes (cw g q u la NX (va_up (va_up n 8 n2) sn n3) (va_up (va_up es 8 e2) sn e3)) H := pp_73
      have hD : va_D A (cw g q u la NX (va_up (va_up n 8 n2) sn n3) (va_up (va_up es 8 e2) sn e3)) := dd_73.weaken (fun _ _ _ h9 => hF_73 _ h9)
      subst hQ
      exact W.iret (v := iI ((((n3 / 2) : Nat) : Int))) hx hb hr (fun t h9 hW => ⟨⟨_, _, rfl, Or.inr ⟨by omega, e62, m62, e2, n2, e3, n3, by first | (rw [show (whN k cl).toNat = kn by omega]; exact hGG62) | (rw [show (whN k cl).toNat = 5 by omega]; exact hGG62), hg62, hG2, by rw [show s9.toNat = sn by omega]; exact hIA, rfl, by rw [show s9.toNat = sn by omega]⟩, by rw [h9]; exact hP, va_K.moved hW.alike hK, hD⟩, hS.F h9⟩) hS.2.2 d_CS_named_76
    · refine lv_iconst (v := iI 5) hx hb d_CS_named_57 rfl ?_
      refine lv_goto (tgt := 62) hx hb d_CS_named_58 (by decide) ?_
      have hF_62 : ∀ x9, va_A (cw g q u la NX (va_up n 8 0) (va_up es 8 (es 8))) H.size x9 → A x9 := fun x9 h9 => h9.elim (fun ⟨j9, e9, hj9⟩ => hD.2 j9 _ hj9) (fun h9 => hA x9 (Nat.le_trans hS.1 h9))
      refine zcVv (ci := 0) (q0 := 0) (As := [.int (iI 5)]) (rest := []) ⟨hx, hb, hml, hown, ht⟩ v_CS_71 (c_CS_gatherNamed l g H.size q u la NX n es 0 (es 8) 5 Bs hBl hg0 hla hu (by omega) hla2 hPB1 hBC hB7 hBL) ⟨Nat.le_of_ble_eq_true rfl, Nat.le_of_ble_eq_true rfl⟩ ⟨Nat.zero_le _, Nat.zero_le _⟩ hK hZ hS hP (hD.weaken (fun _ _ _ _ => trivial)) hF_62 zP_nil zAp_nil rfl rfl rfl rfl hl.1 rfl (Nat.le_of_ble_eq_true rfl) d_CS_named_62 (fun w_62 H locs h_62 pp_62 dd_62 zz_62 kk_62 hS => ?_)
      obtain ⟨e62, m62, hGG62, hg62, rfl⟩ := h_62
      have hP : va_P g.1 classes (cw g q u la NX (va_up n 8 m62) (va_up es 8 e62)) H := pp_62
      have hD : va_D A (cw g q u la NX (va_up n 8 m62) (va_up es 8 e62)) := dd_62.weaken (fun _ _ _ h9 => hF_62 _ h9)
      obtain ⟨hev, hle⟩ := GG_ev (by omega) (fun i hi => absurd hi (by omega)) hGG62
      refine lv_aload_n hx hb d_CS_named_65 rfl (lv_at hl 0 rfl) ?_
      refine lv_aload_n hx hb d_CS_named_66 rfl (lv_at hl 0 rfl) ?_
      refine va_get (D := g.1) (ci := 0) (v := .ref (q 7)) (C := R_CS) (T := F_CS) (N := 6) hx hb ht i_CS hown hK hP 0 rfl rfl 4 (by decide) (ht _ k_105) (fun _ h9 => h9) rfl d_CS_named_67 ?_
      refine lv_iload_n hx hb d_CS_named_70 rfl (lv_at hl 1 rfl) ?_
      refine ix_aald hx hb hK hP 7 3 rfl rfl (i := (((sn : Nat) : Int))) (q (8 + 2 * sn)) sn (by omega) rfl d_CS_named_71 ?_
      refine lv_iload_n hx hb d_CS_named_72 rfl (lv_at hl 3 rfl) ?_
      have hF_73 : ∀ x9, va_A (cw g q u la NX (va_up n 8 m62) (va_up es 8 e62)) H.size x9 → A x9 := fun x9 h9 => h9.elim (fun ⟨j9, e9, hj9⟩ => hD.2 j9 _ hj9) (fun h9 => hA x9 (Nat.le_trans hS.1 h9))
      refine zcVi (ci := 0) (q0 := 0) (As := [.ref (q (8 + 2 * sn)), .int (iI nt)]) (rest := []) ⟨hx, hb, hml, hown, ht⟩ v_CS_67 (c_CS_addGathered l g H.size q u la NX n es m62 e62 nt Bs hBl hg62 hla sn hsn8 (hok sn (by omega)).1 (hok sn (by omega)).2.2 (hBs sn (by omega)) hev hle h0B hlB hnt) ⟨Nat.le_of_ble_eq_true rfl, Nat.le_of_ble_eq_true rfl⟩ ⟨Nat.zero_le _, Nat.zero_le _⟩ hK hZ hS hP (hD.weaken (fun _ _ _ _ => trivial)) hF_73 zP_nil zAp_nil rfl rfl rfl rfl hl.1 rfl (Nat.le_of_ble_eq_true rfl) d_CS_named_73 (fun r_73 w_73 H locs h_73 pp_73 dd_73 zz_73 kk_73 hS => ?_)
      obtain ⟨e2, n2, e3, n3, hG2, hIA, rfl, rfl⟩ := h_73
      have hP : va_P g.1 classes (cw g q u la NX (va_up (va_up n 8 n2) sn n3) (va_up (va_up es 8 e2) sn e3)) H := pp_73
      have hD : va_D A (cw g q u la NX (va_up (va_up n 8 n2) sn n3) (va_up (va_up es 8 e2) sn e3)) := dd_73.weaken (fun _ _ _ h9 => hF_73 _ h9)
      subst hQ
      exact W.iret (v := iI ((((n3 / 2) : Nat) : Int))) hx hb hr (fun t h9 hW => ⟨⟨_, _, rfl, Or.inr ⟨by omega, e62, m62, e2, n2, e3, n3, by first | (rw [show (whN k cl).toNat = kn by omega]; exact hGG62) | (rw [show (whN k cl).toNat = 5 by omega]; exact hGG62), hg62, hG2, by rw [show s9.toNat = sn by omega]; exact hIA, rfl, by rw [show s9.toNat = sn by omega]⟩, by rw [h9]; exact hP, va_K.moved hW.alike hK, hD⟩, hS.F h9⟩) hS.2.2 d_CS_named_76
  refine lv_iload_n hx hb d_CS_named_0 rfl (lv_at hl 1 rfl) ?_
  refine zcS (As := [.int (iI s9)]) (rest := []) ⟨hx, hb, hml, hown, ht⟩ t_CS_45 (c_CS_isSet l g s9 (by omega)) ⟨Nat.le_of_ble_eq_true rfl, Nat.le_of_ble_eq_true rfl⟩ ⟨Nat.zero_le _, Nat.zero_le _⟩ hK hZ hS zP_nil rfl hl.1 rfl (Nat.le_of_ble_eq_true rfl) d_CS_named_1 (fun r_1 h_1 => ?_)
  rcases h_1 with ⟨h_1, rfl⟩ | ⟨h_1, rfl⟩
  · refine ix_if_eq (tgt := 17) hx hb d_CS_named_4 (by decide) (by omega) (fun c_4 => ?_) (fun c_4 => ?_)
    · exact absurd c_4 (by decide)
    · refine lv_iload_n hx hb d_CS_named_7 rfl (lv_at hl 2 rfl) ?_
      refine ix_if_lt (tgt := 17) hx hb d_CS_named_8 (by decide) (by omega) (fun c_8 => ?_) (fun c_8 => ?_)
      · refine lv_bipush (v := iI (-2)) hx hb d_CS_named_17 (by decide) ?_
        subst hQ
        exact W.iret (v := iI ((-2))) hx hb hr (fun t h9 hW => ⟨⟨_, _, rfl, Or.inl ⟨by omega, rfl, rfl⟩, by rw [h9]; exact hP, va_K.moved hW.alike hK, hD⟩, hS.F h9⟩) hS.2.2 d_CS_named_19
      · refine lv_iload_n hx hb d_CS_named_11 rfl (lv_at hl 2 rfl) ?_
        refine lv_bipush (v := iI 18) hx hb d_CS_named_12 (by decide) ?_
        refine ix_icmp_le (tgt := 20) hx hb d_CS_named_14 (by decide) (by omega) (fun c_14 => ?_) (fun c_14 => ?_)
        · obtain ⟨sn, hsn⟩ : ∃ sn : Nat, s9 = ((sn : Nat) : Int) := ⟨s9.toNat, by omega⟩
          have hsnT : s9.toNat = sn := by omega
          rw [hsn] at hl
          obtain ⟨kn, hkn⟩ : ∃ kn : Nat, k = ((kn : Nat) : Int) := ⟨k.toNat, by omega⟩
          have hknT : k.toNat = kn := by omega
          rw [hkn] at hl
          refine lv_iload hx hb d_CS_named_20 (lv_at hl 4 rfl) ?_
          refine ix_if_eq (tgt := 41) hx hb d_CS_named_22 (by decide) (by omega) (fun c_22 => ?_) (fun c_22 => ?_)
          · refine lv_iconst (v := iI 0) hx hb d_CS_named_41 rfl ?_
            refine lv_istore (lv' := [(5, .int (iI 0)), (0, .ref (q 0)), (1, .int (iI (((sn : Nat) : Int)))), (2, .int (iI (((kn : Nat) : Int)))), (3, .int (iI nt)), (4, .int (iI cl))]) hx hb d_CS_named_42 hl (by decide) rfl (fun ls hl => ?_)
            exact J44 sn kn 0 _ _ ls (lv_sub hl [1, 2, 3, 4, 0] rfl) (by exact hsn) (by exact hkn) (by omega) (by omega) (by unfold whN; first | (rw [if_pos (by omega)]; omega) | (rw [if_neg (by omega)]; omega)) hP hD hS
          · refine lv_iload_n hx hb d_CS_named_25 rfl (lv_at hl 2 rfl) ?_
            refine lv_bipush (v := iI 6) hx hb d_CS_named_26 (by decide) ?_
            refine ix_icmp_eq (tgt := 37) hx hb d_CS_named_28 (by decide) (by omega) (fun c_28 => ?_) (fun c_28 => ?_)
            · refine lv_iconst (v := iI 1) hx hb d_CS_named_37 rfl ?_
              refine lv_goto (tgt := 42) hx hb d_CS_named_38 (by decide) ?_
              refine lv_istore (lv' := [(5, .int (iI 1)), (0, .ref (q 0)), (1, .int (iI (((sn : Nat) : Int)))), (2, .int (iI (((kn : Nat) : Int)))), (3, .int (iI nt)), (4, .int (iI cl))]) hx hb d_CS_named_42 hl (by decide) rfl (fun ls hl => ?_)
              exact J44 sn kn 1 _ _ ls (lv_sub hl [1, 2, 3, 4, 0] rfl) (by exact hsn) (by exact hkn) (by omega) (by omega) (by unfold whN; first | (rw [if_pos (by omega)]; omega) | (rw [if_neg (by omega)]; omega)) hP hD hS
            · refine lv_iload_n hx hb d_CS_named_31 rfl (lv_at hl 2 rfl) ?_
              refine lv_bipush (v := iI 7) hx hb d_CS_named_32 (by decide) ?_
              refine ix_icmp_ne (tgt := 41) hx hb d_CS_named_34 (by decide) (by omega) (fun c_34 => ?_) (fun c_34 => ?_)
              · refine lv_iconst (v := iI 0) hx hb d_CS_named_41 rfl ?_
                refine lv_istore (lv' := [(5, .int (iI 0)), (0, .ref (q 0)), (1, .int (iI (((sn : Nat) : Int)))), (2, .int (iI (((kn : Nat) : Int)))), (3, .int (iI nt)), (4, .int (iI cl))]) hx hb d_CS_named_42 hl (by decide) rfl (fun ls hl => ?_)
                exact J44 sn kn 0 _ _ ls (lv_sub hl [1, 2, 3, 4, 0] rfl) (by exact hsn) (by exact hkn) (by omega) (by omega) (by unfold whN; first | (rw [if_pos (by omega)]; omega) | (rw [if_neg (by omega)]; omega)) hP hD hS
              · refine lv_iconst (v := iI 1) hx hb d_CS_named_37 rfl ?_
                refine lv_goto (tgt := 42) hx hb d_CS_named_38 (by decide) ?_
                refine lv_istore (lv' := [(5, .int (iI 1)), (0, .ref (q 0)), (1, .int (iI (((sn : Nat) : Int)))), (2, .int (iI (((kn : Nat) : Int)))), (3, .int (iI nt)), (4, .int (iI cl))]) hx hb d_CS_named_42 hl (by decide) rfl (fun ls hl => ?_)
                exact J44 sn kn 1 _ _ ls (lv_sub hl [1, 2, 3, 4, 0] rfl) (by exact hsn) (by exact hkn) (by omega) (by omega) (by unfold whN; first | (rw [if_pos (by omega)]; omega) | (rw [if_neg (by omega)]; omega)) hP hD hS
        · refine lv_bipush (v := iI (-2)) hx hb d_CS_named_17 (by decide) ?_
          subst hQ
          exact W.iret (v := iI ((-2))) hx hb hr (fun t h9 hW => ⟨⟨_, _, rfl, Or.inl ⟨by omega, rfl, rfl⟩, by rw [h9]; exact hP, va_K.moved hW.alike hK, hD⟩, hS.F h9⟩) hS.2.2 d_CS_named_19
  · refine ix_if_eq (tgt := 17) hx hb d_CS_named_4 (by decide) (by omega) (fun c_4 => ?_) (fun c_4 => ?_)
    · refine lv_bipush (v := iI (-2)) hx hb d_CS_named_17 (by decide) ?_
      subst hQ
      exact W.iret (v := iI ((-2))) hx hb hr (fun t h9 hW => ⟨⟨_, _, rfl, Or.inl ⟨by omega, rfl, rfl⟩, by rw [h9]; exact hP, va_K.moved hW.alike hK, hD⟩, hS.F h9⟩) hS.2.2 d_CS_named_19
    · exact absurd c_4 (by decide)
