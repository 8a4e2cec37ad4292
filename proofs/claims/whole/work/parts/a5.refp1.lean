set_option maxHeartbeats 4000000 in
set_option maxRecDepth 100000 in
theorem c_MO_named (l : Launch) (g : zG) (sz : Nat) (r : Nat → Nat) (ut uc la wo : Int) (bw : Nat → Nat) (mt : Nat → Int) (ms : Int) (s9 k nt cl : Int) (hs9 : -2147483648 ≤ s9 ∧ s9 ≤ 2147483647)(hk : -2147483648 ≤ k ∧ k ≤ 2147483647)(hnt : nt = 0 ∨ nt = 1) (hcl : cl = 0 ∨ cl = 1) (huc : uc = 0 ∨ uc = 1) (nw last : Nat) (hwo : wo = ((nw : Nat) : Int)) (hnw : nw ≤ 17408) (hla : la = ((last : Nat) : Int)) (hlw : 64 * nw = last + 1) (hbw : ∀ j, bw j < 18446744073709551616) (hut : (ut = 0 ∧ last = 255) ∨ (ut = 1 ∧ last = 1114111)) : Met l y_MO_named w_MO_named { frames := 5, cells := 0, slots := 0, locals := 112 } (zPw g [.ref (r 0), .int (iI s9), .int (iI k), .int (iI nt), .int (iI cl)] ([(r 0, .inr (4, [.int (iI ut), .int (iI uc), .int (iI la), .int (iI wo), .ref (r 1), .ref (r 2), .ref (r 3), .int (iI ms), .ref (r 4)])), (r 1, .inl (zJ g, 139264, .inr (.inl (lA bw)))), (r 2, .inl (zBt g, 12544, .inl (ai kF))), (r 3, .inl (zI g, 4, .inl (ai mt))), (r 4, .inl (zI g, 14, .inl (ai PT)))]) [] sz) (va_Qi (fun z w => ((¬ (0 ≤ s9 ∧ s9 ≤ 7) ∨ k < 0 ∨ 18 < k) ∧ z = iI (-2) ∧ w = [(r 0, .inr (4, [.int (iI ut), .int (iI uc), .int (iI la), .int (iI wo), .ref (r 1), .ref (r 2), .ref (r 3), .int (iI ms), .ref (r 4)])), (r 1, .inl (zJ g, 139264, .inr (.inl (lA bw)))), (r 2, .inl (zBt g, 12544, .inl (ai kF))), (r 3, .inl (zI g, 4, .inl (ai mt))), (r 4, .inl (zI g, 14, .inl (ai PT)))]) ∨ (¬ (¬ (0 ≤ s9 ∧ s9 ≤ 7) ∨ k < 0 ∨ 18 < k) ∧ ∃ b2 : Nat → Nat, w = [(r 0, .inr (4, [.int (iI ut), .int (iI uc), .int (iI la), .int (iI wo), .ref (r 1), .ref (r 2), .ref (r 3), .int (iI ms), .ref (r 4)])), (r 1, .inl (zJ g, 139264, .inr (.inl (lA b2)))), (r 2, .inl (zBt g, 12544, .inl (ai kF))), (r 3, .inl (zI g, 4, .inl (ai mt))), (r 4, .inl (zI g, 14, .inl (ai PT)))] ∧ chg bw b2 s9.toNat (last + 1) (fun c => bt bw s9.toNat c || pB (nameF uc (whN k cl)) nt c) ∧ z = iI ((cnt (rst (fun c => bt bw s9.toNat c || pB (nameF uc (whN k cl)) nt c)) (last + 1) : Nat) : Int))) (zB g (va_A ([(r 0, .inr (4, [.int (iI ut), .int (iI uc), .int (iI la), .int (iI wo), .ref (r 1), .ref (r 2), .ref (r 3), .int (iI ms), .ref (r 4)])), (r 1, .inl (zJ g, 139264, .inr (.inl (lA bw)))), (r 2, .inl (zBt g, 12544, .inl (ai kF))), (r 3, .inl (zI g, 4, .inl (ai mt))), (r 4, .inl (zI g, 14, .inl (ai PT)))]) sz)) (va_A ([(r 0, .inr (4, [.int (iI ut), .int (iI uc), .int (iI la), .int (iI wo), .ref (r 1), .ref (r 2), .ref (r 3), .int (iI ms), .ref (r 4)])), (r 1, .inl (zJ g, 139264, .inr (.inl (lA bw)))), (r 2, .inl (zBt g, 12544, .inl (ai kF))), (r 3, .inl (zI g, 4, .inl (ai mt))), (r 4, .inl (zI g, 14, .inl (ai PT)))]) sz)) 0 0 (va_A ([(r 0, .inr (4, [.int (iI ut), .int (iI uc), .int (iI la), .int (iI wo), .ref (r 1), .ref (r 2), .ref (r 3), .int (iI ms), .ref (r 4)])), (r 1, .inl (zJ g, 139264, .inr (.inl (lA bw)))), (r 2, .inl (zBt g, 12544, .inl (ai kF))), (r 3, .inl (zI g, 4, .inl (ai mt))), (r 4, .inl (zI g, 14, .inl (ai PT)))]) sz) := by
  refine Met.ofW (cc := b_MO_named) (maxL := 8) (ret := (some .int)) (by decide) rfl ?_
  intro p e s m args below meth cd s₁ B hml hv
  obtain ⟨hargs, hsz, hP, hK, hD0, hZ, hO0, hAp⟩ := hv
  have hx := B.exec
  have hb := B.bytes
  have hr := B.returns
  have ht : ∀ w ∈ lw_ok, w.before args s = true := fun w h => atoms_spec (ws := w_MO_named) B.pre w (List.mem_cons_of_mem _ h)
  have hown : s.vm.findClass R_MO = some m.cls := findClass_of_methodNamed B.named
  have hlocks := B.notSynchronized
  subst hsz
  have hD := hD0.self (sz := s.heap.size)
  generalize hAe : va_A ([(r 0, .inr (4, [.int (iI ut), .int (iI uc), .int (iI la), .int (iI wo), .ref (r 1), .ref (r 2), .ref (r 3), .int (iI ms), .ref (r 4)])), (r 1, .inl (zJ g, 139264, .inr (.inl (lA bw)))), (r 2, .inl (zBt g, 12544, .inl (ai kF))), (r 3, .inl (zI g, 4, .inl (ai mt))), (r 4, .inl (zI g, 14, .inl (ai PT)))]) s.heap.size = A at hD hZ hAp ⊢
  have hA : ∀ q : Nat, s.heap.size ≤ q → A q := fun q h => by rw [← hAe]; exact Or.inr h
  have hS : va_S A s.heap s.heap [] := va_S.rf
  generalize hQ : MQ below _ args s 0 0 _ = Q
  have hl := lv_entry ([.ref (r 0), .int (iI s9), .int (iI k), .int (iI nt), .int (iI cl)]) (n := 8) (Nat.le_of_ble_eq_true rfl)
  rw [show entryFrame m args 8 = entryFrame m ([.ref (r 0), .int (iI s9), .int (iI k), .int (iI nt), .int (iI cl)] : List Value).toArray 8 by rw [hargs], lg_entry_eq]
  generalize (lg_sl ([.ref (r 0), .int (iI s9), .int (iI k), .int (iI nt), .int (iI cl)]) ++ List.replicate (8 - (lg_sl ([.ref (r 0), .int (iI s9), .int (iI k), .int (iI nt), .int (iI cl)])).length) Slot.unset).toArray = ls at hl ⊢
  have hl : lv_has ls 8 [(0, .ref (r 0)), (1, .int (iI s9)), (2, .int (iI k)), (3, .int (iI nt)), (4, .int (iI cl))] := hl
  obtain ⟨H, locs, hHe, hLe⟩ : ∃ (H : Heap) (locs : List Loc), H = s.heap ∧ locs = [] := ⟨_, _, rfl, rfl⟩
  rw [show W p l e _ s m args below meth cd s.heap [] 0 0 Q = W p l e _ s m args below meth cd H locs 0 0 Q by rw [hHe, hLe]]
  rw [← hHe] at hP
  have hS : va_S A s.heap H locs := by rw [hHe, hLe]; exact hS
  have J120 : ∀ fu : Nat, ∀ (sn : Nat) (wh : Int) (pk : Nat) (b2 : Nat → Nat) (H : Heap) (locs : List Loc) (ls : Array Slot), 13 - pk < fu → lv_has ls 8 [(0, .ref (r 0)), (1, .int (iI (((sn : Nat) : Int)))), (3, .int (iI nt)), (5, .int (iI wh)), (7, .int (iI (((pk : Nat) : Int))))] → (s9 = ((sn : Nat) : Int)) → (sn < 8) → (wh = whN k cl) → (0 ≤ wh ∧ wh ≤ 18) → (0 ≤ k ∧ k ≤ 18) → (ut = 1 ∧ last = 1114111) → (pk ≤ 13) → (pf bw b2 sn (pB (nameF uc wh) nt) (PTn pk)) → va_P g.1 classes ([(r 0, .inr (4, [.int (iI ut), .int (iI uc), .int (iI la), .int (iI wo), .ref (r 1), .ref (r 2), .ref (r 3), .int (iI ms), .ref (r 4)])), (r 1, .inl (zJ g, 139264, .inr (.inl (lA b2)))), (r 2, .inl (zBt g, 12544, .inl (ai kF))), (r 3, .inl (zI g, 4, .inl (ai mt))), (r 4, .inl (zI g, 14, .inl (ai PT)))]) H → va_D A ([(r 0, .inr (4, [.int (iI ut), .int (iI uc), .int (iI la), .int (iI wo), .ref (r 1), .ref (r 2), .ref (r 3), .int (iI ms), .ref (r 4)])), (r 1, .inl (zJ g, 139264, .inr (.inl (lA b2)))), (r 2, .inl (zBt g, 12544, .inl (ai kF))), (r 3, .inl (zI g, 4, .inl (ai mt))), (r 4, .inl (zI g, 14, .inl (ai PT)))]) → va_S A s.heap H locs → W p l e (headSpec w_MO_named { frames := 5, cells := 0, slots := 0, locals := 112 }).room s m args below meth cd H locs 0 0 Q (F0 m 120 ls []) := by
    intro fu
    induction fu with
    | zero => exact fun _ _ _ _ _ _ _ hfu _ _ _ _ _ _ _ _ _ _ _ _ => absurd hfu (Nat.not_lt_zero _)
    | succ fu ih =>
      intro sn wh pk b2 H locs ls hfu hl hs9n hsn8 hwh hwb hk9 hut1 h1 hpf hP hD hS
      refine lv_iload hx hb d_MO_named_120 (lv_at hl 4 rfl) ?_
      refine lv_bipush (v := iI 13) hx hb d_MO_named_122 (by decide) ?_
      refine ix_icmp_ge (tgt := 173) hx hb d_MO_named_124 (by decide) (by omega) (fun c_124 => ?_) (fun c_124 => ?_)
      · have hp13 : PTn pk = 1114112 := by rw [show pk = 13 by omega]; rfl
        rw [hp13] at hpf
        refine lv_aload_n hx hb d_MO_named_173 rfl (lv_at hl 0 rfl) ?_
        refine lv_iload_n hx hb d_MO_named_174 rfl (lv_at hl 1 rfl) ?_
        refine zcV (ci := 4) (q0 := 0) (As := [.int (iI (((sn : Nat) : Int)))]) (rest := []) ⟨hx, hb, hml, hown, ht⟩ v_MO_124 (c_MO_ranges l g r ut uc la wo b2 mt ms sn nw hwo hnw (by omega) hpf.1) ⟨Nat.le_of_ble_eq_true rfl, Nat.le_of_ble_eq_true rfl⟩ ⟨Nat.zero_le _, Nat.zero_le _⟩ hK hZ hS hP rfl rfl rfl rfl hl.1 rfl (Nat.le_of_ble_eq_true rfl) d_MO_named_175 (fun r_175 h_175 => ?_)
        subst h_175
        subst hQ
        exact W.iret (v := iI ((((cnt (rst (bt b2 sn)) (64 * nw)) : Nat) : Int))) hx hb hr (fun t h9 hW => ⟨⟨_, _, rfl, Or.inr ⟨by omega, b2, rfl, by rw [hs9n, ← hwh, show last + 1 = 1114112 by omega]; exact pf_chg hpf (by omega), by rw [hs9n, ← hwh, hlw, show last + 1 = 1114112 by omega]; exact congrArg (fun x : Nat => iI (x : Int)) (chg_r (pf_chg hpf (by omega)))⟩, by rw [h9]; exact hP, va_K.moved hW.alike hK, hD⟩, hS.F h9⟩) hS.2.2 d_MO_named_178
      · have pb := PT_bd pk (by omega)
        have e1 : PT pk = ((PTn pk : Nat) : Int) := rfl
        have e2 : PT (pk + 1) = ((PTn (pk + 1) : Nat) : Int) := rfl
        refine lv_aload_n hx hb d_MO_named_127 rfl (lv_at hl 0 rfl) ?_
        refine lv_iload hx hb d_MO_named_128 (lv_at hl 3 rfl) ?_
        refine lv_aload_n hx hb d_MO_named_130 rfl (lv_at hl 0 rfl) ?_
        refine va_get (D := g.1) (ci := 4) (v := .ref (r 4)) (C := R_MO) (T := F_MO) (N := 9) hx hb ht i_MO hown hK hP 0 rfl rfl 8 (by decide) (ht _ k_426) (fun _ h9 => h9) rfl d_MO_named_131 ?_
        refine lv_iload hx hb d_MO_named_134 (lv_at hl 4 rfl) ?_
        refine ix_iald hx hb hK hP 4 0 rfl rfl (i := (((pk : Nat) : Int))) pk (by omega) d_MO_named_136 ?_
        refine zcV (ci := 4) (q0 := 0) (As := [.int (iI wh), .int (iI (PT pk))]) (rest := []) ⟨hx, hb, hml, hown, ht⟩ v_MO_152 (c_MO_names l g r ut uc la wo b2 mt ms wh (PT pk) huc (by omega) (by omega)) ⟨Nat.le_of_ble_eq_true rfl, Nat.le_of_ble_eq_true rfl⟩ ⟨Nat.zero_le _, Nat.zero_le _⟩ hK hZ hS hP rfl rfl rfl rfl hl.1 rfl (Nat.le_of_ble_eq_true rfl) d_MO_named_137 (fun r_137 h_137 => ?_)
        rcases h_137 with ⟨h_137, rfl⟩ | ⟨h_137, rfl⟩
        · refine lv_iload_n hx hb d_MO_named_140 rfl (lv_at hl 2 rfl) ?_
          refine ix_icmp_eq (tgt := 167) hx hb d_MO_named_141 (by decide) (by omega) (fun c_141 => ?_) (fun c_141 => ?_)
          · refine lv_iinc (v := iI ((((pk : Nat) : Int)) + 1)) (lv' := [(7, .int (iI ((((pk : Nat) : Int)) + 1))), (0, .ref (r 0)), (1, .int (iI (((sn : Nat) : Int)))), (3, .int (iI nt)), (5, .int (iI wh))]) hx hb d_MO_named_167 hl (k := 4) rfl (iI_add _ _) (by decide) rfl (fun ls hl => ?_)
            refine lv_goto (tgt := 120) hx hb d_MO_named_170 (by decide) ?_
            exact ih sn wh (pk + 1) b2 _ _ ls (by omega) (lv_sub hl [1, 2, 3, 4, 0] rfl) (by exact hs9n) (by omega) (by exact hwh) (by omega) (by omega) (by omega) (by omega) (by first | exact pf_to hpf (by omega) (fun x a9 b9 => (name_part (by omega) a9 b9).trans (pB_yf (c := PTn pk) h_137 (by omega))) | exact pf_to hpf (by omega) (fun x a9 b9 => (name_part (by omega) a9 b9).trans (pB_nf (c := PTn pk) h_137 (by omega)))) hP hD hS
          · refine lv_aload_n hx hb d_MO_named_144 rfl (lv_at hl 0 rfl) ?_
            refine lv_iload_n hx hb d_MO_named_145 rfl (lv_at hl 1 rfl) ?_
            refine lv_aload_n hx hb d_MO_named_146 rfl (lv_at hl 0 rfl) ?_
            refine va_get (D := g.1) (ci := 4) (v := .ref (r 4)) (C := R_MO) (T := F_MO) (N := 9) hx hb ht i_MO hown hK hP 0 rfl rfl 8 (by decide) (ht _ k_426) (fun _ h9 => h9) rfl d_MO_named_147 ?_
            refine lv_iload hx hb d_MO_named_150 (lv_at hl 4 rfl) ?_
            refine ix_iald hx hb hK hP 4 0 rfl rfl (i := (((pk : Nat) : Int))) pk (by omega) d_MO_named_152 ?_
            refine lv_aload_n hx hb d_MO_named_153 rfl (lv_at hl 0 rfl) ?_
            refine va_get (D := g.1) (ci := 4) (v := .ref (r 4)) (C := R_MO) (T := F_MO) (N := 9) hx hb ht i_MO hown hK hP 0 rfl rfl 8 (by decide) (ht _ k_426) (fun _ h9 => h9) rfl d_MO_named_154 ?_
            refine lv_iload hx hb d_MO_named_157 (lv_at hl 4 rfl) ?_
            refine lv_iconst (v := iI 1) hx hb d_MO_named_159 rfl ?_
            refine ix_iadd hx hb d_MO_named_160 ?_
            refine ix_iald hx hb hK hP 4 0 rfl rfl (i := ((((pk : Nat) : Int)) + 1)) (pk + 1) (by omega) d_MO_named_161 ?_
            refine lv_iconst (v := iI 1) hx hb d_MO_named_162 rfl ?_
            refine ix_isub hx hb d_MO_named_163 ?_
            rw [show PT (pk + 1) - 1 = ((PTn (pk + 1) - 1 : Nat) : Int) by omega, e1]
            have hF_164 := va_free (wc := [(r 0, .inr (4, [.int (iI ut), .int (iI uc), .int (iI la), .int (iI wo), .ref (r 1), .ref (r 2), .ref (r 3), .int (iI ms), .ref (r 4)])), (r 1, .inl (zJ g, 139264, .inr (.inl (lA b2)))), (r 2, .inl (zBt g, 12544, .inl (ai kF))), (r 3, .inl (zI g, 4, .inl (ai mt))), (r 4, .inl (zI g, 14, .inl (ai PT)))]) hD hS hA [0, 1, 2, 3, 4] rfl
            refine zcVv (ci := 4) (q0 := 0) (As := [.int (iI (((sn : Nat) : Int))), .int (iI (((PTn pk : Nat) : Int))), .int (iI (((PTn (pk + 1) - 1 : Nat) : Int)))]) (rest := []) ⟨hx, hb, hml, hown, ht⟩ v_MO_121 (c_MO_fill l g H.size r ut uc la wo b2 mt ms sn (PTn pk) (PTn (pk + 1) - 1) (by omega) (by omega) (by omega) hpf.1) ⟨Nat.le_of_ble_eq_true rfl, Nat.le_of_ble_eq_true rfl⟩ ⟨Nat.zero_le _, Nat.zero_le _⟩ hK hZ hS hP (hD.weaken (fun _ _ _ _ => trivial)) hF_164 zP_nil zAp_nil rfl rfl rfl rfl hl.1 rfl (Nat.le_of_ble_eq_true rfl) d_MO_named_164 (fun w_164 H locs h_164 pp_164 dd_164 zz_164 kk_164 hS => ?_)
            obtain ⟨b3, rfl, hfl⟩ := h_164
            rw [show PTn (pk + 1) - 1 + 1 = PTn (pk + 1) by omega] at hfl
            have hP : va_P g.1 classes [(r 0, .inr (4, [.int (iI ut), .int (iI uc), .int (iI la), .int (iI wo), .ref (r 1), .ref (r 2), .ref (r 3), .int (iI ms), .ref (r 4)])), (r 1, .inl (zJ g, 139264, .inr (.inl (lA b3)))), (r 2, .inl (zBt g, 12544, .inl (ai kF))), (r 3, .inl (zI g, 4, .inl (ai mt))), (r 4, .inl (zI g, 14, .inl (ai PT)))] H := pp_164
            have hD : va_D A [(r 0, .inr (4, [.int (iI ut), .int (iI uc), .int (iI la), .int (iI wo), .ref (r 1), .ref (r 2), .ref (r 3), .int (iI ms), .ref (r 4)])), (r 1, .inl (zJ g, 139264, .inr (.inl (lA b3)))), (r 2, .inl (zBt g, 12544, .inl (ai kF))), (r 3, .inl (zI g, 4, .inl (ai mt))), (r 4, .inl (zI g, 14, .inl (ai PT)))] := dd_164.weaken (fun _ _ _ h9 => hF_164 _ h9)
            refine lv_iinc (v := iI ((((pk : Nat) : Int)) + 1)) (lv' := [(7, .int (iI ((((pk : Nat) : Int)) + 1))), (0, .ref (r 0)), (1, .int (iI (((sn : Nat) : Int)))), (3, .int (iI nt)), (5, .int (iI wh))]) hx hb d_MO_named_167 hl (k := 4) rfl (iI_add _ _) (by decide) rfl (fun ls hl => ?_)
            refine lv_goto (tgt := 120) hx hb d_MO_named_170 (by decide) ?_
            exact ih sn wh (pk + 1) b3 _ _ ls (by omega) (lv_sub hl [1, 2, 3, 4, 0] rfl) (by exact hs9n) (by omega) (by exact hwh) (by omega) (by omega) (by omega) (by omega) (by first | exact pf_fill hpf (fun x a9 b9 => (name_part (by omega) a9 b9).trans (pB_yt (c := PTn pk) h_137 (by omega))) hfl (by omega) | exact pf_fill hpf (fun x a9 b9 => (name_part (by omega) a9 b9).trans (pB_nt (c := PTn pk) h_137 (by omega))) hfl (by omega)) hP hD hS
        · refine lv_iload_n hx hb d_MO_named_140 rfl (lv_at hl 2 rfl) ?_
          refine ix_icmp_eq (tgt := 167) hx hb d_MO_named_141 (by decide) (by omega) (fun c_141 => ?_) (fun c_141 => ?_)
          · refine lv_iinc (v := iI ((((pk : Nat) : Int)) + 1)) (lv' := [(7, .int (iI ((((pk : Nat) : Int)) + 1))), (0, .ref (r 0)), (1, .int (iI (((sn : Nat) : Int)))), (3, .int (iI nt)), (5, .int (iI wh))]) hx hb d_MO_named_167 hl (k := 4) rfl (iI_add _ _) (by decide) rfl (fun ls hl => ?_)
            refine lv_goto (tgt := 120) hx hb d_MO_named_170 (by decide) ?_
            exact ih sn wh (pk + 1) b2 _ _ ls (by omega) (lv_sub hl [1, 2, 3, 4, 0] rfl) (by exact hs9n) (by omega) (by exact hwh) (by omega) (by omega) (by omega) (by omega) (by first | exact pf_to hpf (by omega) (fun x a9 b9 => (name_part (by omega) a9 b9).trans (pB_yf (c := PTn pk) h_137 (by omega))) | exact pf_to hpf (by omega) (fun x a9 b9 => (name_part (by omega) a9 b9).trans (pB_nf (c := PTn pk) h_137 (by omega)))) hP hD hS
          · refine lv_aload_n hx hb d_MO_named_144 rfl (lv_at hl 0 rfl) ?_
            refine lv_iload_n hx hb d_MO_named_145 rfl (lv_at hl 1 rfl) ?_
            refine lv_aload_n hx hb d_MO_named_146 rfl (lv_at hl 0 rfl) ?_
            refine va_get (D := g.1) (ci := 4) (v := .ref (r 4)) (C := R_MO) (T := F_MO) (N := 9) hx hb ht i_MO hown hK hP 0 rfl rfl 8 (by decide) (ht _ k_426) (fun _ h9 => h9) rfl d_MO_named_147 ?_
            refine lv_iload hx hb d_MO_named_150 (lv_at hl 4 rfl) ?_
            refine ix_iald hx hb hK hP 4 0 rfl rfl (i := (((pk : Nat) : Int))) pk (by omega) d_MO_named_152 ?_
            refine lv_aload_n hx hb d_MO_named_153 rfl (lv_at hl 0 rfl) ?_
            refine va_get (D := g.1) (ci := 4) (v := .ref (r 4)) (C := R_MO) (T := F_MO) (N := 9) hx hb ht i_MO hown hK hP 0 rfl rfl 8 (by decide) (ht _ k_426) (fun _ h9 => h9) rfl d_MO_named_154 ?_
            refine lv_iload hx hb d_MO_named_157 (lv_at hl 4 rfl) ?_
            refine lv_iconst (v := iI 1) hx hb d_MO_named_159 rfl ?_
            refine ix_iadd hx hb d_MO_named_160 ?_
            refine ix_iald hx hb hK hP 4 0 rfl rfl (i := ((((pk : Nat) : Int)) + 1)) (pk + 1) (by omega) d_MO_named_161 ?_
            refine lv_iconst (v := iI 1) hx hb d_MO_named_162 rfl ?_
            refine ix_isub hx hb d_MO_named_163 ?_
            rw [show PT (pk + 1) - 1 = ((PTn (pk + 1) - 1 : Nat) : Int) by omega, e1]
            have hF_164 := va_free (wc := [(r 0, .inr (4, [.int (iI ut), .int (iI uc), .int (iI la), .int (iI wo), .ref (r 1), .ref (r 2), .ref (r 3), .int (iI ms), .ref (r 4)])), (r 1, .inl (zJ g, 139264, .inr (.inl (lA b2)))), (r 2, .inl (zBt g, 12544, .inl (ai kF))), (r 3, .inl (zI g, 4, .inl (ai mt))), (r 4, .inl (zI g, 14, .inl (ai PT)))]) hD hS hA [0, 1, 2, 3, 4] rfl
            refine zcVv (ci := 4) (q0 := 0) (As := [.int (iI (((sn : Nat) : Int))), .int (iI (((PTn pk : Nat) : Int))), .int (iI (((PTn (pk + 1) - 1 : Nat) : Int)))]) (rest := []) ⟨hx, hb, hml, hown, ht⟩ v_MO_121 (c_MO_fill l g H.size r ut uc la wo b2 mt ms sn (PTn pk) (PTn (pk + 1) - 1) (by omega) (by omega) (by omega) hpf.1) ⟨Nat.le_of_ble_eq_true rfl, Nat.le_of_ble_eq_true rfl⟩ ⟨Nat.zero_le _, Nat.zero_le _⟩ hK hZ hS hP (hD.weaken (fun _ _ _ _ => trivial)) hF_164 zP_nil zAp_nil rfl rfl rfl rfl hl.1 rfl (Nat.le_of_ble_eq_true rfl) d_MO_named_164 (fun w_164 H locs h_164 pp_164 dd_164 zz_164 kk_164 hS => ?_)
            obtain ⟨b3, rfl, hfl⟩ := h_164
            rw [show PTn (pk + 1) - 1 + 1 = PTn (pk + 1) by omega] at hfl
            have hP : va_P g.1 classes [(r 0, .inr (4, [.int (iI ut), .int (iI uc), .int (iI la), .int (iI wo), .ref (r 1), .ref (r 2), .ref (r 3), .int (iI ms), .ref (r 4)])), (r 1, .inl (zJ g, 139264, .inr (.inl (lA b3)))), (r 2, .inl (zBt g, 12544, .inl (ai kF))), (r 3, .inl (zI g, 4, .inl (ai mt))), (r 4, .inl (zI g, 14, .inl (ai PT)))] H := pp_164
            have hD : va_D A [(r 0, .inr (4, [.int (iI ut), .int (iI uc), .int (iI la), .int (iI wo), .ref (r 1), .ref (r 2), .ref (r 3), .int (iI ms), .ref (r 4)])), (r 1, .inl (zJ g, 139264, .inr (.inl (lA b3)))), (r 2, .inl (zBt g, 12544, .inl (ai kF))), (r 3, .inl (zI g, 4, .inl (ai mt))), (r 4, .inl (zI g, 14, .inl (ai PT)))] := dd_164.weaken (fun _ _ _ h9 => hF_164 _ h9)
            refine lv_iinc (v := iI ((((pk : Nat) : Int)) + 1)) (lv' := [(7, .int (iI ((((pk : Nat) : Int)) + 1))), (0, .ref (r 0)), (1, .int (iI (((sn : Nat) : Int)))), (3, .int (iI nt)), (5, .int (iI wh))]) hx hb d_MO_named_167 hl (k := 4) rfl (iI_add _ _) (by decide) rfl (fun ls hl => ?_)
            refine lv_goto (tgt := 120) hx hb d_MO_named_170 (by decide) ?_
            exact ih sn wh (pk + 1) b3 _ _ ls (by omega) (lv_sub hl [1, 2, 3, 4, 0] rfl) (by exact hs9n) (by omega) (by exact hwh) (by omega) (by omega) (by omega) (by omega) (by first | exact pf_fill hpf (fun x a9 b9 => (name_part (by omega) a9 b9).trans (pB_yt (c := PTn pk) h_137 (by omega))) hfl (by omega) | exact pf_fill hpf (fun x a9 b9 => (name_part (by omega) a9 b9).trans (pB_nt (c := PTn pk) h_137 (by omega))) hfl (by omega)) hP hD hS
  have J72 : ∀ fu : Nat, ∀ (sn : Nat) (wh : Int) (nb c : Nat) (b2 : Nat → Nat) (H : Heap) (locs : List Loc) (ls : Array Slot), nb - c < fu → lv_has ls 8 [(0, .ref (r 0)), (1, .int (iI (((sn : Nat) : Int)))), (3, .int (iI nt)), (5, .int (iI wh)), (6, .int (iI (((nb : Nat) : Int)))), (7, .int (iI (((c : Nat) : Int))))] → (s9 = ((sn : Nat) : Int)) → (sn < 8) → (wh = whN k cl) → (0 ≤ wh ∧ wh ≤ 18) → (0 ≤ k ∧ k ≤ 18) → ((nb = 256 ∧ ut = 0 ∧ last = 255) ∨ (nb = 12544 ∧ ut = 1 ∧ last = 1114111)) → (c ≤ nb) → (pf bw b2 sn (pB (nameF uc wh) nt) c) → va_P g.1 classes ([(r 0, .inr (4, [.int (iI ut), .int (iI uc), .int (iI la), .int (iI wo), .ref (r 1), .ref (r 2), .ref (r 3), .int (iI ms), .ref (r 4)])), (r 1, .inl (zJ g, 139264, .inr (.inl (lA b2)))), (r 2, .inl (zBt g, 12544, .inl (ai kF))), (r 3, .inl (zI g, 4, .inl (ai mt))), (r 4, .inl (zI g, 14, .inl (ai PT)))]) H → va_D A ([(r 0, .inr (4, [.int (iI ut), .int (iI uc), .int (iI la), .int (iI wo), .ref (r 1), .ref (r 2), .ref (r 3), .int (iI ms), .ref (r 4)])), (r 1, .inl (zJ g, 139264, .inr (.inl (lA b2)))), (r 2, .inl (zBt g, 12544, .inl (ai kF))), (r 3, .inl (zI g, 4, .inl (ai mt))), (r 4, .inl (zI g, 14, .inl (ai PT)))]) → va_S A s.heap H locs → W p l e (headSpec w_MO_named { frames := 5, cells := 0, slots := 0, locals := 112 }).room s m args below meth cd H locs 0 0 Q (F0 m 72 ls []) := by
    intro fu
    induction fu with
    | zero => exact fun _ _ _ _ _ _ _ _ hfu _ _ _ _ _ _ _ _ _ _ _ _ => absurd hfu (Nat.not_lt_zero _)
    | succ fu ih =>
      intro sn wh nb c b2 H locs ls hfu hl hs9n hsn8 hwh hwb hk9 hnb h1 hpf hP hD hS
      refine lv_iload hx hb d_MO_named_72 (lv_at hl 5 rfl) ?_
      refine lv_iload hx hb d_MO_named_74 (lv_at hl 4 rfl) ?_
      refine ix_icmp_ge (tgt := 104) hx hb d_MO_named_76 (by decide) (by omega) (fun c_76 => ?_) (fun c_76 => ?_)
      · have hcn : c = nb := by omega
        rw [hcn] at hpf
        refine lv_aload_n hx hb d_MO_named_104 rfl (lv_at hl 0 rfl) ?_
        refine va_get (D := g.1) (ci := 4) (v := .int (iI ut)) (C := R_MO) (T := F_MO) (N := 9) hx hb ht i_MO hown hK hP 0 rfl rfl 0 (by decide) (ht _ k_418) (fun _ h9 => h9) rfl d_MO_named_105 ?_
        refine ix_if_ne (tgt := 117) hx hb d_MO_named_108 (by decide) (by omega) (fun c_108 => ?_) (fun c_108 => ?_)
        · refine lv_iconst (v := iI 0) hx hb d_MO_named_117 rfl ?_
          refine lv_istore (lv' := [(7, .int (iI 0)), (0, .ref (r 0)), (1, .int (iI (((sn : Nat) : Int)))), (3, .int (iI nt)), (5, .int (iI wh)), (6, .int (iI (((nb : Nat) : Int))))]) hx hb d_MO_named_118 hl (by decide) rfl (fun ls hl => ?_)
          exact J120 (_ + 1) sn wh 0 b2 _ _ ls (Nat.lt_succ_self _) (lv_sub hl [1, 2, 3, 4, 0] rfl) (by exact hs9n) (by omega) (by exact hwh) (by omega) (by omega) (by omega) (by omega) (by have e9 : nb = PTn 0 := (show nb = 12544 by omega); rw [← e9]; exact hpf) hP hD hS
        · rw [show nb = 256 by omega] at hpf
          refine lv_aload_n hx hb d_MO_named_111 rfl (lv_at hl 0 rfl) ?_
          refine lv_iload_n hx hb d_MO_named_112 rfl (lv_at hl 1 rfl) ?_
          refine zcV (ci := 4) (q0 := 0) (As := [.int (iI (((sn : Nat) : Int)))]) (rest := []) ⟨hx, hb, hml, hown, ht⟩ v_MO_124 (c_MO_ranges l g r ut uc la wo b2 mt ms sn nw hwo hnw (by omega) hpf.1) ⟨Nat.le_of_ble_eq_true rfl, Nat.le_of_ble_eq_true rfl⟩ ⟨Nat.zero_le _, Nat.zero_le _⟩ hK hZ hS hP rfl rfl rfl rfl hl.1 rfl (Nat.le_of_ble_eq_true rfl) d_MO_named_113 (fun r_113 h_113 => ?_)
          subst h_113
          subst hQ
          exact W.iret (v := iI ((((cnt (rst (bt b2 sn)) (64 * nw)) : Nat) : Int))) hx hb hr (fun t h9 hW => ⟨⟨_, _, rfl, Or.inr ⟨by omega, b2, rfl, by rw [hs9n, ← hwh, show last + 1 = 256 by omega]; exact pf_chg hpf (by omega), by rw [hs9n, ← hwh, hlw, show last + 1 = 256 by omega]; exact congrArg (fun x : Nat => iI (x : Int)) (chg_r (pf_chg hpf (by omega)))⟩, by rw [h9]; exact hP, va_K.moved hW.alike hK, hD⟩, hS.F h9⟩) hS.2.2 d_MO_named_116
      · refine lv_aload_n hx hb d_MO_named_79 rfl (lv_at hl 0 rfl) ?_
        refine lv_iload hx hb d_MO_named_80 (lv_at hl 3 rfl) ?_
        refine lv_iload hx hb d_MO_named_82 (lv_at hl 5 rfl) ?_
        refine zcV (ci := 4) (q0 := 0) (As := [.int (iI wh), .int (iI (((c : Nat) : Int)))]) (rest := []) ⟨hx, hb, hml, hown, ht⟩ v_MO_152 (c_MO_names l g r ut uc la wo b2 mt ms wh (((c : Nat) : Int)) huc (by omega) (by omega)) ⟨Nat.le_of_ble_eq_true rfl, Nat.le_of_ble_eq_true rfl⟩ ⟨Nat.zero_le _, Nat.zero_le _⟩ hK hZ hS hP rfl rfl rfl rfl hl.1 rfl (Nat.le_of_ble_eq_true rfl) d_MO_named_84 (fun r_84 h_84 => ?_)
        rcases h_84 with ⟨h_84, rfl⟩ | ⟨h_84, rfl⟩
        · refine lv_iload_n hx hb d_MO_named_87 rfl (lv_at hl 2 rfl) ?_
          refine ix_icmp_eq (tgt := 98) hx hb d_MO_named_88 (by decide) (by omega) (fun c_88 => ?_) (fun c_88 => ?_)
          · refine lv_iinc (v := iI ((((c : Nat) : Int)) + 1)) (lv' := [(7, .int (iI ((((c : Nat) : Int)) + 1))), (0, .ref (r 0)), (1, .int (iI (((sn : Nat) : Int)))), (3, .int (iI nt)), (5, .int (iI wh)), (6, .int (iI (((nb : Nat) : Int))))]) hx hb d_MO_named_98 hl (k := 5) rfl (iI_add _ _) (by decide) rfl (fun ls hl => ?_)
            refine lv_goto (tgt := 72) hx hb d_MO_named_101 (by decide) ?_
            exact ih sn wh nb (c + 1) b2 _ _ ls (by omega) (lv_sub hl [1, 2, 3, 4, 5, 0] rfl) (by exact hs9n) (by omega) (by exact hwh) (by omega) (by omega) (by omega) (by omega) (by first | exact pf_skip hpf (pB_yf h_84 (by omega)) | exact pf_skip hpf (pB_nf h_84 (by omega))) hP hD hS
          · refine lv_aload_n hx hb d_MO_named_91 rfl (lv_at hl 0 rfl) ?_
            refine lv_iload_n hx hb d_MO_named_92 rfl (lv_at hl 1 rfl) ?_
            refine lv_iload hx hb d_MO_named_93 (lv_at hl 5 rfl) ?_
            have hF_95 := va_free (wc := [(r 0, .inr (4, [.int (iI ut), .int (iI uc), .int (iI la), .int (iI wo), .ref (r 1), .ref (r 2), .ref (r 3), .int (iI ms), .ref (r 4)])), (r 1, .inl (zJ g, 139264, .inr (.inl (lA b2)))), (r 2, .inl (zBt g, 12544, .inl (ai kF))), (r 3, .inl (zI g, 4, .inl (ai mt))), (r 4, .inl (zI g, 14, .inl (ai PT)))]) hD hS hA [0, 1, 2, 3, 4] rfl
            refine zcVv (ci := 4) (q0 := 0) (As := [.int (iI (((sn : Nat) : Int))), .int (iI (((c : Nat) : Int)))]) (rest := []) ⟨hx, hb, hml, hown, ht⟩ v_MO_101 (c_MO_put l g H.size r ut uc la wo b2 mt ms sn c (by omega) (by omega) hpf.1) ⟨Nat.le_of_ble_eq_true rfl, Nat.le_of_ble_eq_true rfl⟩ ⟨Nat.zero_le _, Nat.zero_le _⟩ hK hZ hS hP (hD.weaken (fun _ _ _ _ => trivial)) hF_95 zP_nil zAp_nil rfl rfl rfl rfl hl.1 rfl (Nat.le_of_ble_eq_true rfl) d_MO_named_95 (fun w_95 H locs h_95 pp_95 dd_95 zz_95 kk_95 hS => ?_)
            subst h_95
            have hP : va_P g.1 classes [(r 0, .inr (4, [.int (iI ut), .int (iI uc), .int (iI la), .int (iI wo), .ref (r 1), .ref (r 2), .ref (r 3), .int (iI ms), .ref (r 4)])), (r 1, .inl (zJ g, 139264, .inr (.inl (lA (va_up b2 (sn * 17408 + c / 64) (b2 (sn * 17408 + c / 64) ||| 2 ^ (c % 64))))))), (r 2, .inl (zBt g, 12544, .inl (ai kF))), (r 3, .inl (zI g, 4, .inl (ai mt))), (r 4, .inl (zI g, 14, .inl (ai PT)))] H := pp_95
            have hD : va_D A [(r 0, .inr (4, [.int (iI ut), .int (iI uc), .int (iI la), .int (iI wo), .ref (r 1), .ref (r 2), .ref (r 3), .int (iI ms), .ref (r 4)])), (r 1, .inl (zJ g, 139264, .inr (.inl (lA (va_up b2 (sn * 17408 + c / 64) (b2 (sn * 17408 + c / 64) ||| 2 ^ (c % 64))))))), (r 2, .inl (zBt g, 12544, .inl (ai kF))), (r 3, .inl (zI g, 4, .inl (ai mt))), (r 4, .inl (zI g, 14, .inl (ai PT)))] := dd_95.weaken (fun _ _ _ h9 => hF_95 _ h9)
            refine lv_iinc (v := iI ((((c : Nat) : Int)) + 1)) (lv' := [(7, .int (iI ((((c : Nat) : Int)) + 1))), (0, .ref (r 0)), (1, .int (iI (((sn : Nat) : Int)))), (3, .int (iI nt)), (5, .int (iI wh)), (6, .int (iI (((nb : Nat) : Int))))]) hx hb d_MO_named_98 hl (k := 5) rfl (iI_add _ _) (by decide) rfl (fun ls hl => ?_)
            refine lv_goto (tgt := 72) hx hb d_MO_named_101 (by decide) ?_
            exact ih sn wh nb (c + 1) (va_up b2 (sn * 17408 + c / 64) (b2 (sn * 17408 + c / 64) ||| 2 ^ (c % 64))) _ _ ls (by omega) (lv_sub hl [1, 2, 3, 4, 5, 0] rfl) (by exact hs9n) (by omega) (by exact hwh) (by omega) (by omega) (by omega) (by omega) (by first | exact pf_put hpf (pB_yt h_84 (by omega)) (by omega) | exact pf_put hpf (pB_nt h_84 (by omega)) (by omega)) hP hD hS
        · refine lv_iload_n hx hb d_MO_named_87 rfl (lv_at hl 2 rfl) ?_
          refine ix_icmp_eq (tgt := 98) hx hb d_MO_named_88 (by decide) (by omega) (fun c_88 => ?_) (fun c_88 => ?_)
          · refine lv_iinc (v := iI ((((c : Nat) : Int)) + 1)) (lv' := [(7, .int (iI ((((c : Nat) : Int)) + 1))), (0, .ref (r 0)), (1, .int (iI (((sn : Nat) : Int)))), (3, .int (iI nt)), (5, .int (iI wh)), (6, .int (iI (((nb : Nat) : Int))))]) hx hb d_MO_named_98 hl (k := 5) rfl (iI_add _ _) (by decide) rfl (fun ls hl => ?_)
            refine lv_goto (tgt := 72) hx hb d_MO_named_101 (by decide) ?_
            exact ih sn wh nb (c + 1) b2 _ _ ls (by omega) (lv_sub hl [1, 2, 3, 4, 5, 0] rfl) (by exact hs9n) (by omega) (by exact hwh) (by omega) (by omega) (by omega) (by omega) (by first | exact pf_skip hpf (pB_yf h_84 (by omega)) | exact pf_skip hpf (pB_nf h_84 (by omega))) hP hD hS
          · refine lv_aload_n hx hb d_MO_named_91 rfl (lv_at hl 0 rfl) ?_
            refine lv_iload_n hx hb d_MO_named_92 rfl (lv_at hl 1 rfl) ?_
            refine lv_iload hx hb d_MO_named_93 (lv_at hl 5 rfl) ?_
            have hF_95 := va_free (wc := [(r 0, .inr (4, [.int (iI ut), .int (iI uc), .int (iI la), .int (iI wo), .ref (r 1), .ref (r 2), .ref (r 3), .int (iI ms), .ref (r 4)])), (r 1, .inl (zJ g, 139264, .inr (.inl (lA b2)))), (r 2, .inl (zBt g, 12544, .inl (ai kF))), (r 3, .inl (zI g, 4, .inl (ai mt))), (r 4, .inl (zI g, 14, .inl (ai PT)))]) hD hS hA [0, 1, 2, 3, 4] rfl
            refine zcVv (ci := 4) (q0 := 0) (As := [.int (iI (((sn : Nat) : Int))), .int (iI (((c : Nat) : Int)))]) (rest := []) ⟨hx, hb, hml, hown, ht⟩ v_MO_101 (c_MO_put l g H.size r ut uc la wo b2 mt ms sn c (by omega) (by omega) hpf.1) ⟨Nat.le_of_ble_eq_true rfl, Nat.le_of_ble_eq_true rfl⟩ ⟨Nat.zero_le _, Nat.zero_le _⟩ hK hZ hS hP (hD.weaken (fun _ _ _ _ => trivial)) hF_95 zP_nil zAp_nil rfl rfl rfl rfl hl.1 rfl (Nat.le_of_ble_eq_true rfl) d_MO_named_95 (fun w_95 H locs h_95 pp_95 dd_95 zz_95 kk_95 hS => ?_)
            subst h_95
            have hP : va_P g.1 classes [(r 0, .inr (4, [.int (iI ut), .int (iI uc), .int (iI la), .int (iI wo), .ref (r 1), .ref (r 2), .ref (r 3), .int (iI ms), .ref (r 4)])), (r 1, .inl (zJ g, 139264, .inr (.inl (lA (va_up b2 (sn * 17408 + c / 64) (b2 (sn * 17408 + c / 64) ||| 2 ^ (c % 64))))))), (r 2, .inl (zBt g, 12544, .inl (ai kF))), (r 3, .inl (zI g, 4, .inl (ai mt))), (r 4, .inl (zI g, 14, .inl (ai PT)))] H := pp_95
            have hD : va_D A [(r 0, .inr (4, [.int (iI ut), .int (iI uc), .int (iI la), .int (iI wo), .ref (r 1), .ref (r 2), .ref (r 3), .int (iI ms), .ref (r 4)])), (r 1, .inl (zJ g, 139264, .inr (.inl (lA (va_up b2 (sn * 17408 + c / 64) (b2 (sn * 17408 + c / 64) ||| 2 ^ (c % 64))))))), (r 2, .inl (zBt g, 12544, .inl (ai kF))), (r 3, .inl (zI g, 4, .inl (ai mt))), (r 4, .inl (zI g, 14, .inl (ai PT)))] := dd_95.weaken (fun _ _ _ h9 => hF_95 _ h9)
            refine lv_iinc (v := iI ((((c : Nat) : Int)) + 1)) (lv' := [(7, .int (iI ((((c : Nat) : Int)) + 1))), (0, .ref (r 0)), (1, .int (iI (((sn : Nat) : Int)))), (3, .int (iI nt)), (5, .int (iI wh)), (6, .int (iI (((nb : Nat) : Int))))]) hx hb d_MO_named_98 hl (k := 5) rfl (iI_add _ _) (by decide) rfl (fun ls hl => ?_)
            refine lv_goto (tgt := 72) hx hb d_MO_named_101 (by decide) ?_
            exact ih sn wh nb (c + 1) (va_up b2 (sn * 17408 + c / 64) (b2 (sn * 17408 + c / 64) ||| 2 ^ (c % 64))) _ _ ls (by omega) (lv_sub hl [1, 2, 3, 4, 5, 0] rfl) (by exact hs9n) (by omega) (by exact hwh) (by omega) (by omega) (by omega) (by omega) (by first | exact pf_put hpf (pB_yt h_84 (by omega)) (by omega) | exact pf_put hpf (pB_nt h_84 (by omega)) (by omega)) hP hD hS
  have J45 : ∀ (sn : Nat) (wh : Int) (H : Heap) (locs : List Loc) (ls : Array Slot), lv_has ls 8 [(0, .ref (r 0)), (1, .int (iI (((sn : Nat) : Int)))), (3, .int (iI nt)), (5, .int (iI wh))] → (s9 = ((sn : Nat) : Int)) → (sn < 8) → (wh = whN k cl) → (0 ≤ wh ∧ wh ≤ 18) → (0 ≤ k ∧ k ≤ 18) → va_P g.1 classes ([(r 0, .inr (4, [.int (iI ut), .int (iI uc), .int (iI la), .int (iI wo), .ref (r 1), .ref (r 2), .ref (r 3), .int (iI ms), .ref (r 4)])), (r 1, .inl (zJ g, 139264, .inr (.inl (lA bw)))), (r 2, .inl (zBt g, 12544, .inl (ai kF))), (r 3, .inl (zI g, 4, .inl (ai mt))), (r 4, .inl (zI g, 14, .inl (ai PT)))]) H → va_D A ([(r 0, .inr (4, [.int (iI ut), .int (iI uc), .int (iI la), .int (iI wo), .ref (r 1), .ref (r 2), .ref (r 3), .int (iI ms), .ref (r 4)])), (r 1, .inl (zJ g, 139264, .inr (.inl (lA bw)))), (r 2, .inl (zBt g, 12544, .inl (ai kF))), (r 3, .inl (zI g, 4, .inl (ai mt))), (r 4, .inl (zI g, 14, .inl (ai PT)))]) → va_S A s.heap H locs → W p l e (headSpec w_MO_named { frames := 5, cells := 0, slots := 0, locals := 112 }).room s m args below meth cd H locs 0 0 Q (F0 m 45 ls []) := by
    intro sn wh H locs ls hl hs9n hsn8 hwh hwb hk9 hP hD hS
    refine lv_aload_n hx hb d_MO_named_45 rfl (lv_at hl 0 rfl) ?_
    refine va_get (D := g.1) (ci := 4) (v := .int (iI la)) (C := R_MO) (T := F_MO) (N := 9) hx hb ht i_MO hown hK hP 0 rfl rfl 2 (by decide) (ht _ k_420) (fun _ h9 => h9) rfl d_MO_named_46 ?_
    refine lv_sipush (v := iI 12544) hx hb d_MO_named_49 (by decide) ?_
    refine ix_icmp_ge (tgt := 64) hx hb d_MO_named_52 (by decide) (by omega) (fun c_52 => ?_) (fun c_52 => ?_)
    · refine lv_sipush (v := iI 12544) hx hb d_MO_named_64 (by decide) ?_
      refine lv_istore (lv' := [(6, .int (iI 12544)), (0, .ref (r 0)), (1, .int (iI (((sn : Nat) : Int)))), (3, .int (iI nt)), (5, .int (iI wh))]) hx hb d_MO_named_67 hl (by decide) rfl (fun ls hl => ?_)
      refine lv_iconst (v := iI 0) hx hb d_MO_named_69 rfl ?_
      refine lv_istore (lv' := [(7, .int (iI 0)), (6, .int (iI 12544)), (0, .ref (r 0)), (1, .int (iI (((sn : Nat) : Int)))), (3, .int (iI nt)), (5, .int (iI wh))]) hx hb d_MO_named_70 hl (by decide) rfl (fun ls hl => ?_)
      exact J72 (_ + 1) sn wh 12544 0 bw _ _ ls (Nat.lt_succ_self _) (lv_sub hl [2, 3, 4, 5, 1, 0] rfl) (by exact hs9n) (by omega) (by exact hwh) (by omega) (by omega) (by omega) (by omega) (by exact pf_0 hbw) hP hD hS
    · refine lv_aload_n hx hb d_MO_named_55 rfl (lv_at hl 0 rfl) ?_
      refine va_get (D := g.1) (ci := 4) (v := .int (iI la)) (C := R_MO) (T := F_MO) (N := 9) hx hb ht i_MO hown hK hP 0 rfl rfl 2 (by decide) (ht _ k_420) (fun _ h9 => h9) rfl d_MO_named_56 ?_
      refine lv_iconst (v := iI 1) hx hb d_MO_named_59 rfl ?_
      refine ix_iadd hx hb d_MO_named_60 ?_
      refine lv_goto (tgt := 67) hx hb d_MO_named_61 (by decide) ?_
      rw [show la + 1 = 256 by omega]
      refine lv_istore (lv' := [(6, .int (iI 256)), (0, .ref (r 0)), (1, .int (iI (((sn : Nat) : Int)))), (3, .int (iI nt)), (5, .int (iI wh))]) hx hb d_MO_named_67 hl (by decide) rfl (fun ls hl => ?_)
      refine lv_iconst (v := iI 0) hx hb d_MO_named_69 rfl ?_
      refine lv_istore (lv' := [(7, .int (iI 0)), (6, .int (iI 256)), (0, .ref (r 0)), (1, .int (iI (((sn : Nat) : Int)))), (3, .int (iI nt)), (5, .int (iI wh))]) hx hb d_MO_named_70 hl (by decide) rfl (fun ls hl => ?_)
      exact J72 (_ + 1) sn wh 256 0 bw _ _ ls (Nat.lt_succ_self _) (lv_sub hl [2, 3, 4, 5, 1, 0] rfl) (by exact hs9n) (by omega) (by exact hwh) (by omega) (by omega) (by omega) (by omega) (by exact pf_0 hbw) hP hD hS
  refine lv_aload_n hx hb d_MO_named_0 rfl (lv_at hl 0 rfl) ?_
  refine lv_iload_n hx hb d_MO_named_1 rfl (lv_at hl 1 rfl) ?_
  refine zcV (ci := 4) (q0 := 0) (As := [.int (iI s9)]) (rest := []) ⟨hx, hb, hml, hown, ht⟩ v_MO_117 (c_MO_none l g r ut uc la wo bw mt ms s9 (by omega)) ⟨Nat.le_of_ble_eq_true rfl, Nat.le_of_ble_eq_true rfl⟩ ⟨Nat.zero_le _, Nat.zero_le _⟩ hK hZ hS hP rfl rfl rfl rfl hl.1 rfl (Nat.le_of_ble_eq_true rfl) d_MO_named_2 (fun r_2 h_2 => ?_)
  rcases h_2 with ⟨h_2, rfl⟩ | ⟨h_2, rfl⟩
  · refine ix_if_ne (tgt := 18) hx hb d_MO_named_5 (by decide) (by omega) (fun c_5 => ?_) (fun c_5 => ?_)
    · refine lv_bipush (v := iI (-2)) hx hb d_MO_named_18 (by decide) ?_
      subst hQ
      exact W.iret (v := iI ((-2))) hx hb hr (fun t h9 hW => ⟨⟨_, _, rfl, Or.inl ⟨by omega, rfl, rfl⟩, by rw [h9]; exact hP, va_K.moved hW.alike hK, hD⟩, hS.F h9⟩) hS.2.2 d_MO_named_20
    · exact absurd c_5 (by decide)
  · refine ix_if_ne (tgt := 18) hx hb d_MO_named_5 (by decide) (by omega) (fun c_5 => ?_) (fun c_5 => ?_)
    · exact absurd c_5 (by decide)
    · refine lv_iload_n hx hb d_MO_named_8 rfl (lv_at hl 2 rfl) ?_
      refine ix_if_lt (tgt := 18) hx hb d_MO_named_9 (by decide) (by omega) (fun c_9 => ?_) (fun c_9 => ?_)
      · refine lv_bipush (v := iI (-2)) hx hb d_MO_named_18 (by decide) ?_
        subst hQ
        exact W.iret (v := iI ((-2))) hx hb hr (fun t h9 hW => ⟨⟨_, _, rfl, Or.inl ⟨by omega, rfl, rfl⟩, by rw [h9]; exact hP, va_K.moved hW.alike hK, hD⟩, hS.F h9⟩) hS.2.2 d_MO_named_20
      · refine lv_iload_n hx hb d_MO_named_12 rfl (lv_at hl 2 rfl) ?_
        refine lv_bipush (v := iI 18) hx hb d_MO_named_13 (by decide) ?_
        refine ix_icmp_le (tgt := 21) hx hb d_MO_named_15 (by decide) (by omega) (fun c_15 => ?_) (fun c_15 => ?_)
        · obtain ⟨sn, hsn⟩ : ∃ sn : Nat, s9 = ((sn : Nat) : Int) := ⟨s9.toNat, by omega⟩
          rw [hsn] at hl
          refine lv_iload hx hb d_MO_named_21 (lv_at hl 4 rfl) ?_
          refine ix_if_eq (tgt := 42) hx hb d_MO_named_23 (by decide) (by omega) (fun c_23 => ?_) (fun c_23 => ?_)
          · refine lv_iload_n hx hb d_MO_named_42 rfl (lv_at hl 2 rfl) ?_
            refine lv_istore (lv' := [(5, .int (iI k)), (0, .ref (r 0)), (1, .int (iI (((sn : Nat) : Int)))), (2, .int (iI k)), (3, .int (iI nt)), (4, .int (iI cl))]) hx hb d_MO_named_43 hl (by decide) rfl (fun ls hl => ?_)
            exact J45 sn k _ _ ls (lv_sub hl [1, 2, 4, 0] rfl) (by exact hsn) (by omega) (by unfold whN; first | rw [if_pos (by omega)] | rw [if_neg (by omega)]) (by omega) (by omega) hP hD hS
          · refine lv_iload_n hx hb d_MO_named_26 rfl (lv_at hl 2 rfl) ?_
            refine lv_bipush (v := iI 6) hx hb d_MO_named_27 (by decide) ?_
            refine ix_icmp_eq (tgt := 38) hx hb d_MO_named_29 (by decide) (by omega) (fun c_29 => ?_) (fun c_29 => ?_)
            · refine lv_iconst (v := iI 5) hx hb d_MO_named_38 rfl ?_
              refine lv_goto (tgt := 43) hx hb d_MO_named_39 (by decide) ?_
              refine lv_istore (lv' := [(5, .int (iI 5)), (0, .ref (r 0)), (1, .int (iI (((sn : Nat) : Int)))), (2, .int (iI k)), (3, .int (iI nt)), (4, .int (iI cl))]) hx hb d_MO_named_43 hl (by decide) rfl (fun ls hl => ?_)
              exact J45 sn 5 _ _ ls (lv_sub hl [1, 2, 4, 0] rfl) (by exact hsn) (by omega) (by unfold whN; first | rw [if_pos (by omega)] | rw [if_neg (by omega)]) (by omega) (by omega) hP hD hS
            · refine lv_iload_n hx hb d_MO_named_32 rfl (lv_at hl 2 rfl) ?_
              refine lv_bipush (v := iI 7) hx hb d_MO_named_33 (by decide) ?_
              refine ix_icmp_ne (tgt := 42) hx hb d_MO_named_35 (by decide) (by omega) (fun c_35 => ?_) (fun c_35 => ?_)
              · refine lv_iload_n hx hb d_MO_named_42 rfl (lv_at hl 2 rfl) ?_
                refine lv_istore (lv' := [(5, .int (iI k)), (0, .ref (r 0)), (1, .int (iI (((sn : Nat) : Int)))), (2, .int (iI k)), (3, .int (iI nt)), (4, .int (iI cl))]) hx hb d_MO_named_43 hl (by decide) rfl (fun ls hl => ?_)
                exact J45 sn k _ _ ls (lv_sub hl [1, 2, 4, 0] rfl) (by exact hsn) (by omega) (by unfold whN; first | rw [if_pos (by omega)] | rw [if_neg (by omega)]) (by omega) (by omega) hP hD hS
              · refine lv_iconst (v := iI 5) hx hb d_MO_named_38 rfl ?_
                refine lv_goto (tgt := 43) hx hb d_MO_named_39 (by decide) ?_
                refine lv_istore (lv' := [(5, .int (iI 5)), (0, .ref (r 0)), (1, .int (iI (((sn : Nat) : Int)))), (2, .int (iI k)), (3, .int (iI nt)), (4, .int (iI cl))]) hx hb d_MO_named_43 hl (by decide) rfl (fun ls hl => ?_)
                exact J45 sn 5 _ _ ls (lv_sub hl [1, 2, 4, 0] rfl) (by exact hsn) (by omega) (by unfold whN; first | rw [if_pos (by omega)] | rw [if_neg (by omega)]) (by omega) (by omega) hP hD hS
        · refine lv_bipush (v := iI (-2)) hx hb d_MO_named_18 (by decide) ?_
          subst hQ
          exact W.iret (v := iI ((-2))) hx hb hr (fun t h9 hW => ⟨⟨_, _, rfl, Or.inl ⟨by omega, rfl, rfl⟩, by rw [h9]; exact hP, va_K.moved hW.alike hK, hD⟩, hS.F h9⟩) hS.2.2 d_MO_named_20
