/-- a character is in the set that these edges tell -/
def inE (es : Nat → Int) (n : Nat) (x : Int) : Prop := ∃ k, Up es n x k ∧ k % 2 = 1
theorem nxF_bd {NX : Nat → Int} (h : ∀ j, j < 1122 → 0 ≤ NX j ∧ NX j ≤ 1114111) {c : Int} (hc : 0 ≤ c ∧ c ≤ 1114111) : 0 ≤ nxF NX c ∧ nxF NX c ≤ 1114111 := by
  have hs := slF_bd c
  unfold nxF
  split
  · exact hc
  · exact h _ (by omega)
def misF (NX : Nat → Int) (es : Nat → Int) (n : Nat) (c : Int) : Prop := (¬ nxF NX c = c ∧ ¬ inE es n c) ∧ (inE es n (nxF NX c) ∨ inE es n (nxF NX (nxF NX c)))
set_option maxHeartbeats 4000000 in
set_option maxRecDepth 100000 in
theorem c_CS_isMissing (l : Launch) (g : zG) (q : Nat → Nat) (u la : Int) (NX : Nat → Int) (n : Nat → Nat) (es : Nat → Nat → Int) (sn : Nat) (c : Int) (hsn8 : sn < 8) (hc : 0 ≤ c ∧ c ≤ 1114111) (hNX : ∀ j, j < 1122 → 0 ≤ NX j ∧ NX j ≤ 1114111) (hok : ∀ k, k < 9 → asc (es k) (n k) ∧ n k ≤ 2046 ∧ ∀ i, i < n k → 0 ≤ es k i ∧ es k i ≤ 1114112) : Met l y_CS_isMissing w_CS_isMissing (zr 2 45) (zP g [.ref (q 0), .ref (q (8 + 2 * sn)), .int (iI c)] (cw g q u la NX n es)) (vp_Si (fun z => ((misF NX (es sn) (n sn) c) ∧ z = iI 1) ∨ (¬ (misF NX (es sn) (n sn) c) ∧ z = iI 0))) 0 0 (fun _ => False) := by
  refine Met.ofW (cc := b_CS_isMissing) (maxL := 4) (ret := (some .boolean)) (by decide) rfl ?_
  intro p e s m args below meth cd s₁ B hml hv
  obtain ⟨hargs, hP, hK, hZ⟩ := hv
  have hx := B.exec
  have hb := B.bytes
  have hr := B.returns
  have ht : ∀ w ∈ lw_ok, w.before args s = true := fun w h => atoms_spec (ws := w_CS_isMissing) B.pre w (List.mem_cons_of_mem _ h)
  have hown : s.vm.findClass R_CS = some m.cls := findClass_of_methodNamed B.named
  have hlocks := B.notSynchronized
  have hS : va_S (fun _ => False) s.heap s.heap [] := va_S.rf
  generalize hQ : MQ below _ args s 0 0 _ = Q
  have hl := lv_entry ([.ref (q 0), .ref (q (8 + 2 * sn)), .int (iI c)]) (n := 4) (Nat.le_of_ble_eq_true rfl)
  rw [show entryFrame m args 4 = entryFrame m ([.ref (q 0), .ref (q (8 + 2 * sn)), .int (iI c)] : List Value).toArray 4 by rw [hargs], lg_entry_eq]
  generalize (lg_sl ([.ref (q 0), .ref (q (8 + 2 * sn)), .int (iI c)]) ++ List.replicate (4 - (lg_sl ([.ref (q 0), .ref (q (8 + 2 * sn)), .int (iI c)])).length) Slot.unset).toArray = ls at hl ⊢
  have hl : lv_has ls 4 [(0, .ref (q 0)), (1, .ref (q (8 + 2 * sn))), (2, .int (iI c))] := hl
  refine lv_aload_n hx hb d_CS_isMissing_0 rfl (lv_at hl 0 rfl) ?_
  refine va_get (D := g.1) (ci := 0) (v := .ref (q 5)) (C := R_CS) (T := F_CS) (N := 6) hx hb ht i_CS hown hK hP 0 rfl rfl 3 (by decide) (ht _ k_104) (fun _ h9 => h9) rfl d_CS_isMissing_1 ?_
  refine lv_iload_n hx hb d_CS_isMissing_4 rfl (lv_at hl 2 rfl) ?_
  refine zcV (ci := 3) (q0 := 0) (As := [.int (iI c)]) (rest := []) ⟨hx, hb, hml, hown, ht⟩ v_CS_123 (c_CR_nextOf l g (q 5) (q 6) la NX c (by omega)) ⟨Nat.le_of_ble_eq_true rfl, Nat.le_of_ble_eq_true rfl⟩ ⟨Nat.zero_le _, Nat.zero_le _⟩ hK hZ hS (cw_rn hP) rfl rfl rfl rfl hl.1 rfl (Nat.le_of_ble_eq_true rfl) d_CS_isMissing_5 (fun r_5 h_5 => ?_)
  subst h_5
  have b_5 := nxF_bd hNX (c := c) (by omega)
  refine lv_istore_n (lv' := [(3, .int (iI (nxF NX c))), (0, .ref (q 0)), (1, .ref (q (8 + 2 * sn))), (2, .int (iI c))]) hx hb d_CS_isMissing_8 rfl hl (by decide) rfl (fun ls hl => ?_)
  refine lv_iload_n hx hb d_CS_isMissing_9 rfl (lv_at hl 0 rfl) ?_
  refine lv_iload_n hx hb d_CS_isMissing_10 rfl (lv_at hl 3 rfl) ?_
  refine ix_icmp_eq (tgt := 22) hx hb d_CS_isMissing_11 (by decide) (by omega) (fun c_11 => ?_) (fun c_11 => ?_)
  · refine lv_iconst (v := iI 0) hx hb d_CS_isMissing_22 rfl ?_
    subst hQ
    exact W.zret (v := iI 0) hx hb hr (by decide) (fun t h9 hW => ⟨_, rfl, Or.inr ⟨by unfold misF inE; grind, rfl⟩, h9⟩) (fun _ h9 => by cases h9) d_CS_isMissing_23
  · refine lv_aload_n hx hb d_CS_isMissing_14 rfl (lv_at hl 2 rfl) ?_
    refine lv_iload_n hx hb d_CS_isMissing_15 rfl (lv_at hl 3 rfl) ?_
    refine zcV (ci := 1) (q0 := 0) (As := [.int (iI c)]) (rest := []) ⟨hx, hb, hml, hown, ht⟩ v_CS_96 (c_RG_contains l g (q (8 + 2 * sn)) (q (9 + 2 * sn)) (n sn) (es sn) c (hok sn (by omega)).1 (by have := (hok sn (by omega)).2.1; omega) (hok sn (by omega)).2.2 (by omega)) ⟨Nat.le_of_ble_eq_true rfl, Nat.le_of_ble_eq_true rfl⟩ ⟨Nat.zero_le _, Nat.zero_le _⟩ hK hZ hS (cw_pr hP (k := sn) (by omega)) rfl rfl rfl rfl hl.1 rfl (Nat.le_of_ble_eq_true rfl) d_CS_isMissing_16 (fun r_16 h_16 => ?_)
    rcases h_16 with ⟨h_16, rfl⟩ | ⟨h_16, rfl⟩
    · refine ix_if_eq (tgt := 24) hx hb d_CS_isMissing_19 (by decide) (by omega) (fun c_19 => ?_) (fun c_19 => ?_)
      · exact absurd c_19 (by decide)
      · refine lv_iconst (v := iI 0) hx hb d_CS_isMissing_22 rfl ?_
        subst hQ
        exact W.zret (v := iI 0) hx hb hr (by decide) (fun t h9 hW => ⟨_, rfl, Or.inr ⟨by unfold misF inE; grind, rfl⟩, h9⟩) (fun _ h9 => by cases h9) d_CS_isMissing_23
    · refine ix_if_eq (tgt := 24) hx hb d_CS_isMissing_19 (by decide) (by omega) (fun c_19 => ?_) (fun c_19 => ?_)
      · refine lv_aload_n hx hb d_CS_isMissing_24 rfl (lv_at hl 2 rfl) ?_
        refine lv_iload_n hx hb d_CS_isMissing_25 rfl (lv_at hl 0 rfl) ?_
        refine zcV (ci := 1) (q0 := 0) (As := [.int (iI (nxF NX c))]) (rest := []) ⟨hx, hb, hml, hown, ht⟩ v_CS_96 (c_RG_contains l g (q (8 + 2 * sn)) (q (9 + 2 * sn)) (n sn) (es sn) (nxF NX c) (hok sn (by omega)).1 (by have := (hok sn (by omega)).2.1; omega) (hok sn (by omega)).2.2 (by omega)) ⟨Nat.le_of_ble_eq_true rfl, Nat.le_of_ble_eq_true rfl⟩ ⟨Nat.zero_le _, Nat.zero_le _⟩ hK hZ hS (cw_pr hP (k := sn) (by omega)) rfl rfl rfl rfl hl.1 rfl (Nat.le_of_ble_eq_true rfl) d_CS_isMissing_26 (fun r_26 h_26 => ?_)
        rcases h_26 with ⟨h_26, rfl⟩ | ⟨h_26, rfl⟩
        · refine ix_if_ne (tgt := 47) hx hb d_CS_isMissing_29 (by decide) (by omega) (fun c_29 => ?_) (fun c_29 => ?_)
          · refine lv_iconst (v := iI 1) hx hb d_CS_isMissing_47 rfl ?_
            refine lv_goto (tgt := 52) hx hb d_CS_isMissing_48 (by decide) ?_
            subst hQ
            exact W.zret (v := iI 1) hx hb hr (by decide) (fun t h9 hW => ⟨_, rfl, Or.inl ⟨by unfold misF inE; grind, rfl⟩, h9⟩) (fun _ h9 => by cases h9) d_CS_isMissing_52
          · exact absurd c_29 (by decide)
        · refine ix_if_ne (tgt := 47) hx hb d_CS_isMissing_29 (by decide) (by omega) (fun c_29 => ?_) (fun c_29 => ?_)
          · exact absurd c_29 (by decide)
          · refine lv_aload_n hx hb d_CS_isMissing_32 rfl (lv_at hl 2 rfl) ?_
            refine lv_aload_n hx hb d_CS_isMissing_33 rfl (lv_at hl 1 rfl) ?_
            refine va_get (D := g.1) (ci := 0) (v := .ref (q 5)) (C := R_CS) (T := F_CS) (N := 6) hx hb ht i_CS hown hK hP 0 rfl rfl 3 (by decide) (ht _ k_104) (fun _ h9 => h9) rfl d_CS_isMissing_34 ?_
            refine lv_iload_n hx hb d_CS_isMissing_37 rfl (lv_at hl 0 rfl) ?_
            refine zcV (ci := 3) (q0 := 0) (As := [.int (iI (nxF NX c))]) (rest := [.ref (q (8 + 2 * sn))]) ⟨hx, hb, hml, hown, ht⟩ v_CS_123 (c_CR_nextOf l g (q 5) (q 6) la NX (nxF NX c) (by omega)) ⟨Nat.le_of_ble_eq_true rfl, Nat.le_of_ble_eq_true rfl⟩ ⟨Nat.zero_le _, Nat.zero_le _⟩ hK hZ hS (cw_rn hP) rfl rfl rfl rfl hl.1 rfl (Nat.le_of_ble_eq_true rfl) d_CS_isMissing_38 (fun r_38 h_38 => ?_)
            subst h_38
            have b_38 := nxF_bd hNX (c := (nxF NX c)) (by omega)
            refine zcV (ci := 1) (q0 := 0) (As := [.int (iI (nxF NX (nxF NX c)))]) (rest := []) ⟨hx, hb, hml, hown, ht⟩ v_CS_96 (c_RG_contains l g (q (8 + 2 * sn)) (q (9 + 2 * sn)) (n sn) (es sn) (nxF NX (nxF NX c)) (hok sn (by omega)).1 (by have := (hok sn (by omega)).2.1; omega) (hok sn (by omega)).2.2 (by omega)) ⟨Nat.le_of_ble_eq_true rfl, Nat.le_of_ble_eq_true rfl⟩ ⟨Nat.zero_le _, Nat.zero_le _⟩ hK hZ hS (cw_pr hP (k := sn) (by omega)) rfl rfl rfl rfl hl.1 rfl (Nat.le_of_ble_eq_true rfl) d_CS_isMissing_41 (fun r_41 h_41 => ?_)
            rcases h_41 with ⟨h_41, rfl⟩ | ⟨h_41, rfl⟩
            · refine ix_if_eq (tgt := 51) hx hb d_CS_isMissing_44 (by decide) (by omega) (fun c_44 => ?_) (fun c_44 => ?_)
              · exact absurd c_44 (by decide)
              · refine lv_iconst (v := iI 1) hx hb d_CS_isMissing_47 rfl ?_
                refine lv_goto (tgt := 52) hx hb d_CS_isMissing_48 (by decide) ?_
                subst hQ
                exact W.zret (v := iI 1) hx hb hr (by decide) (fun t h9 hW => ⟨_, rfl, Or.inl ⟨by unfold misF inE; grind, rfl⟩, h9⟩) (fun _ h9 => by cases h9) d_CS_isMissing_52
            · refine ix_if_eq (tgt := 51) hx hb d_CS_isMissing_44 (by decide) (by omega) (fun c_44 => ?_) (fun c_44 => ?_)
              · refine lv_iconst (v := iI 0) hx hb d_CS_isMissing_51 rfl ?_
                subst hQ
                exact W.zret (v := iI 0) hx hb hr (by decide) (fun t h9 hW => ⟨_, rfl, Or.inr ⟨by unfold misF inE; grind, rfl⟩, h9⟩) (fun _ h9 => by cases h9) d_CS_isMissing_52
              · exact absurd c_44 (by decide)
      · exact absurd c_19 (by decide)
