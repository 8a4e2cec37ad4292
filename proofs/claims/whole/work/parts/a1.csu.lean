theorem cat_at {i : Nat} {c : Int} (hi : i < 253) (h1 : LOf i ≤ c) (h2 : c < hiE i) : iI (CAf i) = iI (catF c) := by rw [(cat_piece i hi c h1 h2).1]
theorem scr_at {i : Nat} {c : Int} (hi : i < 253) (h1 : LOf i ≤ c) (h2 : c < hiE i) : iI (SCf i) = iI (scrF c) := by rw [(cat_piece i hi c h1 h2).2]
/-- one turn of the class's upperOf: (upper, kin) -/
def uq (NX : Nat → Int) (c : Int) (q : Int × Int) : Int × Int := (if (q.1 = c ∨ nxF NX q.2 < q.1) ∧ catF (nxF NX q.2) = 6 then nxF NX q.2 else q.1, nxF NX q.2)
def upC (NX : Nat → Int) (c : Int) : Int := if catF c = 4 then (uq NX c (uq NX c (c, c))).1 else c
def sideF (x : Int) : Prop := x = 383 ∨ x = 181 ∨ x = 962
def loC (NX : Nat → Int) (c : Int) : Int := if catF c = 6 then (if ¬ sideF (nxF NX c) ∧ catF (nxF NX c) = 4 then nxF NX c else if ¬ sideF (nxF NX (nxF NX c)) ∧ catF (nxF NX (nxF NX c)) = 4 then nxF NX (nxF NX c) else c) else c
set_option maxHeartbeats 4000000 in
set_option maxRecDepth 100000 in
theorem c_CS_upperOf (l : Launch) (g : zG) (q : Nat → Nat) (u la : Int) (NX : Nat → Int) (n : Nat → Nat) (es : Nat → Nat → Int) (c : Int) (hc : 0 ≤ c ∧ c ≤ 1114111) (hNX : ∀ j, j < 1122 → 0 ≤ NX j ∧ NX j ≤ 1114111)  : Met l y_CS_upperOf w_CS_upperOf (zr 2 44) (zP g [.ref (q 0), .int (iI c)] (cw g q u la NX n es)) (vp_Si (fun z => z = iI (upC NX c))) 0 0 (fun _ => False) := by
  refine Met.ofW (cc := b_CS_upperOf) (maxL := 6) (ret := (some .int)) (by decide) rfl ?_
  intro p e s m args below meth cd s₁ B hml hv
  obtain ⟨hargs, hP, hK, hZ⟩ := hv
  have hx := B.exec
  have hb := B.bytes
  have hr := B.returns
  have ht : ∀ w ∈ lw_ok, w.before args s = true := fun w h => atoms_spec (ws := w_CS_upperOf) B.pre w (List.mem_cons_of_mem _ h)
  have hown : s.vm.findClass R_CS = some m.cls := findClass_of_methodNamed B.named
  have hlocks := B.notSynchronized
  have hS : va_S (fun _ => False) s.heap s.heap [] := va_S.rf
  generalize hQ : MQ below _ args s 0 0 _ = Q
  have hl := lv_entry ([.ref (q 0), .int (iI c)]) (n := 6) (Nat.le_of_ble_eq_true rfl)
  rw [show entryFrame m args 6 = entryFrame m ([.ref (q 0), .int (iI c)] : List Value).toArray 6 by rw [hargs], lg_entry_eq]
  generalize (lg_sl ([.ref (q 0), .int (iI c)]) ++ List.replicate (6 - (lg_sl ([.ref (q 0), .int (iI c)])).length) Slot.unset).toArray = ls at hl ⊢
  have hl : lv_has ls 6 [(0, .ref (q 0)), (1, .int (iI c))] := hl
  refine lv_aload_n hx hb d_CS_upperOf_0 rfl (lv_at hl 0 rfl) ?_
  refine va_get (D := g.1) (ci := 0) (v := .ref (q 1)) (C := R_CS) (T := F_CS) (N := 6) hx hb ht i_CS hown hK hP 0 rfl rfl 2 (by decide) (ht _ k_103) (fun _ h9 => h9) rfl d_CS_upperOf_1 ?_
  refine lv_iload_n hx hb d_CS_upperOf_4 rfl (lv_at hl 1 rfl) ?_
  refine zcV (ci := 2) (q0 := 0) (As := [.int (iI c)]) (rest := []) ⟨hx, hb, hml, hown, ht⟩ v_CS_111 (c_TB_categoryOf l g (q 1) (q 2) (q 3) (q 4) c (by omega)) ⟨Nat.le_of_ble_eq_true rfl, Nat.le_of_ble_eq_true rfl⟩ ⟨Nat.zero_le _, Nat.zero_le _⟩ hK hZ hS (cw_tb hP) rfl rfl rfl rfl hl.1 rfl (Nat.le_of_ble_eq_true rfl) d_CS_upperOf_5 (fun r_5 h_5 => ?_)
  obtain ⟨i5, hi5, j1_5, j2_5, rfl⟩ := h_5
  rw [cat_at hi5 j1_5 j2_5]
  have q_5 := catF_bd c (by omega)
  refine lv_iconst (v := iI 4) hx hb d_CS_upperOf_8 rfl ?_
  refine ix_icmp_eq (tgt := 14) hx hb d_CS_upperOf_9 (by decide) (by omega) (fun c_9 => ?_) (fun c_9 => ?_)
  · refine lv_iload_n hx hb d_CS_upperOf_14 rfl (lv_at hl 1 rfl) ?_
    refine lv_istore_n (lv' := [(2, .int (iI c)), (0, .ref (q 0)), (1, .int (iI c))]) hx hb d_CS_upperOf_15 rfl hl (by decide) rfl (fun ls hl => ?_)
    refine lv_iload_n hx hb d_CS_upperOf_16 rfl (lv_at hl 2 rfl) ?_
    refine lv_istore_n (lv' := [(3, .int (iI c)), (2, .int (iI c)), (0, .ref (q 0)), (1, .int (iI c))]) hx hb d_CS_upperOf_17 rfl hl (by decide) rfl (fun ls hl => ?_)
    refine lv_iconst (v := iI 1) hx hb d_CS_upperOf_18 rfl ?_
    refine lv_istore (lv' := [(4, .int (iI 1)), (3, .int (iI c)), (2, .int (iI c)), (0, .ref (q 0)), (1, .int (iI c))]) hx hb d_CS_upperOf_19 hl (by decide) rfl (fun ls hl => ?_)
    refine lv_iload hx hb d_CS_upperOf_21 (lv_at hl 0 rfl) ?_
    refine lv_iconst (v := iI 3) hx hb d_CS_upperOf_23 rfl ?_
    refine ix_icmp_ge (tgt := 79) hx hb d_CS_upperOf_24 (by decide) (by omega) (fun c_24 => ?_) (fun c_24 => ?_)
    · exact absurd c_24 (by decide)
    · refine lv_aload_n hx hb d_CS_upperOf_27 rfl (lv_at hl 3 rfl) ?_
      refine va_get (D := g.1) (ci := 0) (v := .ref (q 5)) (C := R_CS) (T := F_CS) (N := 6) hx hb ht i_CS hown hK hP 0 rfl rfl 3 (by decide) (ht _ k_104) (fun _ h9 => h9) rfl d_CS_upperOf_28 ?_
      refine lv_iload_n hx hb d_CS_upperOf_31 rfl (lv_at hl 1 rfl) ?_
      refine zcV (ci := 3) (q0 := 0) (As := [.int (iI c)]) (rest := []) ⟨hx, hb, hml, hown, ht⟩ v_CS_123 (c_CR_nextOf l g (q 5) (q 6) la NX c (by omega)) ⟨Nat.le_of_ble_eq_true rfl, Nat.le_of_ble_eq_true rfl⟩ ⟨Nat.zero_le _, Nat.zero_le _⟩ hK hZ hS (cw_rn hP) rfl rfl rfl rfl hl.1 rfl (Nat.le_of_ble_eq_true rfl) d_CS_upperOf_32 (fun r_32 h_32 => ?_)
      subst h_32
      have b_32 := nxF_bd hNX (c := c) (by omega)
      refine lv_istore_n (lv' := [(3, .int (iI (nxF NX c))), (4, .int (iI 1)), (2, .int (iI c)), (0, .ref (q 0)), (1, .int (iI c))]) hx hb d_CS_upperOf_35 rfl hl (by decide) rfl (fun ls hl => ?_)
      refine lv_iload_n hx hb d_CS_upperOf_36 rfl (lv_at hl 2 rfl) ?_
      refine lv_iload_n hx hb d_CS_upperOf_37 rfl (lv_at hl 4 rfl) ?_
      refine ix_icmp_eq (tgt := 46) hx hb d_CS_upperOf_38 (by decide) (by omega) (fun c_38 => ?_) (fun c_38 => ?_)
      · refine lv_iconst (v := iI 1) hx hb d_CS_upperOf_46 rfl ?_
        refine lv_goto (tgt := 51) hx hb d_CS_upperOf_47 (by decide) ?_
        refine lv_istore (lv' := [(5, .int (iI 1)), (3, .int (iI (nxF NX c))), (4, .int (iI 1)), (2, .int (iI c)), (0, .ref (q 0)), (1, .int (iI c))]) hx hb d_CS_upperOf_51 hl (by decide) rfl (fun ls hl => ?_)
        refine lv_iload hx hb d_CS_upperOf_53 (lv_at hl 0 rfl) ?_
        refine ix_if_eq (tgt := 73) hx hb d_CS_upperOf_55 (by decide) (by omega) (fun c_55 => ?_) (fun c_55 => ?_)
        · exact absurd c_55 (by decide)
        · refine lv_aload_n hx hb d_CS_upperOf_58 rfl (lv_at hl 4 rfl) ?_
          refine va_get (D := g.1) (ci := 0) (v := .ref (q 1)) (C := R_CS) (T := F_CS) (N := 6) hx hb ht i_CS hown hK hP 0 rfl rfl 2 (by decide) (ht _ k_103) (fun _ h9 => h9) rfl d_CS_upperOf_59 ?_
          refine lv_iload_n hx hb d_CS_upperOf_62 rfl (lv_at hl 1 rfl) ?_
          refine zcV (ci := 2) (q0 := 0) (As := [.int (iI (nxF NX c))]) (rest := []) ⟨hx, hb, hml, hown, ht⟩ v_CS_111 (c_TB_categoryOf l g (q 1) (q 2) (q 3) (q 4) (nxF NX c) (by omega)) ⟨Nat.le_of_ble_eq_true rfl, Nat.le_of_ble_eq_true rfl⟩ ⟨Nat.zero_le _, Nat.zero_le _⟩ hK hZ hS (cw_tb hP) rfl rfl rfl rfl hl.1 rfl (Nat.le_of_ble_eq_true rfl) d_CS_upperOf_63 (fun r_63 h_63 => ?_)
          obtain ⟨i63, hi63, j1_63, j2_63, rfl⟩ := h_63
          rw [cat_at hi63 j1_63 j2_63]
          have q_63 := catF_bd (nxF NX c) (by omega)
          refine lv_bipush (v := iI 6) hx hb d_CS_upperOf_66 (by decide) ?_
          refine ix_icmp_ne (tgt := 73) hx hb d_CS_upperOf_68 (by decide) (by omega) (fun c_68 => ?_) (fun c_68 => ?_)
          · refine lv_iinc (v := iI 2) (lv' := [(4, .int (iI 2)), (5, .int (iI 1)), (3, .int (iI (nxF NX c))), (2, .int (iI c)), (0, .ref (q 0)), (1, .int (iI c))]) hx hb d_CS_upperOf_73 hl (k := 2) rfl (iI_add _ _) (by decide) rfl (fun ls hl => ?_)
            refine lv_goto (tgt := 21) hx hb d_CS_upperOf_76 (by decide) ?_
            refine lv_iload hx hb d_CS_upperOf_21 (lv_at hl 0 rfl) ?_
            refine lv_iconst (v := iI 3) hx hb d_CS_upperOf_23 rfl ?_
            refine ix_icmp_ge (tgt := 79) hx hb d_CS_upperOf_24 (by decide) (by omega) (fun c_24 => ?_) (fun c_24 => ?_)
            · exact absurd c_24 (by decide)
            · refine lv_aload_n hx hb d_CS_upperOf_27 rfl (lv_at hl 4 rfl) ?_
              refine va_get (D := g.1) (ci := 0) (v := .ref (q 5)) (C := R_CS) (T := F_CS) (N := 6) hx hb ht i_CS hown hK hP 0 rfl rfl 3 (by decide) (ht _ k_104) (fun _ h9 => h9) rfl d_CS_upperOf_28 ?_
              refine lv_iload_n hx hb d_CS_upperOf_31 rfl (lv_at hl 2 rfl) ?_
              refine zcV (ci := 3) (q0 := 0) (As := [.int (iI (nxF NX c))]) (rest := []) ⟨hx, hb, hml, hown, ht⟩ v_CS_123 (c_CR_nextOf l g (q 5) (q 6) la NX (nxF NX c) (by omega)) ⟨Nat.le_of_ble_eq_true rfl, Nat.le_of_ble_eq_true rfl⟩ ⟨Nat.zero_le _, Nat.zero_le _⟩ hK hZ hS (cw_rn hP) rfl rfl rfl rfl hl.1 rfl (Nat.le_of_ble_eq_true rfl) d_CS_upperOf_32 (fun r_32 h_32 => ?_)
              subst h_32
              have b_32 := nxF_bd hNX (c := (nxF NX c)) (by omega)
              refine lv_istore_n (lv' := [(3, .int (iI (nxF NX (nxF NX c)))), (4, .int (iI 2)), (5, .int (iI 1)), (2, .int (iI c)), (0, .ref (q 0)), (1, .int (iI c))]) hx hb d_CS_upperOf_35 rfl hl (by decide) rfl (fun ls hl => ?_)
              refine lv_iload_n hx hb d_CS_upperOf_36 rfl (lv_at hl 3 rfl) ?_
              refine lv_iload_n hx hb d_CS_upperOf_37 rfl (lv_at hl 5 rfl) ?_
              refine ix_icmp_eq (tgt := 46) hx hb d_CS_upperOf_38 (by decide) (by omega) (fun c_38 => ?_) (fun c_38 => ?_)
              · refine lv_iconst (v := iI 1) hx hb d_CS_upperOf_46 rfl ?_
                refine lv_goto (tgt := 51) hx hb d_CS_upperOf_47 (by decide) ?_
                refine lv_istore (lv' := [(5, .int (iI 1)), (3, .int (iI (nxF NX (nxF NX c)))), (4, .int (iI 2)), (2, .int (iI c)), (0, .ref (q 0)), (1, .int (iI c))]) hx hb d_CS_upperOf_51 hl (by decide) rfl (fun ls hl => ?_)
                refine lv_iload hx hb d_CS_upperOf_53 (lv_at hl 0 rfl) ?_
                refine ix_if_eq (tgt := 73) hx hb d_CS_upperOf_55 (by decide) (by omega) (fun c_55 => ?_) (fun c_55 => ?_)
                · exact absurd c_55 (by decide)
                · refine lv_aload_n hx hb d_CS_upperOf_58 rfl (lv_at hl 4 rfl) ?_
                  refine va_get (D := g.1) (ci := 0) (v := .ref (q 1)) (C := R_CS) (T := F_CS) (N := 6) hx hb ht i_CS hown hK hP 0 rfl rfl 2 (by decide) (ht _ k_103) (fun _ h9 => h9) rfl d_CS_upperOf_59 ?_
                  refine lv_iload_n hx hb d_CS_upperOf_62 rfl (lv_at hl 1 rfl) ?_
                  refine zcV (ci := 2) (q0 := 0) (As := [.int (iI (nxF NX (nxF NX c)))]) (rest := []) ⟨hx, hb, hml, hown, ht⟩ v_CS_111 (c_TB_categoryOf l g (q 1) (q 2) (q 3) (q 4) (nxF NX (nxF NX c)) (by omega)) ⟨Nat.le_of_ble_eq_true rfl, Nat.le_of_ble_eq_true rfl⟩ ⟨Nat.zero_le _, Nat.zero_le _⟩ hK hZ hS (cw_tb hP) rfl rfl rfl rfl hl.1 rfl (Nat.le_of_ble_eq_true rfl) d_CS_upperOf_63 (fun r_63 h_63 => ?_)
                  obtain ⟨i63, hi63, j1_63, j2_63, rfl⟩ := h_63
                  rw [cat_at hi63 j1_63 j2_63]
                  have q_63 := catF_bd (nxF NX (nxF NX c)) (by omega)
                  refine lv_bipush (v := iI 6) hx hb d_CS_upperOf_66 (by decide) ?_
                  refine ix_icmp_ne (tgt := 73) hx hb d_CS_upperOf_68 (by decide) (by omega) (fun c_68 => ?_) (fun c_68 => ?_)
                  · refine lv_iinc (v := iI 3) (lv' := [(4, .int (iI 3)), (5, .int (iI 1)), (3, .int (iI (nxF NX (nxF NX c)))), (2, .int (iI c)), (0, .ref (q 0)), (1, .int (iI c))]) hx hb d_CS_upperOf_73 hl (k := 2) rfl (iI_add _ _) (by decide) rfl (fun ls hl => ?_)
                    refine lv_goto (tgt := 21) hx hb d_CS_upperOf_76 (by decide) ?_
                    refine lv_iload hx hb d_CS_upperOf_21 (lv_at hl 0 rfl) ?_
                    refine lv_iconst (v := iI 3) hx hb d_CS_upperOf_23 rfl ?_
                    refine ix_icmp_ge (tgt := 79) hx hb d_CS_upperOf_24 (by decide) (by omega) (fun c_24 => ?_) (fun c_24 => ?_)
                    · refine lv_iload_n hx hb d_CS_upperOf_79 rfl (lv_at hl 3 rfl) ?_
                      subst hQ
                      exact W.iret (v := iI c) hx hb hr (fun t h9 hW => ⟨_, rfl, by first | (exfalso; omega) | exact congrArg iI (by unfold upC uq; dsimp only; repeat (first | rw [if_pos (by omega)] | rw [if_neg (by omega)])), h9⟩) (fun _ h9 => by cases h9) d_CS_upperOf_80
                    · exact absurd c_24 (by decide)
                  · refine lv_iload_n hx hb d_CS_upperOf_71 rfl (lv_at hl 1 rfl) ?_
                    refine lv_istore_n (lv' := [(2, .int (iI (nxF NX (nxF NX c)))), (5, .int (iI 1)), (3, .int (iI (nxF NX (nxF NX c)))), (4, .int (iI 2)), (0, .ref (q 0)), (1, .int (iI c))]) hx hb d_CS_upperOf_72 rfl hl (by decide) rfl (fun ls hl => ?_)
                    refine lv_iinc (v := iI 3) (lv' := [(4, .int (iI 3)), (2, .int (iI (nxF NX (nxF NX c)))), (5, .int (iI 1)), (3, .int (iI (nxF NX (nxF NX c)))), (0, .ref (q 0)), (1, .int (iI c))]) hx hb d_CS_upperOf_73 hl (k := 3) rfl (iI_add _ _) (by decide) rfl (fun ls hl => ?_)
                    refine lv_goto (tgt := 21) hx hb d_CS_upperOf_76 (by decide) ?_
                    refine lv_iload hx hb d_CS_upperOf_21 (lv_at hl 0 rfl) ?_
                    refine lv_iconst (v := iI 3) hx hb d_CS_upperOf_23 rfl ?_
                    refine ix_icmp_ge (tgt := 79) hx hb d_CS_upperOf_24 (by decide) (by omega) (fun c_24 => ?_) (fun c_24 => ?_)
                    · refine lv_iload_n hx hb d_CS_upperOf_79 rfl (lv_at hl 1 rfl) ?_
                      subst hQ
                      exact W.iret (v := iI (nxF NX (nxF NX c))) hx hb hr (fun t h9 hW => ⟨_, rfl, by first | (exfalso; omega) | exact congrArg iI (by unfold upC uq; dsimp only; repeat (first | rw [if_pos (by omega)] | rw [if_neg (by omega)])), h9⟩) (fun _ h9 => by cases h9) d_CS_upperOf_80
                    · exact absurd c_24 (by decide)
              · refine lv_iload_n hx hb d_CS_upperOf_41 rfl (lv_at hl 0 rfl) ?_
                refine lv_iload_n hx hb d_CS_upperOf_42 rfl (lv_at hl 3 rfl) ?_
                refine ix_icmp_ge (tgt := 50) hx hb d_CS_upperOf_43 (by decide) (by omega) (fun c_43 => ?_) (fun c_43 => ?_)
                · refine lv_iconst (v := iI 0) hx hb d_CS_upperOf_50 rfl ?_
                  refine lv_istore (lv' := [(5, .int (iI 0)), (3, .int (iI (nxF NX (nxF NX c)))), (4, .int (iI 2)), (2, .int (iI c)), (0, .ref (q 0)), (1, .int (iI c))]) hx hb d_CS_upperOf_51 hl (by decide) rfl (fun ls hl => ?_)
                  refine lv_iload hx hb d_CS_upperOf_53 (lv_at hl 0 rfl) ?_
                  refine ix_if_eq (tgt := 73) hx hb d_CS_upperOf_55 (by decide) (by omega) (fun c_55 => ?_) (fun c_55 => ?_)
                  · refine lv_iinc (v := iI 3) (lv' := [(4, .int (iI 3)), (5, .int (iI 0)), (3, .int (iI (nxF NX (nxF NX c)))), (2, .int (iI c)), (0, .ref (q 0)), (1, .int (iI c))]) hx hb d_CS_upperOf_73 hl (k := 2) rfl (iI_add _ _) (by decide) rfl (fun ls hl => ?_)
                    refine lv_goto (tgt := 21) hx hb d_CS_upperOf_76 (by decide) ?_
                    refine lv_iload hx hb d_CS_upperOf_21 (lv_at hl 0 rfl) ?_
                    refine lv_iconst (v := iI 3) hx hb d_CS_upperOf_23 rfl ?_
                    refine ix_icmp_ge (tgt := 79) hx hb d_CS_upperOf_24 (by decide) (by omega) (fun c_24 => ?_) (fun c_24 => ?_)
                    · refine lv_iload_n hx hb d_CS_upperOf_79 rfl (lv_at hl 3 rfl) ?_
                      subst hQ
                      exact W.iret (v := iI c) hx hb hr (fun t h9 hW => ⟨_, rfl, by first | (exfalso; omega) | exact congrArg iI (by unfold upC uq; dsimp only; repeat (first | rw [if_pos (by omega)] | rw [if_neg (by omega)])), h9⟩) (fun _ h9 => by cases h9) d_CS_upperOf_80
                    · exact absurd c_24 (by decide)
                  · exact absurd c_55 (by decide)
                · refine lv_iconst (v := iI 1) hx hb d_CS_upperOf_46 rfl ?_
                  refine lv_goto (tgt := 51) hx hb d_CS_upperOf_47 (by decide) ?_
                  refine lv_istore (lv' := [(5, .int (iI 1)), (3, .int (iI (nxF NX (nxF NX c)))), (4, .int (iI 2)), (2, .int (iI c)), (0, .ref (q 0)), (1, .int (iI c))]) hx hb d_CS_upperOf_51 hl (by decide) rfl (fun ls hl => ?_)
                  refine lv_iload hx hb d_CS_upperOf_53 (lv_at hl 0 rfl) ?_
                  refine ix_if_eq (tgt := 73) hx hb d_CS_upperOf_55 (by decide) (by omega) (fun c_55 => ?_) (fun c_55 => ?_)
                  · exact absurd c_55 (by decide)
                  · refine lv_aload_n hx hb d_CS_upperOf_58 rfl (lv_at hl 4 rfl) ?_
                    refine va_get (D := g.1) (ci := 0) (v := .ref (q 1)) (C := R_CS) (T := F_CS) (N := 6) hx hb ht i_CS hown hK hP 0 rfl rfl 2 (by decide) (ht _ k_103) (fun _ h9 => h9) rfl d_CS_upperOf_59 ?_
                    refine lv_iload_n hx hb d_CS_upperOf_62 rfl (lv_at hl 1 rfl) ?_
                    refine zcV (ci := 2) (q0 := 0) (As := [.int (iI (nxF NX (nxF NX c)))]) (rest := []) ⟨hx, hb, hml, hown, ht⟩ v_CS_111 (c_TB_categoryOf l g (q 1) (q 2) (q 3) (q 4) (nxF NX (nxF NX c)) (by omega)) ⟨Nat.le_of_ble_eq_true rfl, Nat.le_of_ble_eq_true rfl⟩ ⟨Nat.zero_le _, Nat.zero_le _⟩ hK hZ hS (cw_tb hP) rfl rfl rfl rfl hl.1 rfl (Nat.le_of_ble_eq_true rfl) d_CS_upperOf_63 (fun r_63 h_63 => ?_)
                    obtain ⟨i63, hi63, j1_63, j2_63, rfl⟩ := h_63
                    rw [cat_at hi63 j1_63 j2_63]
                    have q_63 := catF_bd (nxF NX (nxF NX c)) (by omega)
                    refine lv_bipush (v := iI 6) hx hb d_CS_upperOf_66 (by decide) ?_
                    refine ix_icmp_ne (tgt := 73) hx hb d_CS_upperOf_68 (by decide) (by omega) (fun c_68 => ?_) (fun c_68 => ?_)
                    · refine lv_iinc (v := iI 3) (lv' := [(4, .int (iI 3)), (5, .int (iI 1)), (3, .int (iI (nxF NX (nxF NX c)))), (2, .int (iI c)), (0, .ref (q 0)), (1, .int (iI c))]) hx hb d_CS_upperOf_73 hl (k := 2) rfl (iI_add _ _) (by decide) rfl (fun ls hl => ?_)
                      refine lv_goto (tgt := 21) hx hb d_CS_upperOf_76 (by decide) ?_
                      refine lv_iload hx hb d_CS_upperOf_21 (lv_at hl 0 rfl) ?_
                      refine lv_iconst (v := iI 3) hx hb d_CS_upperOf_23 rfl ?_
                      refine ix_icmp_ge (tgt := 79) hx hb d_CS_upperOf_24 (by decide) (by omega) (fun c_24 => ?_) (fun c_24 => ?_)
                      · refine lv_iload_n hx hb d_CS_upperOf_79 rfl (lv_at hl 3 rfl) ?_
                        subst hQ
                        exact W.iret (v := iI c) hx hb hr (fun t h9 hW => ⟨_, rfl, by first | (exfalso; omega) | exact congrArg iI (by unfold upC uq; dsimp only; repeat (first | rw [if_pos (by omega)] | rw [if_neg (by omega)])), h9⟩) (fun _ h9 => by cases h9) d_CS_upperOf_80
                      · exact absurd c_24 (by decide)
                    · refine lv_iload_n hx hb d_CS_upperOf_71 rfl (lv_at hl 1 rfl) ?_
                      refine lv_istore_n (lv' := [(2, .int (iI (nxF NX (nxF NX c)))), (5, .int (iI 1)), (3, .int (iI (nxF NX (nxF NX c)))), (4, .int (iI 2)), (0, .ref (q 0)), (1, .int (iI c))]) hx hb d_CS_upperOf_72 rfl hl (by decide) rfl (fun ls hl => ?_)
                      refine lv_iinc (v := iI 3) (lv' := [(4, .int (iI 3)), (2, .int (iI (nxF NX (nxF NX c)))), (5, .int (iI 1)), (3, .int (iI (nxF NX (nxF NX c)))), (0, .ref (q 0)), (1, .int (iI c))]) hx hb d_CS_upperOf_73 hl (k := 3) rfl (iI_add _ _) (by decide) rfl (fun ls hl => ?_)
                      refine lv_goto (tgt := 21) hx hb d_CS_upperOf_76 (by decide) ?_
                      refine lv_iload hx hb d_CS_upperOf_21 (lv_at hl 0 rfl) ?_
                      refine lv_iconst (v := iI 3) hx hb d_CS_upperOf_23 rfl ?_
                      refine ix_icmp_ge (tgt := 79) hx hb d_CS_upperOf_24 (by decide) (by omega) (fun c_24 => ?_) (fun c_24 => ?_)
                      · refine lv_iload_n hx hb d_CS_upperOf_79 rfl (lv_at hl 1 rfl) ?_
                        subst hQ
                        exact W.iret (v := iI (nxF NX (nxF NX c))) hx hb hr (fun t h9 hW => ⟨_, rfl, by first | (exfalso; omega) | exact congrArg iI (by unfold upC uq; dsimp only; repeat (first | rw [if_pos (by omega)] | rw [if_neg (by omega)])), h9⟩) (fun _ h9 => by cases h9) d_CS_upperOf_80
                      · exact absurd c_24 (by decide)
          · refine lv_iload_n hx hb d_CS_upperOf_71 rfl (lv_at hl 1 rfl) ?_
            refine lv_istore_n (lv' := [(2, .int (iI (nxF NX c))), (5, .int (iI 1)), (3, .int (iI (nxF NX c))), (4, .int (iI 1)), (0, .ref (q 0)), (1, .int (iI c))]) hx hb d_CS_upperOf_72 rfl hl (by decide) rfl (fun ls hl => ?_)
            refine lv_iinc (v := iI 2) (lv' := [(4, .int (iI 2)), (2, .int (iI (nxF NX c))), (5, .int (iI 1)), (3, .int (iI (nxF NX c))), (0, .ref (q 0)), (1, .int (iI c))]) hx hb d_CS_upperOf_73 hl (k := 3) rfl (iI_add _ _) (by decide) rfl (fun ls hl => ?_)
            refine lv_goto (tgt := 21) hx hb d_CS_upperOf_76 (by decide) ?_
            refine lv_iload hx hb d_CS_upperOf_21 (lv_at hl 0 rfl) ?_
            refine lv_iconst (v := iI 3) hx hb d_CS_upperOf_23 rfl ?_
            refine ix_icmp_ge (tgt := 79) hx hb d_CS_upperOf_24 (by decide) (by omega) (fun c_24 => ?_) (fun c_24 => ?_)
            · exact absurd c_24 (by decide)
            · refine lv_aload_n hx hb d_CS_upperOf_27 rfl (lv_at hl 4 rfl) ?_
              refine va_get (D := g.1) (ci := 0) (v := .ref (q 5)) (C := R_CS) (T := F_CS) (N := 6) hx hb ht i_CS hown hK hP 0 rfl rfl 3 (by decide) (ht _ k_104) (fun _ h9 => h9) rfl d_CS_upperOf_28 ?_
              refine lv_iload_n hx hb d_CS_upperOf_31 rfl (lv_at hl 3 rfl) ?_
              refine zcV (ci := 3) (q0 := 0) (As := [.int (iI (nxF NX c))]) (rest := []) ⟨hx, hb, hml, hown, ht⟩ v_CS_123 (c_CR_nextOf l g (q 5) (q 6) la NX (nxF NX c) (by omega)) ⟨Nat.le_of_ble_eq_true rfl, Nat.le_of_ble_eq_true rfl⟩ ⟨Nat.zero_le _, Nat.zero_le _⟩ hK hZ hS (cw_rn hP) rfl rfl rfl rfl hl.1 rfl (Nat.le_of_ble_eq_true rfl) d_CS_upperOf_32 (fun r_32 h_32 => ?_)
              subst h_32
              have b_32 := nxF_bd hNX (c := (nxF NX c)) (by omega)
              refine lv_istore_n (lv' := [(3, .int (iI (nxF NX (nxF NX c)))), (4, .int (iI 2)), (2, .int (iI (nxF NX c))), (5, .int (iI 1)), (0, .ref (q 0)), (1, .int (iI c))]) hx hb d_CS_upperOf_35 rfl hl (by decide) rfl (fun ls hl => ?_)
              refine lv_iload_n hx hb d_CS_upperOf_36 rfl (lv_at hl 2 rfl) ?_
              refine lv_iload_n hx hb d_CS_upperOf_37 rfl (lv_at hl 5 rfl) ?_
              refine ix_icmp_eq (tgt := 46) hx hb d_CS_upperOf_38 (by decide) (by omega) (fun c_38 => ?_) (fun c_38 => ?_)
              · refine lv_iconst (v := iI 1) hx hb d_CS_upperOf_46 rfl ?_
                refine lv_goto (tgt := 51) hx hb d_CS_upperOf_47 (by decide) ?_
                refine lv_istore (lv' := [(5, .int (iI 1)), (3, .int (iI (nxF NX (nxF NX c)))), (4, .int (iI 2)), (2, .int (iI (nxF NX c))), (0, .ref (q 0)), (1, .int (iI c))]) hx hb d_CS_upperOf_51 hl (by decide) rfl (fun ls hl => ?_)
                refine lv_iload hx hb d_CS_upperOf_53 (lv_at hl 0 rfl) ?_
                refine ix_if_eq (tgt := 73) hx hb d_CS_upperOf_55 (by decide) (by omega) (fun c_55 => ?_) (fun c_55 => ?_)
                · exact absurd c_55 (by decide)
                · refine lv_aload_n hx hb d_CS_upperOf_58 rfl (lv_at hl 4 rfl) ?_
                  refine va_get (D := g.1) (ci := 0) (v := .ref (q 1)) (C := R_CS) (T := F_CS) (N := 6) hx hb ht i_CS hown hK hP 0 rfl rfl 2 (by decide) (ht _ k_103) (fun _ h9 => h9) rfl d_CS_upperOf_59 ?_
                  refine lv_iload_n hx hb d_CS_upperOf_62 rfl (lv_at hl 1 rfl) ?_
                  refine zcV (ci := 2) (q0 := 0) (As := [.int (iI (nxF NX (nxF NX c)))]) (rest := []) ⟨hx, hb, hml, hown, ht⟩ v_CS_111 (c_TB_categoryOf l g (q 1) (q 2) (q 3) (q 4) (nxF NX (nxF NX c)) (by omega)) ⟨Nat.le_of_ble_eq_true rfl, Nat.le_of_ble_eq_true rfl⟩ ⟨Nat.zero_le _, Nat.zero_le _⟩ hK hZ hS (cw_tb hP) rfl rfl rfl rfl hl.1 rfl (Nat.le_of_ble_eq_true rfl) d_CS_upperOf_63 (fun r_63 h_63 => ?_)
                  obtain ⟨i63, hi63, j1_63, j2_63, rfl⟩ := h_63
                  rw [cat_at hi63 j1_63 j2_63]
                  have q_63 := catF_bd (nxF NX (nxF NX c)) (by omega)
                  refine lv_bipush (v := iI 6) hx hb d_CS_upperOf_66 (by decide) ?_
                  refine ix_icmp_ne (tgt := 73) hx hb d_CS_upperOf_68 (by decide) (by omega) (fun c_68 => ?_) (fun c_68 => ?_)
                  · refine lv_iinc (v := iI 3) (lv' := [(4, .int (iI 3)), (5, .int (iI 1)), (3, .int (iI (nxF NX (nxF NX c)))), (2, .int (iI (nxF NX c))), (0, .ref (q 0)), (1, .int (iI c))]) hx hb d_CS_upperOf_73 hl (k := 2) rfl (iI_add _ _) (by decide) rfl (fun ls hl => ?_)
                    refine lv_goto (tgt := 21) hx hb d_CS_upperOf_76 (by decide) ?_
                    refine lv_iload hx hb d_CS_upperOf_21 (lv_at hl 0 rfl) ?_
                    refine lv_iconst (v := iI 3) hx hb d_CS_upperOf_23 rfl ?_
                    refine ix_icmp_ge (tgt := 79) hx hb d_CS_upperOf_24 (by decide) (by omega) (fun c_24 => ?_) (fun c_24 => ?_)
                    · refine lv_iload_n hx hb d_CS_upperOf_79 rfl (lv_at hl 3 rfl) ?_
                      subst hQ
                      exact W.iret (v := iI (nxF NX c)) hx hb hr (fun t h9 hW => ⟨_, rfl, by first | (exfalso; omega) | exact congrArg iI (by unfold upC uq; dsimp only; repeat (first | rw [if_pos (by omega)] | rw [if_neg (by omega)])), h9⟩) (fun _ h9 => by cases h9) d_CS_upperOf_80
                    · exact absurd c_24 (by decide)
                  · refine lv_iload_n hx hb d_CS_upperOf_71 rfl (lv_at hl 1 rfl) ?_
                    refine lv_istore_n (lv' := [(2, .int (iI (nxF NX (nxF NX c)))), (5, .int (iI 1)), (3, .int (iI (nxF NX (nxF NX c)))), (4, .int (iI 2)), (0, .ref (q 0)), (1, .int (iI c))]) hx hb d_CS_upperOf_72 rfl hl (by decide) rfl (fun ls hl => ?_)
                    refine lv_iinc (v := iI 3) (lv' := [(4, .int (iI 3)), (2, .int (iI (nxF NX (nxF NX c)))), (5, .int (iI 1)), (3, .int (iI (nxF NX (nxF NX c)))), (0, .ref (q 0)), (1, .int (iI c))]) hx hb d_CS_upperOf_73 hl (k := 3) rfl (iI_add _ _) (by decide) rfl (fun ls hl => ?_)
                    refine lv_goto (tgt := 21) hx hb d_CS_upperOf_76 (by decide) ?_
                    refine lv_iload hx hb d_CS_upperOf_21 (lv_at hl 0 rfl) ?_
                    refine lv_iconst (v := iI 3) hx hb d_CS_upperOf_23 rfl ?_
                    refine ix_icmp_ge (tgt := 79) hx hb d_CS_upperOf_24 (by decide) (by omega) (fun c_24 => ?_) (fun c_24 => ?_)
                    · refine lv_iload_n hx hb d_CS_upperOf_79 rfl (lv_at hl 1 rfl) ?_
                      subst hQ
                      exact W.iret (v := iI (nxF NX (nxF NX c))) hx hb hr (fun t h9 hW => ⟨_, rfl, by first | (exfalso; omega) | exact congrArg iI (by unfold upC uq; dsimp only; repeat (first | rw [if_pos (by omega)] | rw [if_neg (by omega)])), h9⟩) (fun _ h9 => by cases h9) d_CS_upperOf_80
                    · exact absurd c_24 (by decide)
              · refine lv_iload_n hx hb d_CS_upperOf_41 rfl (lv_at hl 0 rfl) ?_
                refine lv_iload_n hx hb d_CS_upperOf_42 rfl (lv_at hl 2 rfl) ?_
                refine ix_icmp_ge (tgt := 50) hx hb d_CS_upperOf_43 (by decide) (by omega) (fun c_43 => ?_) (fun c_43 => ?_)
                · refine lv_iconst (v := iI 0) hx hb d_CS_upperOf_50 rfl ?_
                  refine lv_istore (lv' := [(5, .int (iI 0)), (3, .int (iI (nxF NX (nxF NX c)))), (4, .int (iI 2)), (2, .int (iI (nxF NX c))), (0, .ref (q 0)), (1, .int (iI c))]) hx hb d_CS_upperOf_51 hl (by decide) rfl (fun ls hl => ?_)
                  refine lv_iload hx hb d_CS_upperOf_53 (lv_at hl 0 rfl) ?_
                  refine ix_if_eq (tgt := 73) hx hb d_CS_upperOf_55 (by decide) (by omega) (fun c_55 => ?_) (fun c_55 => ?_)
                  · refine lv_iinc (v := iI 3) (lv' := [(4, .int (iI 3)), (5, .int (iI 0)), (3, .int (iI (nxF NX (nxF NX c)))), (2, .int (iI (nxF NX c))), (0, .ref (q 0)), (1, .int (iI c))]) hx hb d_CS_upperOf_73 hl (k := 2) rfl (iI_add _ _) (by decide) rfl (fun ls hl => ?_)
                    refine lv_goto (tgt := 21) hx hb d_CS_upperOf_76 (by decide) ?_
                    refine lv_iload hx hb d_CS_upperOf_21 (lv_at hl 0 rfl) ?_
                    refine lv_iconst (v := iI 3) hx hb d_CS_upperOf_23 rfl ?_
                    refine ix_icmp_ge (tgt := 79) hx hb d_CS_upperOf_24 (by decide) (by omega) (fun c_24 => ?_) (fun c_24 => ?_)
                    · refine lv_iload_n hx hb d_CS_upperOf_79 rfl (lv_at hl 3 rfl) ?_
                      subst hQ
                      exact W.iret (v := iI (nxF NX c)) hx hb hr (fun t h9 hW => ⟨_, rfl, by first | (exfalso; omega) | exact congrArg iI (by unfold upC uq; dsimp only; repeat (first | rw [if_pos (by omega)] | rw [if_neg (by omega)])), h9⟩) (fun _ h9 => by cases h9) d_CS_upperOf_80
                    · exact absurd c_24 (by decide)
                  · exact absurd c_55 (by decide)
                · refine lv_iconst (v := iI 1) hx hb d_CS_upperOf_46 rfl ?_
                  refine lv_goto (tgt := 51) hx hb d_CS_upperOf_47 (by decide) ?_
                  refine lv_istore (lv' := [(5, .int (iI 1)), (3, .int (iI (nxF NX (nxF NX c)))), (4, .int (iI 2)), (2, .int (iI (nxF NX c))), (0, .ref (q 0)), (1, .int (iI c))]) hx hb d_CS_upperOf_51 hl (by decide) rfl (fun ls hl => ?_)
                  refine lv_iload hx hb d_CS_upperOf_53 (lv_at hl 0 rfl) ?_
                  refine ix_if_eq (tgt := 73) hx hb d_CS_upperOf_55 (by decide) (by omega) (fun c_55 => ?_) (fun c_55 => ?_)
                  · exact absurd c_55 (by decide)
                  · refine lv_aload_n hx hb d_CS_upperOf_58 rfl (lv_at hl 4 rfl) ?_
                    refine va_get (D := g.1) (ci := 0) (v := .ref (q 1)) (C := R_CS) (T := F_CS) (N := 6) hx hb ht i_CS hown hK hP 0 rfl rfl 2 (by decide) (ht _ k_103) (fun _ h9 => h9) rfl d_CS_upperOf_59 ?_
                    refine lv_iload_n hx hb d_CS_upperOf_62 rfl (lv_at hl 1 rfl) ?_
                    refine zcV (ci := 2) (q0 := 0) (As := [.int (iI (nxF NX (nxF NX c)))]) (rest := []) ⟨hx, hb, hml, hown, ht⟩ v_CS_111 (c_TB_categoryOf l g (q 1) (q 2) (q 3) (q 4) (nxF NX (nxF NX c)) (by omega)) ⟨Nat.le_of_ble_eq_true rfl, Nat.le_of_ble_eq_true rfl⟩ ⟨Nat.zero_le _, Nat.zero_le _⟩ hK hZ hS (cw_tb hP) rfl rfl rfl rfl hl.1 rfl (Nat.le_of_ble_eq_true rfl) d_CS_upperOf_63 (fun r_63 h_63 => ?_)
                    obtain ⟨i63, hi63, j1_63, j2_63, rfl⟩ := h_63
                    rw [cat_at hi63 j1_63 j2_63]
                    have q_63 := catF_bd (nxF NX (nxF NX c)) (by omega)
                    refine lv_bipush (v := iI 6) hx hb d_CS_upperOf_66 (by decide) ?_
                    refine ix_icmp_ne (tgt := 73) hx hb d_CS_upperOf_68 (by decide) (by omega) (fun c_68 => ?_) (fun c_68 => ?_)
                    · refine lv_iinc (v := iI 3) (lv' := [(4, .int (iI 3)), (5, .int (iI 1)), (3, .int (iI (nxF NX (nxF NX c)))), (2, .int (iI (nxF NX c))), (0, .ref (q 0)), (1, .int (iI c))]) hx hb d_CS_upperOf_73 hl (k := 2) rfl (iI_add _ _) (by decide) rfl (fun ls hl => ?_)
                      refine lv_goto (tgt := 21) hx hb d_CS_upperOf_76 (by decide) ?_
                      refine lv_iload hx hb d_CS_upperOf_21 (lv_at hl 0 rfl) ?_
                      refine lv_iconst (v := iI 3) hx hb d_CS_upperOf_23 rfl ?_
                      refine ix_icmp_ge (tgt := 79) hx hb d_CS_upperOf_24 (by decide) (by omega) (fun c_24 => ?_) (fun c_24 => ?_)
                      · refine lv_iload_n hx hb d_CS_upperOf_79 rfl (lv_at hl 3 rfl) ?_
                        subst hQ
                        exact W.iret (v := iI (nxF NX c)) hx hb hr (fun t h9 hW => ⟨_, rfl, by first | (exfalso; omega) | exact congrArg iI (by unfold upC uq; dsimp only; repeat (first | rw [if_pos (by omega)] | rw [if_neg (by omega)])), h9⟩) (fun _ h9 => by cases h9) d_CS_upperOf_80
                      · exact absurd c_24 (by decide)
                    · refine lv_iload_n hx hb d_CS_upperOf_71 rfl (lv_at hl 1 rfl) ?_
                      refine lv_istore_n (lv' := [(2, .int (iI (nxF NX (nxF NX c)))), (5, .int (iI 1)), (3, .int (iI (nxF NX (nxF NX c)))), (4, .int (iI 2)), (0, .ref (q 0)), (1, .int (iI c))]) hx hb d_CS_upperOf_72 rfl hl (by decide) rfl (fun ls hl => ?_)
                      refine lv_iinc (v := iI 3) (lv' := [(4, .int (iI 3)), (2, .int (iI (nxF NX (nxF NX c)))), (5, .int (iI 1)), (3, .int (iI (nxF NX (nxF NX c)))), (0, .ref (q 0)), (1, .int (iI c))]) hx hb d_CS_upperOf_73 hl (k := 3) rfl (iI_add _ _) (by decide) rfl (fun ls hl => ?_)
                      refine lv_goto (tgt := 21) hx hb d_CS_upperOf_76 (by decide) ?_
                      refine lv_iload hx hb d_CS_upperOf_21 (lv_at hl 0 rfl) ?_
                      refine lv_iconst (v := iI 3) hx hb d_CS_upperOf_23 rfl ?_
                      refine ix_icmp_ge (tgt := 79) hx hb d_CS_upperOf_24 (by decide) (by omega) (fun c_24 => ?_) (fun c_24 => ?_)
                      · refine lv_iload_n hx hb d_CS_upperOf_79 rfl (lv_at hl 1 rfl) ?_
                        subst hQ
                        exact W.iret (v := iI (nxF NX (nxF NX c))) hx hb hr (fun t h9 hW => ⟨_, rfl, by first | (exfalso; omega) | exact congrArg iI (by unfold upC uq; dsimp only; repeat (first | rw [if_pos (by omega)] | rw [if_neg (by omega)])), h9⟩) (fun _ h9 => by cases h9) d_CS_upperOf_80
                      · exact absurd c_24 (by decide)
      · refine lv_iload_n hx hb d_CS_upperOf_41 rfl (lv_at hl 0 rfl) ?_
        refine lv_iload_n hx hb d_CS_upperOf_42 rfl (lv_at hl 2 rfl) ?_
        refine ix_icmp_ge (tgt := 50) hx hb d_CS_upperOf_43 (by decide) (by omega) (fun c_43 => ?_) (fun c_43 => ?_)
        · refine lv_iconst (v := iI 0) hx hb d_CS_upperOf_50 rfl ?_
          refine lv_istore (lv' := [(5, .int (iI 0)), (3, .int (iI (nxF NX c))), (4, .int (iI 1)), (2, .int (iI c)), (0, .ref (q 0)), (1, .int (iI c))]) hx hb d_CS_upperOf_51 hl (by decide) rfl (fun ls hl => ?_)
          refine lv_iload hx hb d_CS_upperOf_53 (lv_at hl 0 rfl) ?_
          refine ix_if_eq (tgt := 73) hx hb d_CS_upperOf_55 (by decide) (by omega) (fun c_55 => ?_) (fun c_55 => ?_)
          · refine lv_iinc (v := iI 2) (lv' := [(4, .int (iI 2)), (5, .int (iI 0)), (3, .int (iI (nxF NX c))), (2, .int (iI c)), (0, .ref (q 0)), (1, .int (iI c))]) hx hb d_CS_upperOf_73 hl (k := 2) rfl (iI_add _ _) (by decide) rfl (fun ls hl => ?_)
            refine lv_goto (tgt := 21) hx hb d_CS_upperOf_76 (by decide) ?_
            refine lv_iload hx hb d_CS_upperOf_21 (lv_at hl 0 rfl) ?_
            refine lv_iconst (v := iI 3) hx hb d_CS_upperOf_23 rfl ?_
            refine ix_icmp_ge (tgt := 79) hx hb d_CS_upperOf_24 (by decide) (by omega) (fun c_24 => ?_) (fun c_24 => ?_)
            · exact absurd c_24 (by decide)
            · refine lv_aload_n hx hb d_CS_upperOf_27 rfl (lv_at hl 4 rfl) ?_
              refine va_get (D := g.1) (ci := 0) (v := .ref (q 5)) (C := R_CS) (T := F_CS) (N := 6) hx hb ht i_CS hown hK hP 0 rfl rfl 3 (by decide) (ht _ k_104) (fun _ h9 => h9) rfl d_CS_upperOf_28 ?_
              refine lv_iload_n hx hb d_CS_upperOf_31 rfl (lv_at hl 2 rfl) ?_
              refine zcV (ci := 3) (q0 := 0) (As := [.int (iI (nxF NX c))]) (rest := []) ⟨hx, hb, hml, hown, ht⟩ v_CS_123 (c_CR_nextOf l g (q 5) (q 6) la NX (nxF NX c) (by omega)) ⟨Nat.le_of_ble_eq_true rfl, Nat.le_of_ble_eq_true rfl⟩ ⟨Nat.zero_le _, Nat.zero_le _⟩ hK hZ hS (cw_rn hP) rfl rfl rfl rfl hl.1 rfl (Nat.le_of_ble_eq_true rfl) d_CS_upperOf_32 (fun r_32 h_32 => ?_)
              subst h_32
              have b_32 := nxF_bd hNX (c := (nxF NX c)) (by omega)
              refine lv_istore_n (lv' := [(3, .int (iI (nxF NX (nxF NX c)))), (4, .int (iI 2)), (5, .int (iI 0)), (2, .int (iI c)), (0, .ref (q 0)), (1, .int (iI c))]) hx hb d_CS_upperOf_35 rfl hl (by decide) rfl (fun ls hl => ?_)
              refine lv_iload_n hx hb d_CS_upperOf_36 rfl (lv_at hl 3 rfl) ?_
              refine lv_iload_n hx hb d_CS_upperOf_37 rfl (lv_at hl 5 rfl) ?_
              refine ix_icmp_eq (tgt := 46) hx hb d_CS_upperOf_38 (by decide) (by omega) (fun c_38 => ?_) (fun c_38 => ?_)
              · refine lv_iconst (v := iI 1) hx hb d_CS_upperOf_46 rfl ?_
                refine lv_goto (tgt := 51) hx hb d_CS_upperOf_47 (by decide) ?_
                refine lv_istore (lv' := [(5, .int (iI 1)), (3, .int (iI (nxF NX (nxF NX c)))), (4, .int (iI 2)), (2, .int (iI c)), (0, .ref (q 0)), (1, .int (iI c))]) hx hb d_CS_upperOf_51 hl (by decide) rfl (fun ls hl => ?_)
                refine lv_iload hx hb d_CS_upperOf_53 (lv_at hl 0 rfl) ?_
                refine ix_if_eq (tgt := 73) hx hb d_CS_upperOf_55 (by decide) (by omega) (fun c_55 => ?_) (fun c_55 => ?_)
                · exact absurd c_55 (by decide)
                · refine lv_aload_n hx hb d_CS_upperOf_58 rfl (lv_at hl 4 rfl) ?_
                  refine va_get (D := g.1) (ci := 0) (v := .ref (q 1)) (C := R_CS) (T := F_CS) (N := 6) hx hb ht i_CS hown hK hP 0 rfl rfl 2 (by decide) (ht _ k_103) (fun _ h9 => h9) rfl d_CS_upperOf_59 ?_
                  refine lv_iload_n hx hb d_CS_upperOf_62 rfl (lv_at hl 1 rfl) ?_
                  refine zcV (ci := 2) (q0 := 0) (As := [.int (iI (nxF NX (nxF NX c)))]) (rest := []) ⟨hx, hb, hml, hown, ht⟩ v_CS_111 (c_TB_categoryOf l g (q 1) (q 2) (q 3) (q 4) (nxF NX (nxF NX c)) (by omega)) ⟨Nat.le_of_ble_eq_true rfl, Nat.le_of_ble_eq_true rfl⟩ ⟨Nat.zero_le _, Nat.zero_le _⟩ hK hZ hS (cw_tb hP) rfl rfl rfl rfl hl.1 rfl (Nat.le_of_ble_eq_true rfl) d_CS_upperOf_63 (fun r_63 h_63 => ?_)
                  obtain ⟨i63, hi63, j1_63, j2_63, rfl⟩ := h_63
                  rw [cat_at hi63 j1_63 j2_63]
                  have q_63 := catF_bd (nxF NX (nxF NX c)) (by omega)
                  refine lv_bipush (v := iI 6) hx hb d_CS_upperOf_66 (by decide) ?_
                  refine ix_icmp_ne (tgt := 73) hx hb d_CS_upperOf_68 (by decide) (by omega) (fun c_68 => ?_) (fun c_68 => ?_)
                  · refine lv_iinc (v := iI 3) (lv' := [(4, .int (iI 3)), (5, .int (iI 1)), (3, .int (iI (nxF NX (nxF NX c)))), (2, .int (iI c)), (0, .ref (q 0)), (1, .int (iI c))]) hx hb d_CS_upperOf_73 hl (k := 2) rfl (iI_add _ _) (by decide) rfl (fun ls hl => ?_)
                    refine lv_goto (tgt := 21) hx hb d_CS_upperOf_76 (by decide) ?_
                    refine lv_iload hx hb d_CS_upperOf_21 (lv_at hl 0 rfl) ?_
                    refine lv_iconst (v := iI 3) hx hb d_CS_upperOf_23 rfl ?_
                    refine ix_icmp_ge (tgt := 79) hx hb d_CS_upperOf_24 (by decide) (by omega) (fun c_24 => ?_) (fun c_24 => ?_)
                    · refine lv_iload_n hx hb d_CS_upperOf_79 rfl (lv_at hl 3 rfl) ?_
                      subst hQ
                      exact W.iret (v := iI c) hx hb hr (fun t h9 hW => ⟨_, rfl, by first | (exfalso; omega) | exact congrArg iI (by unfold upC uq; dsimp only; repeat (first | rw [if_pos (by omega)] | rw [if_neg (by omega)])), h9⟩) (fun _ h9 => by cases h9) d_CS_upperOf_80
                    · exact absurd c_24 (by decide)
                  · refine lv_iload_n hx hb d_CS_upperOf_71 rfl (lv_at hl 1 rfl) ?_
                    refine lv_istore_n (lv' := [(2, .int (iI (nxF NX (nxF NX c)))), (5, .int (iI 1)), (3, .int (iI (nxF NX (nxF NX c)))), (4, .int (iI 2)), (0, .ref (q 0)), (1, .int (iI c))]) hx hb d_CS_upperOf_72 rfl hl (by decide) rfl (fun ls hl => ?_)
                    refine lv_iinc (v := iI 3) (lv' := [(4, .int (iI 3)), (2, .int (iI (nxF NX (nxF NX c)))), (5, .int (iI 1)), (3, .int (iI (nxF NX (nxF NX c)))), (0, .ref (q 0)), (1, .int (iI c))]) hx hb d_CS_upperOf_73 hl (k := 3) rfl (iI_add _ _) (by decide) rfl (fun ls hl => ?_)
                    refine lv_goto (tgt := 21) hx hb d_CS_upperOf_76 (by decide) ?_
                    refine lv_iload hx hb d_CS_upperOf_21 (lv_at hl 0 rfl) ?_
                    refine lv_iconst (v := iI 3) hx hb d_CS_upperOf_23 rfl ?_
                    refine ix_icmp_ge (tgt := 79) hx hb d_CS_upperOf_24 (by decide) (by omega) (fun c_24 => ?_) (fun c_24 => ?_)
                    · refine lv_iload_n hx hb d_CS_upperOf_79 rfl (lv_at hl 1 rfl) ?_
                      subst hQ
                      exact W.iret (v := iI (nxF NX (nxF NX c))) hx hb hr (fun t h9 hW => ⟨_, rfl, by first | (exfalso; omega) | exact congrArg iI (by unfold upC uq; dsimp only; repeat (first | rw [if_pos (by omega)] | rw [if_neg (by omega)])), h9⟩) (fun _ h9 => by cases h9) d_CS_upperOf_80
                    · exact absurd c_24 (by decide)
              · refine lv_iload_n hx hb d_CS_upperOf_41 rfl (lv_at hl 0 rfl) ?_
                refine lv_iload_n hx hb d_CS_upperOf_42 rfl (lv_at hl 3 rfl) ?_
                refine ix_icmp_ge (tgt := 50) hx hb d_CS_upperOf_43 (by decide) (by omega) (fun c_43 => ?_) (fun c_43 => ?_)
                · refine lv_iconst (v := iI 0) hx hb d_CS_upperOf_50 rfl ?_
                  refine lv_istore (lv' := [(5, .int (iI 0)), (3, .int (iI (nxF NX (nxF NX c)))), (4, .int (iI 2)), (2, .int (iI c)), (0, .ref (q 0)), (1, .int (iI c))]) hx hb d_CS_upperOf_51 hl (by decide) rfl (fun ls hl => ?_)
                  refine lv_iload hx hb d_CS_upperOf_53 (lv_at hl 0 rfl) ?_
                  refine ix_if_eq (tgt := 73) hx hb d_CS_upperOf_55 (by decide) (by omega) (fun c_55 => ?_) (fun c_55 => ?_)
                  · refine lv_iinc (v := iI 3) (lv' := [(4, .int (iI 3)), (5, .int (iI 0)), (3, .int (iI (nxF NX (nxF NX c)))), (2, .int (iI c)), (0, .ref (q 0)), (1, .int (iI c))]) hx hb d_CS_upperOf_73 hl (k := 2) rfl (iI_add _ _) (by decide) rfl (fun ls hl => ?_)
                    refine lv_goto (tgt := 21) hx hb d_CS_upperOf_76 (by decide) ?_
                    refine lv_iload hx hb d_CS_upperOf_21 (lv_at hl 0 rfl) ?_
                    refine lv_iconst (v := iI 3) hx hb d_CS_upperOf_23 rfl ?_
                    refine ix_icmp_ge (tgt := 79) hx hb d_CS_upperOf_24 (by decide) (by omega) (fun c_24 => ?_) (fun c_24 => ?_)
                    · refine lv_iload_n hx hb d_CS_upperOf_79 rfl (lv_at hl 3 rfl) ?_
                      subst hQ
                      exact W.iret (v := iI c) hx hb hr (fun t h9 hW => ⟨_, rfl, by first | (exfalso; omega) | exact congrArg iI (by unfold upC uq; dsimp only; repeat (first | rw [if_pos (by omega)] | rw [if_neg (by omega)])), h9⟩) (fun _ h9 => by cases h9) d_CS_upperOf_80
                    · exact absurd c_24 (by decide)
                  · exact absurd c_55 (by decide)
                · refine lv_iconst (v := iI 1) hx hb d_CS_upperOf_46 rfl ?_
                  refine lv_goto (tgt := 51) hx hb d_CS_upperOf_47 (by decide) ?_
                  refine lv_istore (lv' := [(5, .int (iI 1)), (3, .int (iI (nxF NX (nxF NX c)))), (4, .int (iI 2)), (2, .int (iI c)), (0, .ref (q 0)), (1, .int (iI c))]) hx hb d_CS_upperOf_51 hl (by decide) rfl (fun ls hl => ?_)
                  refine lv_iload hx hb d_CS_upperOf_53 (lv_at hl 0 rfl) ?_
                  refine ix_if_eq (tgt := 73) hx hb d_CS_upperOf_55 (by decide) (by omega) (fun c_55 => ?_) (fun c_55 => ?_)
                  · exact absurd c_55 (by decide)
                  · refine lv_aload_n hx hb d_CS_upperOf_58 rfl (lv_at hl 4 rfl) ?_
                    refine va_get (D := g.1) (ci := 0) (v := .ref (q 1)) (C := R_CS) (T := F_CS) (N := 6) hx hb ht i_CS hown hK hP 0 rfl rfl 2 (by decide) (ht _ k_103) (fun _ h9 => h9) rfl d_CS_upperOf_59 ?_
                    refine lv_iload_n hx hb d_CS_upperOf_62 rfl (lv_at hl 1 rfl) ?_
                    refine zcV (ci := 2) (q0 := 0) (As := [.int (iI (nxF NX (nxF NX c)))]) (rest := []) ⟨hx, hb, hml, hown, ht⟩ v_CS_111 (c_TB_categoryOf l g (q 1) (q 2) (q 3) (q 4) (nxF NX (nxF NX c)) (by omega)) ⟨Nat.le_of_ble_eq_true rfl, Nat.le_of_ble_eq_true rfl⟩ ⟨Nat.zero_le _, Nat.zero_le _⟩ hK hZ hS (cw_tb hP) rfl rfl rfl rfl hl.1 rfl (Nat.le_of_ble_eq_true rfl) d_CS_upperOf_63 (fun r_63 h_63 => ?_)
                    obtain ⟨i63, hi63, j1_63, j2_63, rfl⟩ := h_63
                    rw [cat_at hi63 j1_63 j2_63]
                    have q_63 := catF_bd (nxF NX (nxF NX c)) (by omega)
                    refine lv_bipush (v := iI 6) hx hb d_CS_upperOf_66 (by decide) ?_
                    refine ix_icmp_ne (tgt := 73) hx hb d_CS_upperOf_68 (by decide) (by omega) (fun c_68 => ?_) (fun c_68 => ?_)
                    · refine lv_iinc (v := iI 3) (lv' := [(4, .int (iI 3)), (5, .int (iI 1)), (3, .int (iI (nxF NX (nxF NX c)))), (2, .int (iI c)), (0, .ref (q 0)), (1, .int (iI c))]) hx hb d_CS_upperOf_73 hl (k := 2) rfl (iI_add _ _) (by decide) rfl (fun ls hl => ?_)
                      refine lv_goto (tgt := 21) hx hb d_CS_upperOf_76 (by decide) ?_
                      refine lv_iload hx hb d_CS_upperOf_21 (lv_at hl 0 rfl) ?_
                      refine lv_iconst (v := iI 3) hx hb d_CS_upperOf_23 rfl ?_
                      refine ix_icmp_ge (tgt := 79) hx hb d_CS_upperOf_24 (by decide) (by omega) (fun c_24 => ?_) (fun c_24 => ?_)
                      · refine lv_iload_n hx hb d_CS_upperOf_79 rfl (lv_at hl 3 rfl) ?_
                        subst hQ
                        exact W.iret (v := iI c) hx hb hr (fun t h9 hW => ⟨_, rfl, by first | (exfalso; omega) | exact congrArg iI (by unfold upC uq; dsimp only; repeat (first | rw [if_pos (by omega)] | rw [if_neg (by omega)])), h9⟩) (fun _ h9 => by cases h9) d_CS_upperOf_80
                      · exact absurd c_24 (by decide)
                    · refine lv_iload_n hx hb d_CS_upperOf_71 rfl (lv_at hl 1 rfl) ?_
                      refine lv_istore_n (lv' := [(2, .int (iI (nxF NX (nxF NX c)))), (5, .int (iI 1)), (3, .int (iI (nxF NX (nxF NX c)))), (4, .int (iI 2)), (0, .ref (q 0)), (1, .int (iI c))]) hx hb d_CS_upperOf_72 rfl hl (by decide) rfl (fun ls hl => ?_)
                      refine lv_iinc (v := iI 3) (lv' := [(4, .int (iI 3)), (2, .int (iI (nxF NX (nxF NX c)))), (5, .int (iI 1)), (3, .int (iI (nxF NX (nxF NX c)))), (0, .ref (q 0)), (1, .int (iI c))]) hx hb d_CS_upperOf_73 hl (k := 3) rfl (iI_add _ _) (by decide) rfl (fun ls hl => ?_)
                      refine lv_goto (tgt := 21) hx hb d_CS_upperOf_76 (by decide) ?_
                      refine lv_iload hx hb d_CS_upperOf_21 (lv_at hl 0 rfl) ?_
                      refine lv_iconst (v := iI 3) hx hb d_CS_upperOf_23 rfl ?_
                      refine ix_icmp_ge (tgt := 79) hx hb d_CS_upperOf_24 (by decide) (by omega) (fun c_24 => ?_) (fun c_24 => ?_)
                      · refine lv_iload_n hx hb d_CS_upperOf_79 rfl (lv_at hl 1 rfl) ?_
                        subst hQ
                        exact W.iret (v := iI (nxF NX (nxF NX c))) hx hb hr (fun t h9 hW => ⟨_, rfl, by first | (exfalso; omega) | exact congrArg iI (by unfold upC uq; dsimp only; repeat (first | rw [if_pos (by omega)] | rw [if_neg (by omega)])), h9⟩) (fun _ h9 => by cases h9) d_CS_upperOf_80
                      · exact absurd c_24 (by decide)
          · exact absurd c_55 (by decide)
        · refine lv_iconst (v := iI 1) hx hb d_CS_upperOf_46 rfl ?_
          refine lv_goto (tgt := 51) hx hb d_CS_upperOf_47 (by decide) ?_
          refine lv_istore (lv' := [(5, .int (iI 1)), (3, .int (iI (nxF NX c))), (4, .int (iI 1)), (2, .int (iI c)), (0, .ref (q 0)), (1, .int (iI c))]) hx hb d_CS_upperOf_51 hl (by decide) rfl (fun ls hl => ?_)
          refine lv_iload hx hb d_CS_upperOf_53 (lv_at hl 0 rfl) ?_
          refine ix_if_eq (tgt := 73) hx hb d_CS_upperOf_55 (by decide) (by omega) (fun c_55 => ?_) (fun c_55 => ?_)
          · exact absurd c_55 (by decide)
          · refine lv_aload_n hx hb d_CS_upperOf_58 rfl (lv_at hl 4 rfl) ?_
            refine va_get (D := g.1) (ci := 0) (v := .ref (q 1)) (C := R_CS) (T := F_CS) (N := 6) hx hb ht i_CS hown hK hP 0 rfl rfl 2 (by decide) (ht _ k_103) (fun _ h9 => h9) rfl d_CS_upperOf_59 ?_
            refine lv_iload_n hx hb d_CS_upperOf_62 rfl (lv_at hl 1 rfl) ?_
            refine zcV (ci := 2) (q0 := 0) (As := [.int (iI (nxF NX c))]) (rest := []) ⟨hx, hb, hml, hown, ht⟩ v_CS_111 (c_TB_categoryOf l g (q 1) (q 2) (q 3) (q 4) (nxF NX c) (by omega)) ⟨Nat.le_of_ble_eq_true rfl, Nat.le_of_ble_eq_true rfl⟩ ⟨Nat.zero_le _, Nat.zero_le _⟩ hK hZ hS (cw_tb hP) rfl rfl rfl rfl hl.1 rfl (Nat.le_of_ble_eq_true rfl) d_CS_upperOf_63 (fun r_63 h_63 => ?_)
            obtain ⟨i63, hi63, j1_63, j2_63, rfl⟩ := h_63
            rw [cat_at hi63 j1_63 j2_63]
            have q_63 := catF_bd (nxF NX c) (by omega)
            refine lv_bipush (v := iI 6) hx hb d_CS_upperOf_66 (by decide) ?_
            refine ix_icmp_ne (tgt := 73) hx hb d_CS_upperOf_68 (by decide) (by omega) (fun c_68 => ?_) (fun c_68 => ?_)
            · refine lv_iinc (v := iI 2) (lv' := [(4, .int (iI 2)), (5, .int (iI 1)), (3, .int (iI (nxF NX c))), (2, .int (iI c)), (0, .ref (q 0)), (1, .int (iI c))]) hx hb d_CS_upperOf_73 hl (k := 2) rfl (iI_add _ _) (by decide) rfl (fun ls hl => ?_)
              refine lv_goto (tgt := 21) hx hb d_CS_upperOf_76 (by decide) ?_
              refine lv_iload hx hb d_CS_upperOf_21 (lv_at hl 0 rfl) ?_
              refine lv_iconst (v := iI 3) hx hb d_CS_upperOf_23 rfl ?_
              refine ix_icmp_ge (tgt := 79) hx hb d_CS_upperOf_24 (by decide) (by omega) (fun c_24 => ?_) (fun c_24 => ?_)
              · exact absurd c_24 (by decide)
              · refine lv_aload_n hx hb d_CS_upperOf_27 rfl (lv_at hl 4 rfl) ?_
                refine va_get (D := g.1) (ci := 0) (v := .ref (q 5)) (C := R_CS) (T := F_CS) (N := 6) hx hb ht i_CS hown hK hP 0 rfl rfl 3 (by decide) (ht _ k_104) (fun _ h9 => h9) rfl d_CS_upperOf_28 ?_
                refine lv_iload_n hx hb d_CS_upperOf_31 rfl (lv_at hl 2 rfl) ?_
                refine zcV (ci := 3) (q0 := 0) (As := [.int (iI (nxF NX c))]) (rest := []) ⟨hx, hb, hml, hown, ht⟩ v_CS_123 (c_CR_nextOf l g (q 5) (q 6) la NX (nxF NX c) (by omega)) ⟨Nat.le_of_ble_eq_true rfl, Nat.le_of_ble_eq_true rfl⟩ ⟨Nat.zero_le _, Nat.zero_le _⟩ hK hZ hS (cw_rn hP) rfl rfl rfl rfl hl.1 rfl (Nat.le_of_ble_eq_true rfl) d_CS_upperOf_32 (fun r_32 h_32 => ?_)
                subst h_32
                have b_32 := nxF_bd hNX (c := (nxF NX c)) (by omega)
                refine lv_istore_n (lv' := [(3, .int (iI (nxF NX (nxF NX c)))), (4, .int (iI 2)), (5, .int (iI 1)), (2, .int (iI c)), (0, .ref (q 0)), (1, .int (iI c))]) hx hb d_CS_upperOf_35 rfl hl (by decide) rfl (fun ls hl => ?_)
                refine lv_iload_n hx hb d_CS_upperOf_36 rfl (lv_at hl 3 rfl) ?_
                refine lv_iload_n hx hb d_CS_upperOf_37 rfl (lv_at hl 5 rfl) ?_
                refine ix_icmp_eq (tgt := 46) hx hb d_CS_upperOf_38 (by decide) (by omega) (fun c_38 => ?_) (fun c_38 => ?_)
                · refine lv_iconst (v := iI 1) hx hb d_CS_upperOf_46 rfl ?_
                  refine lv_goto (tgt := 51) hx hb d_CS_upperOf_47 (by decide) ?_
                  refine lv_istore (lv' := [(5, .int (iI 1)), (3, .int (iI (nxF NX (nxF NX c)))), (4, .int (iI 2)), (2, .int (iI c)), (0, .ref (q 0)), (1, .int (iI c))]) hx hb d_CS_upperOf_51 hl (by decide) rfl (fun ls hl => ?_)
                  refine lv_iload hx hb d_CS_upperOf_53 (lv_at hl 0 rfl) ?_
                  refine ix_if_eq (tgt := 73) hx hb d_CS_upperOf_55 (by decide) (by omega) (fun c_55 => ?_) (fun c_55 => ?_)
                  · exact absurd c_55 (by decide)
                  · refine lv_aload_n hx hb d_CS_upperOf_58 rfl (lv_at hl 4 rfl) ?_
                    refine va_get (D := g.1) (ci := 0) (v := .ref (q 1)) (C := R_CS) (T := F_CS) (N := 6) hx hb ht i_CS hown hK hP 0 rfl rfl 2 (by decide) (ht _ k_103) (fun _ h9 => h9) rfl d_CS_upperOf_59 ?_
                    refine lv_iload_n hx hb d_CS_upperOf_62 rfl (lv_at hl 1 rfl) ?_
                    refine zcV (ci := 2) (q0 := 0) (As := [.int (iI (nxF NX (nxF NX c)))]) (rest := []) ⟨hx, hb, hml, hown, ht⟩ v_CS_111 (c_TB_categoryOf l g (q 1) (q 2) (q 3) (q 4) (nxF NX (nxF NX c)) (by omega)) ⟨Nat.le_of_ble_eq_true rfl, Nat.le_of_ble_eq_true rfl⟩ ⟨Nat.zero_le _, Nat.zero_le _⟩ hK hZ hS (cw_tb hP) rfl rfl rfl rfl hl.1 rfl (Nat.le_of_ble_eq_true rfl) d_CS_upperOf_63 (fun r_63 h_63 => ?_)
                    obtain ⟨i63, hi63, j1_63, j2_63, rfl⟩ := h_63
                    rw [cat_at hi63 j1_63 j2_63]
                    have q_63 := catF_bd (nxF NX (nxF NX c)) (by omega)
                    refine lv_bipush (v := iI 6) hx hb d_CS_upperOf_66 (by decide) ?_
                    refine ix_icmp_ne (tgt := 73) hx hb d_CS_upperOf_68 (by decide) (by omega) (fun c_68 => ?_) (fun c_68 => ?_)
                    · refine lv_iinc (v := iI 3) (lv' := [(4, .int (iI 3)), (5, .int (iI 1)), (3, .int (iI (nxF NX (nxF NX c)))), (2, .int (iI c)), (0, .ref (q 0)), (1, .int (iI c))]) hx hb d_CS_upperOf_73 hl (k := 2) rfl (iI_add _ _) (by decide) rfl (fun ls hl => ?_)
                      refine lv_goto (tgt := 21) hx hb d_CS_upperOf_76 (by decide) ?_
                      refine lv_iload hx hb d_CS_upperOf_21 (lv_at hl 0 rfl) ?_
                      refine lv_iconst (v := iI 3) hx hb d_CS_upperOf_23 rfl ?_
                      refine ix_icmp_ge (tgt := 79) hx hb d_CS_upperOf_24 (by decide) (by omega) (fun c_24 => ?_) (fun c_24 => ?_)
                      · refine lv_iload_n hx hb d_CS_upperOf_79 rfl (lv_at hl 3 rfl) ?_
                        subst hQ
                        exact W.iret (v := iI c) hx hb hr (fun t h9 hW => ⟨_, rfl, by first | (exfalso; omega) | exact congrArg iI (by unfold upC uq; dsimp only; repeat (first | rw [if_pos (by omega)] | rw [if_neg (by omega)])), h9⟩) (fun _ h9 => by cases h9) d_CS_upperOf_80
                      · exact absurd c_24 (by decide)
                    · refine lv_iload_n hx hb d_CS_upperOf_71 rfl (lv_at hl 1 rfl) ?_
                      refine lv_istore_n (lv' := [(2, .int (iI (nxF NX (nxF NX c)))), (5, .int (iI 1)), (3, .int (iI (nxF NX (nxF NX c)))), (4, .int (iI 2)), (0, .ref (q 0)), (1, .int (iI c))]) hx hb d_CS_upperOf_72 rfl hl (by decide) rfl (fun ls hl => ?_)
                      refine lv_iinc (v := iI 3) (lv' := [(4, .int (iI 3)), (2, .int (iI (nxF NX (nxF NX c)))), (5, .int (iI 1)), (3, .int (iI (nxF NX (nxF NX c)))), (0, .ref (q 0)), (1, .int (iI c))]) hx hb d_CS_upperOf_73 hl (k := 3) rfl (iI_add _ _) (by decide) rfl (fun ls hl => ?_)
                      refine lv_goto (tgt := 21) hx hb d_CS_upperOf_76 (by decide) ?_
                      refine lv_iload hx hb d_CS_upperOf_21 (lv_at hl 0 rfl) ?_
                      refine lv_iconst (v := iI 3) hx hb d_CS_upperOf_23 rfl ?_
                      refine ix_icmp_ge (tgt := 79) hx hb d_CS_upperOf_24 (by decide) (by omega) (fun c_24 => ?_) (fun c_24 => ?_)
                      · refine lv_iload_n hx hb d_CS_upperOf_79 rfl (lv_at hl 1 rfl) ?_
                        subst hQ
                        exact W.iret (v := iI (nxF NX (nxF NX c))) hx hb hr (fun t h9 hW => ⟨_, rfl, by first | (exfalso; omega) | exact congrArg iI (by unfold upC uq; dsimp only; repeat (first | rw [if_pos (by omega)] | rw [if_neg (by omega)])), h9⟩) (fun _ h9 => by cases h9) d_CS_upperOf_80
                      · exact absurd c_24 (by decide)
                · refine lv_iload_n hx hb d_CS_upperOf_41 rfl (lv_at hl 0 rfl) ?_
                  refine lv_iload_n hx hb d_CS_upperOf_42 rfl (lv_at hl 3 rfl) ?_
                  refine ix_icmp_ge (tgt := 50) hx hb d_CS_upperOf_43 (by decide) (by omega) (fun c_43 => ?_) (fun c_43 => ?_)
                  · refine lv_iconst (v := iI 0) hx hb d_CS_upperOf_50 rfl ?_
                    refine lv_istore (lv' := [(5, .int (iI 0)), (3, .int (iI (nxF NX (nxF NX c)))), (4, .int (iI 2)), (2, .int (iI c)), (0, .ref (q 0)), (1, .int (iI c))]) hx hb d_CS_upperOf_51 hl (by decide) rfl (fun ls hl => ?_)
                    refine lv_iload hx hb d_CS_upperOf_53 (lv_at hl 0 rfl) ?_
                    refine ix_if_eq (tgt := 73) hx hb d_CS_upperOf_55 (by decide) (by omega) (fun c_55 => ?_) (fun c_55 => ?_)
                    · refine lv_iinc (v := iI 3) (lv' := [(4, .int (iI 3)), (5, .int (iI 0)), (3, .int (iI (nxF NX (nxF NX c)))), (2, .int (iI c)), (0, .ref (q 0)), (1, .int (iI c))]) hx hb d_CS_upperOf_73 hl (k := 2) rfl (iI_add _ _) (by decide) rfl (fun ls hl => ?_)
                      refine lv_goto (tgt := 21) hx hb d_CS_upperOf_76 (by decide) ?_
                      refine lv_iload hx hb d_CS_upperOf_21 (lv_at hl 0 rfl) ?_
                      refine lv_iconst (v := iI 3) hx hb d_CS_upperOf_23 rfl ?_
                      refine ix_icmp_ge (tgt := 79) hx hb d_CS_upperOf_24 (by decide) (by omega) (fun c_24 => ?_) (fun c_24 => ?_)
                      · refine lv_iload_n hx hb d_CS_upperOf_79 rfl (lv_at hl 3 rfl) ?_
                        subst hQ
                        exact W.iret (v := iI c) hx hb hr (fun t h9 hW => ⟨_, rfl, by first | (exfalso; omega) | exact congrArg iI (by unfold upC uq; dsimp only; repeat (first | rw [if_pos (by omega)] | rw [if_neg (by omega)])), h9⟩) (fun _ h9 => by cases h9) d_CS_upperOf_80
                      · exact absurd c_24 (by decide)
                    · exact absurd c_55 (by decide)
                  · refine lv_iconst (v := iI 1) hx hb d_CS_upperOf_46 rfl ?_
                    refine lv_goto (tgt := 51) hx hb d_CS_upperOf_47 (by decide) ?_
                    refine lv_istore (lv' := [(5, .int (iI 1)), (3, .int (iI (nxF NX (nxF NX c)))), (4, .int (iI 2)), (2, .int (iI c)), (0, .ref (q 0)), (1, .int (iI c))]) hx hb d_CS_upperOf_51 hl (by decide) rfl (fun ls hl => ?_)
                    refine lv_iload hx hb d_CS_upperOf_53 (lv_at hl 0 rfl) ?_
                    refine ix_if_eq (tgt := 73) hx hb d_CS_upperOf_55 (by decide) (by omega) (fun c_55 => ?_) (fun c_55 => ?_)
                    · exact absurd c_55 (by decide)
                    · refine lv_aload_n hx hb d_CS_upperOf_58 rfl (lv_at hl 4 rfl) ?_
                      refine va_get (D := g.1) (ci := 0) (v := .ref (q 1)) (C := R_CS) (T := F_CS) (N := 6) hx hb ht i_CS hown hK hP 0 rfl rfl 2 (by decide) (ht _ k_103) (fun _ h9 => h9) rfl d_CS_upperOf_59 ?_
                      refine lv_iload_n hx hb d_CS_upperOf_62 rfl (lv_at hl 1 rfl) ?_
                      refine zcV (ci := 2) (q0 := 0) (As := [.int (iI (nxF NX (nxF NX c)))]) (rest := []) ⟨hx, hb, hml, hown, ht⟩ v_CS_111 (c_TB_categoryOf l g (q 1) (q 2) (q 3) (q 4) (nxF NX (nxF NX c)) (by omega)) ⟨Nat.le_of_ble_eq_true rfl, Nat.le_of_ble_eq_true rfl⟩ ⟨Nat.zero_le _, Nat.zero_le _⟩ hK hZ hS (cw_tb hP) rfl rfl rfl rfl hl.1 rfl (Nat.le_of_ble_eq_true rfl) d_CS_upperOf_63 (fun r_63 h_63 => ?_)
                      obtain ⟨i63, hi63, j1_63, j2_63, rfl⟩ := h_63
                      rw [cat_at hi63 j1_63 j2_63]
                      have q_63 := catF_bd (nxF NX (nxF NX c)) (by omega)
                      refine lv_bipush (v := iI 6) hx hb d_CS_upperOf_66 (by decide) ?_
                      refine ix_icmp_ne (tgt := 73) hx hb d_CS_upperOf_68 (by decide) (by omega) (fun c_68 => ?_) (fun c_68 => ?_)
                      · refine lv_iinc (v := iI 3) (lv' := [(4, .int (iI 3)), (5, .int (iI 1)), (3, .int (iI (nxF NX (nxF NX c)))), (2, .int (iI c)), (0, .ref (q 0)), (1, .int (iI c))]) hx hb d_CS_upperOf_73 hl (k := 2) rfl (iI_add _ _) (by decide) rfl (fun ls hl => ?_)
                        refine lv_goto (tgt := 21) hx hb d_CS_upperOf_76 (by decide) ?_
                        refine lv_iload hx hb d_CS_upperOf_21 (lv_at hl 0 rfl) ?_
                        refine lv_iconst (v := iI 3) hx hb d_CS_upperOf_23 rfl ?_
                        refine ix_icmp_ge (tgt := 79) hx hb d_CS_upperOf_24 (by decide) (by omega) (fun c_24 => ?_) (fun c_24 => ?_)
                        · refine lv_iload_n hx hb d_CS_upperOf_79 rfl (lv_at hl 3 rfl) ?_
                          subst hQ
                          exact W.iret (v := iI c) hx hb hr (fun t h9 hW => ⟨_, rfl, by first | (exfalso; omega) | exact congrArg iI (by unfold upC uq; dsimp only; repeat (first | rw [if_pos (by omega)] | rw [if_neg (by omega)])), h9⟩) (fun _ h9 => by cases h9) d_CS_upperOf_80
                        · exact absurd c_24 (by decide)
                      · refine lv_iload_n hx hb d_CS_upperOf_71 rfl (lv_at hl 1 rfl) ?_
                        refine lv_istore_n (lv' := [(2, .int (iI (nxF NX (nxF NX c)))), (5, .int (iI 1)), (3, .int (iI (nxF NX (nxF NX c)))), (4, .int (iI 2)), (0, .ref (q 0)), (1, .int (iI c))]) hx hb d_CS_upperOf_72 rfl hl (by decide) rfl (fun ls hl => ?_)
                        refine lv_iinc (v := iI 3) (lv' := [(4, .int (iI 3)), (2, .int (iI (nxF NX (nxF NX c)))), (5, .int (iI 1)), (3, .int (iI (nxF NX (nxF NX c)))), (0, .ref (q 0)), (1, .int (iI c))]) hx hb d_CS_upperOf_73 hl (k := 3) rfl (iI_add _ _) (by decide) rfl (fun ls hl => ?_)
                        refine lv_goto (tgt := 21) hx hb d_CS_upperOf_76 (by decide) ?_
                        refine lv_iload hx hb d_CS_upperOf_21 (lv_at hl 0 rfl) ?_
                        refine lv_iconst (v := iI 3) hx hb d_CS_upperOf_23 rfl ?_
                        refine ix_icmp_ge (tgt := 79) hx hb d_CS_upperOf_24 (by decide) (by omega) (fun c_24 => ?_) (fun c_24 => ?_)
                        · refine lv_iload_n hx hb d_CS_upperOf_79 rfl (lv_at hl 1 rfl) ?_
                          subst hQ
                          exact W.iret (v := iI (nxF NX (nxF NX c))) hx hb hr (fun t h9 hW => ⟨_, rfl, by first | (exfalso; omega) | exact congrArg iI (by unfold upC uq; dsimp only; repeat (first | rw [if_pos (by omega)] | rw [if_neg (by omega)])), h9⟩) (fun _ h9 => by cases h9) d_CS_upperOf_80
                        · exact absurd c_24 (by decide)
            · refine lv_iload_n hx hb d_CS_upperOf_71 rfl (lv_at hl 1 rfl) ?_
              refine lv_istore_n (lv' := [(2, .int (iI (nxF NX c))), (5, .int (iI 1)), (3, .int (iI (nxF NX c))), (4, .int (iI 1)), (0, .ref (q 0)), (1, .int (iI c))]) hx hb d_CS_upperOf_72 rfl hl (by decide) rfl (fun ls hl => ?_)
              refine lv_iinc (v := iI 2) (lv' := [(4, .int (iI 2)), (2, .int (iI (nxF NX c))), (5, .int (iI 1)), (3, .int (iI (nxF NX c))), (0, .ref (q 0)), (1, .int (iI c))]) hx hb d_CS_upperOf_73 hl (k := 3) rfl (iI_add _ _) (by decide) rfl (fun ls hl => ?_)
              refine lv_goto (tgt := 21) hx hb d_CS_upperOf_76 (by decide) ?_
              refine lv_iload hx hb d_CS_upperOf_21 (lv_at hl 0 rfl) ?_
              refine lv_iconst (v := iI 3) hx hb d_CS_upperOf_23 rfl ?_
              refine ix_icmp_ge (tgt := 79) hx hb d_CS_upperOf_24 (by decide) (by omega) (fun c_24 => ?_) (fun c_24 => ?_)
              · exact absurd c_24 (by decide)
              · refine lv_aload_n hx hb d_CS_upperOf_27 rfl (lv_at hl 4 rfl) ?_
                refine va_get (D := g.1) (ci := 0) (v := .ref (q 5)) (C := R_CS) (T := F_CS) (N := 6) hx hb ht i_CS hown hK hP 0 rfl rfl 3 (by decide) (ht _ k_104) (fun _ h9 => h9) rfl d_CS_upperOf_28 ?_
                refine lv_iload_n hx hb d_CS_upperOf_31 rfl (lv_at hl 3 rfl) ?_
                refine zcV (ci := 3) (q0 := 0) (As := [.int (iI (nxF NX c))]) (rest := []) ⟨hx, hb, hml, hown, ht⟩ v_CS_123 (c_CR_nextOf l g (q 5) (q 6) la NX (nxF NX c) (by omega)) ⟨Nat.le_of_ble_eq_true rfl, Nat.le_of_ble_eq_true rfl⟩ ⟨Nat.zero_le _, Nat.zero_le _⟩ hK hZ hS (cw_rn hP) rfl rfl rfl rfl hl.1 rfl (Nat.le_of_ble_eq_true rfl) d_CS_upperOf_32 (fun r_32 h_32 => ?_)
                subst h_32
                have b_32 := nxF_bd hNX (c := (nxF NX c)) (by omega)
                refine lv_istore_n (lv' := [(3, .int (iI (nxF NX (nxF NX c)))), (4, .int (iI 2)), (2, .int (iI (nxF NX c))), (5, .int (iI 1)), (0, .ref (q 0)), (1, .int (iI c))]) hx hb d_CS_upperOf_35 rfl hl (by decide) rfl (fun ls hl => ?_)
                refine lv_iload_n hx hb d_CS_upperOf_36 rfl (lv_at hl 2 rfl) ?_
                refine lv_iload_n hx hb d_CS_upperOf_37 rfl (lv_at hl 5 rfl) ?_
                refine ix_icmp_eq (tgt := 46) hx hb d_CS_upperOf_38 (by decide) (by omega) (fun c_38 => ?_) (fun c_38 => ?_)
                · refine lv_iconst (v := iI 1) hx hb d_CS_upperOf_46 rfl ?_
                  refine lv_goto (tgt := 51) hx hb d_CS_upperOf_47 (by decide) ?_
                  refine lv_istore (lv' := [(5, .int (iI 1)), (3, .int (iI (nxF NX (nxF NX c)))), (4, .int (iI 2)), (2, .int (iI (nxF NX c))), (0, .ref (q 0)), (1, .int (iI c))]) hx hb d_CS_upperOf_51 hl (by decide) rfl (fun ls hl => ?_)
                  refine lv_iload hx hb d_CS_upperOf_53 (lv_at hl 0 rfl) ?_
                  refine ix_if_eq (tgt := 73) hx hb d_CS_upperOf_55 (by decide) (by omega) (fun c_55 => ?_) (fun c_55 => ?_)
                  · exact absurd c_55 (by decide)
                  · refine lv_aload_n hx hb d_CS_upperOf_58 rfl (lv_at hl 4 rfl) ?_
                    refine va_get (D := g.1) (ci := 0) (v := .ref (q 1)) (C := R_CS) (T := F_CS) (N := 6) hx hb ht i_CS hown hK hP 0 rfl rfl 2 (by decide) (ht _ k_103) (fun _ h9 => h9) rfl d_CS_upperOf_59 ?_
                    refine lv_iload_n hx hb d_CS_upperOf_62 rfl (lv_at hl 1 rfl) ?_
                    refine zcV (ci := 2) (q0 := 0) (As := [.int (iI (nxF NX (nxF NX c)))]) (rest := []) ⟨hx, hb, hml, hown, ht⟩ v_CS_111 (c_TB_categoryOf l g (q 1) (q 2) (q 3) (q 4) (nxF NX (nxF NX c)) (by omega)) ⟨Nat.le_of_ble_eq_true rfl, Nat.le_of_ble_eq_true rfl⟩ ⟨Nat.zero_le _, Nat.zero_le _⟩ hK hZ hS (cw_tb hP) rfl rfl rfl rfl hl.1 rfl (Nat.le_of_ble_eq_true rfl) d_CS_upperOf_63 (fun r_63 h_63 => ?_)
                    obtain ⟨i63, hi63, j1_63, j2_63, rfl⟩ := h_63
                    rw [cat_at hi63 j1_63 j2_63]
                    have q_63 := catF_bd (nxF NX (nxF NX c)) (by omega)
                    refine lv_bipush (v := iI 6) hx hb d_CS_upperOf_66 (by decide) ?_
                    refine ix_icmp_ne (tgt := 73) hx hb d_CS_upperOf_68 (by decide) (by omega) (fun c_68 => ?_) (fun c_68 => ?_)
                    · refine lv_iinc (v := iI 3) (lv' := [(4, .int (iI 3)), (5, .int (iI 1)), (3, .int (iI (nxF NX (nxF NX c)))), (2, .int (iI (nxF NX c))), (0, .ref (q 0)), (1, .int (iI c))]) hx hb d_CS_upperOf_73 hl (k := 2) rfl (iI_add _ _) (by decide) rfl (fun ls hl => ?_)
                      refine lv_goto (tgt := 21) hx hb d_CS_upperOf_76 (by decide) ?_
                      refine lv_iload hx hb d_CS_upperOf_21 (lv_at hl 0 rfl) ?_
                      refine lv_iconst (v := iI 3) hx hb d_CS_upperOf_23 rfl ?_
                      refine ix_icmp_ge (tgt := 79) hx hb d_CS_upperOf_24 (by decide) (by omega) (fun c_24 => ?_) (fun c_24 => ?_)
                      · refine lv_iload_n hx hb d_CS_upperOf_79 rfl (lv_at hl 3 rfl) ?_
                        subst hQ
                        exact W.iret (v := iI (nxF NX c)) hx hb hr (fun t h9 hW => ⟨_, rfl, by first | (exfalso; omega) | exact congrArg iI (by unfold upC uq; dsimp only; repeat (first | rw [if_pos (by omega)] | rw [if_neg (by omega)])), h9⟩) (fun _ h9 => by cases h9) d_CS_upperOf_80
                      · exact absurd c_24 (by decide)
                    · refine lv_iload_n hx hb d_CS_upperOf_71 rfl (lv_at hl 1 rfl) ?_
                      refine lv_istore_n (lv' := [(2, .int (iI (nxF NX (nxF NX c)))), (5, .int (iI 1)), (3, .int (iI (nxF NX (nxF NX c)))), (4, .int (iI 2)), (0, .ref (q 0)), (1, .int (iI c))]) hx hb d_CS_upperOf_72 rfl hl (by decide) rfl (fun ls hl => ?_)
                      refine lv_iinc (v := iI 3) (lv' := [(4, .int (iI 3)), (2, .int (iI (nxF NX (nxF NX c)))), (5, .int (iI 1)), (3, .int (iI (nxF NX (nxF NX c)))), (0, .ref (q 0)), (1, .int (iI c))]) hx hb d_CS_upperOf_73 hl (k := 3) rfl (iI_add _ _) (by decide) rfl (fun ls hl => ?_)
                      refine lv_goto (tgt := 21) hx hb d_CS_upperOf_76 (by decide) ?_
                      refine lv_iload hx hb d_CS_upperOf_21 (lv_at hl 0 rfl) ?_
                      refine lv_iconst (v := iI 3) hx hb d_CS_upperOf_23 rfl ?_
                      refine ix_icmp_ge (tgt := 79) hx hb d_CS_upperOf_24 (by decide) (by omega) (fun c_24 => ?_) (fun c_24 => ?_)
                      · refine lv_iload_n hx hb d_CS_upperOf_79 rfl (lv_at hl 1 rfl) ?_
                        subst hQ
                        exact W.iret (v := iI (nxF NX (nxF NX c))) hx hb hr (fun t h9 hW => ⟨_, rfl, by first | (exfalso; omega) | exact congrArg iI (by unfold upC uq; dsimp only; repeat (first | rw [if_pos (by omega)] | rw [if_neg (by omega)])), h9⟩) (fun _ h9 => by cases h9) d_CS_upperOf_80
                      · exact absurd c_24 (by decide)
                · refine lv_iload_n hx hb d_CS_upperOf_41 rfl (lv_at hl 0 rfl) ?_
                  refine lv_iload_n hx hb d_CS_upperOf_42 rfl (lv_at hl 2 rfl) ?_
                  refine ix_icmp_ge (tgt := 50) hx hb d_CS_upperOf_43 (by decide) (by omega) (fun c_43 => ?_) (fun c_43 => ?_)
                  · refine lv_iconst (v := iI 0) hx hb d_CS_upperOf_50 rfl ?_
                    refine lv_istore (lv' := [(5, .int (iI 0)), (3, .int (iI (nxF NX (nxF NX c)))), (4, .int (iI 2)), (2, .int (iI (nxF NX c))), (0, .ref (q 0)), (1, .int (iI c))]) hx hb d_CS_upperOf_51 hl (by decide) rfl (fun ls hl => ?_)
                    refine lv_iload hx hb d_CS_upperOf_53 (lv_at hl 0 rfl) ?_
                    refine ix_if_eq (tgt := 73) hx hb d_CS_upperOf_55 (by decide) (by omega) (fun c_55 => ?_) (fun c_55 => ?_)
                    · refine lv_iinc (v := iI 3) (lv' := [(4, .int (iI 3)), (5, .int (iI 0)), (3, .int (iI (nxF NX (nxF NX c)))), (2, .int (iI (nxF NX c))), (0, .ref (q 0)), (1, .int (iI c))]) hx hb d_CS_upperOf_73 hl (k := 2) rfl (iI_add _ _) (by decide) rfl (fun ls hl => ?_)
                      refine lv_goto (tgt := 21) hx hb d_CS_upperOf_76 (by decide) ?_
                      refine lv_iload hx hb d_CS_upperOf_21 (lv_at hl 0 rfl) ?_
                      refine lv_iconst (v := iI 3) hx hb d_CS_upperOf_23 rfl ?_
                      refine ix_icmp_ge (tgt := 79) hx hb d_CS_upperOf_24 (by decide) (by omega) (fun c_24 => ?_) (fun c_24 => ?_)
                      · refine lv_iload_n hx hb d_CS_upperOf_79 rfl (lv_at hl 3 rfl) ?_
                        subst hQ
                        exact W.iret (v := iI (nxF NX c)) hx hb hr (fun t h9 hW => ⟨_, rfl, by first | (exfalso; omega) | exact congrArg iI (by unfold upC uq; dsimp only; repeat (first | rw [if_pos (by omega)] | rw [if_neg (by omega)])), h9⟩) (fun _ h9 => by cases h9) d_CS_upperOf_80
                      · exact absurd c_24 (by decide)
                    · exact absurd c_55 (by decide)
                  · refine lv_iconst (v := iI 1) hx hb d_CS_upperOf_46 rfl ?_
                    refine lv_goto (tgt := 51) hx hb d_CS_upperOf_47 (by decide) ?_
                    refine lv_istore (lv' := [(5, .int (iI 1)), (3, .int (iI (nxF NX (nxF NX c)))), (4, .int (iI 2)), (2, .int (iI (nxF NX c))), (0, .ref (q 0)), (1, .int (iI c))]) hx hb d_CS_upperOf_51 hl (by decide) rfl (fun ls hl => ?_)
                    refine lv_iload hx hb d_CS_upperOf_53 (lv_at hl 0 rfl) ?_
                    refine ix_if_eq (tgt := 73) hx hb d_CS_upperOf_55 (by decide) (by omega) (fun c_55 => ?_) (fun c_55 => ?_)
                    · exact absurd c_55 (by decide)
                    · refine lv_aload_n hx hb d_CS_upperOf_58 rfl (lv_at hl 4 rfl) ?_
                      refine va_get (D := g.1) (ci := 0) (v := .ref (q 1)) (C := R_CS) (T := F_CS) (N := 6) hx hb ht i_CS hown hK hP 0 rfl rfl 2 (by decide) (ht _ k_103) (fun _ h9 => h9) rfl d_CS_upperOf_59 ?_
                      refine lv_iload_n hx hb d_CS_upperOf_62 rfl (lv_at hl 1 rfl) ?_
                      refine zcV (ci := 2) (q0 := 0) (As := [.int (iI (nxF NX (nxF NX c)))]) (rest := []) ⟨hx, hb, hml, hown, ht⟩ v_CS_111 (c_TB_categoryOf l g (q 1) (q 2) (q 3) (q 4) (nxF NX (nxF NX c)) (by omega)) ⟨Nat.le_of_ble_eq_true rfl, Nat.le_of_ble_eq_true rfl⟩ ⟨Nat.zero_le _, Nat.zero_le _⟩ hK hZ hS (cw_tb hP) rfl rfl rfl rfl hl.1 rfl (Nat.le_of_ble_eq_true rfl) d_CS_upperOf_63 (fun r_63 h_63 => ?_)
                      obtain ⟨i63, hi63, j1_63, j2_63, rfl⟩ := h_63
                      rw [cat_at hi63 j1_63 j2_63]
                      have q_63 := catF_bd (nxF NX (nxF NX c)) (by omega)
                      refine lv_bipush (v := iI 6) hx hb d_CS_upperOf_66 (by decide) ?_
                      refine ix_icmp_ne (tgt := 73) hx hb d_CS_upperOf_68 (by decide) (by omega) (fun c_68 => ?_) (fun c_68 => ?_)
                      · refine lv_iinc (v := iI 3) (lv' := [(4, .int (iI 3)), (5, .int (iI 1)), (3, .int (iI (nxF NX (nxF NX c)))), (2, .int (iI (nxF NX c))), (0, .ref (q 0)), (1, .int (iI c))]) hx hb d_CS_upperOf_73 hl (k := 2) rfl (iI_add _ _) (by decide) rfl (fun ls hl => ?_)
                        refine lv_goto (tgt := 21) hx hb d_CS_upperOf_76 (by decide) ?_
                        refine lv_iload hx hb d_CS_upperOf_21 (lv_at hl 0 rfl) ?_
                        refine lv_iconst (v := iI 3) hx hb d_CS_upperOf_23 rfl ?_
                        refine ix_icmp_ge (tgt := 79) hx hb d_CS_upperOf_24 (by decide) (by omega) (fun c_24 => ?_) (fun c_24 => ?_)
                        · refine lv_iload_n hx hb d_CS_upperOf_79 rfl (lv_at hl 3 rfl) ?_
                          subst hQ
                          exact W.iret (v := iI (nxF NX c)) hx hb hr (fun t h9 hW => ⟨_, rfl, by first | (exfalso; omega) | exact congrArg iI (by unfold upC uq; dsimp only; repeat (first | rw [if_pos (by omega)] | rw [if_neg (by omega)])), h9⟩) (fun _ h9 => by cases h9) d_CS_upperOf_80
                        · exact absurd c_24 (by decide)
                      · refine lv_iload_n hx hb d_CS_upperOf_71 rfl (lv_at hl 1 rfl) ?_
                        refine lv_istore_n (lv' := [(2, .int (iI (nxF NX (nxF NX c)))), (5, .int (iI 1)), (3, .int (iI (nxF NX (nxF NX c)))), (4, .int (iI 2)), (0, .ref (q 0)), (1, .int (iI c))]) hx hb d_CS_upperOf_72 rfl hl (by decide) rfl (fun ls hl => ?_)
                        refine lv_iinc (v := iI 3) (lv' := [(4, .int (iI 3)), (2, .int (iI (nxF NX (nxF NX c)))), (5, .int (iI 1)), (3, .int (iI (nxF NX (nxF NX c)))), (0, .ref (q 0)), (1, .int (iI c))]) hx hb d_CS_upperOf_73 hl (k := 3) rfl (iI_add _ _) (by decide) rfl (fun ls hl => ?_)
                        refine lv_goto (tgt := 21) hx hb d_CS_upperOf_76 (by decide) ?_
                        refine lv_iload hx hb d_CS_upperOf_21 (lv_at hl 0 rfl) ?_
                        refine lv_iconst (v := iI 3) hx hb d_CS_upperOf_23 rfl ?_
                        refine ix_icmp_ge (tgt := 79) hx hb d_CS_upperOf_24 (by decide) (by omega) (fun c_24 => ?_) (fun c_24 => ?_)
                        · refine lv_iload_n hx hb d_CS_upperOf_79 rfl (lv_at hl 1 rfl) ?_
                          subst hQ
                          exact W.iret (v := iI (nxF NX (nxF NX c))) hx hb hr (fun t h9 hW => ⟨_, rfl, by first | (exfalso; omega) | exact congrArg iI (by unfold upC uq; dsimp only; repeat (first | rw [if_pos (by omega)] | rw [if_neg (by omega)])), h9⟩) (fun _ h9 => by cases h9) d_CS_upperOf_80
                        · exact absurd c_24 (by decide)
  · refine lv_iload_n hx hb d_CS_upperOf_12 rfl (lv_at hl 1 rfl) ?_
    subst hQ
    exact W.iret (v := iI c) hx hb hr (fun t h9 hW => ⟨_, rfl, congrArg iI (by unfold upC; rw [if_neg (by omega)]), h9⟩) (fun _ h9 => by cases h9) d_CS_upperOf_13
