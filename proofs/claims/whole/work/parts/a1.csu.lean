theorem cat_at {i : Nat} {c : Int} (hi : i < 253) (h1 : LOf i ≤ c) (h2 : c < hiE i) : iI (CAf i) = iI (catF c) := by rw [(cat_piece i hi c h1 h2).1]
theorem scr_at {i : Nat} {c : Int} (hi : i < 253) (h1 : LOf i ≤ c) (h2 : c < hiE i) : iI (SCf i) = iI (scrF c) := by rw [(cat_piece i hi c h1 h2).2]
/-- one turn of the class's upperOf: (upper, kin) -/
def uq (NX : Nat → Int) (c : Int) (q : Int × Int) : Int × Int := (if (q.1 = c ∨ nxF NX q.2 < q.1) ∧ catF (nxF NX q.2) = 6 then nxF NX q.2 else q.1, nxF NX q.2)
def upC (NX : Nat → Int) (c : Int) : Int := if catF c = 4 then (uq NX c (uq NX c (c, c))).1 else c
def loC (NX : Nat → Int) (c : Int) : Int := if catF c = 6 then (if ¬ (nxF NX c = 383 ∨ nxF NX c = 181 ∨ nxF NX c = 962) ∧ catF (nxF NX c) = 4 then nxF NX c else if ¬ (nxF NX (nxF NX c) = 383 ∨ nxF NX (nxF NX c) = 181 ∨ nxF NX (nxF NX c) = 962) ∧ catF (nxF NX (nxF NX c)) = 4 then nxF NX (nxF NX c) else c) else c
def abC (NX : Nat → Int) (la c w : Int) : Int := if c < 0 ∨ 1114111 < c ∨ w < 0 ∨ 4 < w then -2 else if w = 0 then catF c else if w = 1 then scrF c else if la < c then -2 else if w = 2 then upC NX c else if w = 3 then loC NX c else nxF NX c
set_option maxHeartbeats 4000000 in
set_option maxRecDepth 100000 in
theorem c_CS_upperOf (l : Launch) (g : zG) (q : Nat → Nat) (u la : Int) (NX : Nat → Int) (n : Nat → Nat) (es : Nat → Nat → Int) (c : Int) (hc : 0 ≤ c ∧ c ≤ 1114111) (hNX : ∀ j, j < 1122 → 0 ≤ NX j ∧ NX j ≤ 1114111)  : Met l y_CS_upperOf w_CS_upperOf (zr 2 44) (zP g [.ref (q 0), .int (iI c)] (cw g q u la NX n es)) (vp_Si (fun z => z = iI (upC NX c))) 0 0 (fun _ => False) := by
  refine Met.ofW (cc := b_CS_upperOf) (maxL := 6) (ret := (some .int)) (by decide) rfl ?_
  intro p e s m args below meth cd s₁ B hml hv
  obtain ⟨hargs, hP, hK, hZ⟩ := hv
  have hx := B.exec
  have hb := B.bytes
  have hr := B.returns
  have ht : ∀ w ∈ lw_ok, w.before args s = true := fun w h => atoms_spec (ws := w_CS_upperOf) B.pre w (List.mem_cons_of_mem _ h)
  have hown : s.vm.findClass R_CS = some m.cls := findClass_of_methodNamed B.named
  have hlocks := B.notSynchronized
  have hS : va_S (fun _ => False) s.heap s.heap [] := va_S.rf
  generalize hQ : MQ below _ args s 0 0 _ = Q
  have hl := lv_entry ([.ref (q 0), .int (iI c)]) (n := 6) (Nat.le_of_ble_eq_true rfl)
  rw [show entryFrame m args 6 = entryFrame m ([.ref (q 0), .int (iI c)] : List Value).toArray 6 by rw [hargs], lg_entry_eq]
  generalize (lg_sl ([.ref (q 0), .int (iI c)]) ++ List.replicate (6 - (lg_sl ([.ref (q 0), .int (iI c)])).length) Slot.unset).toArray = ls at hl ⊢
  have hl : lv_has ls 6 [(0, .ref (q 0)), (1, .int (iI c))] := hl
  refine lv_aload_n hx hb d_CS_upperOf_0 rfl (lv_at hl 0 rfl) ?_
  refine va_get (D := g.1) (ci := 0) (v := .ref (q 1)) (C := R_CS) (T := F_CS) (N := 6) hx hb ht i_CS hown hK hP 0 rfl rfl 2 (by decide) (ht _ k_103) (fun _ h9 => h9) rfl d_CS_upperOf_1 ?_
  refine lv_iload_n hx hb d_CS_upperOf_4 rfl (lv_at hl 1 rfl) ?_
  refine zcV (ci := 2) (q0 := 0) (As := [.int (iI c)]) (rest := []) ⟨hx, hb, hml, hown, ht⟩ v_CS_111 (c_TB_categoryOf l g (q 1) (q 2) (q 3) (q 4) c (by omega)) ⟨Nat.le_of_ble_eq_true rfl, Nat.le_of_ble_eq_true rfl⟩ ⟨Nat.zero_le _, Nat.zero_le _⟩ hK hZ hS (cw_tb hP) rfl rfl rfl rfl hl.1 rfl (Nat.le_of_ble_eq_true rfl) d_CS_upperOf_5 (fun r_5 h_5 => ?_)
  obtain ⟨i5, hi5, j1_5, j2_5, rfl⟩ := h_5
  rw [cat_at hi5 j1_5 j2_5]
  have q_5 := catF_bd c (by omega)
  refine lv_iconst (v := iI 4) hx hb d_CS_upperOf_8 rfl ?_
  refine ix_icmp_eq (tgt := 14) hx hb d_CS_upperOf_9 (by decide) (by omega) (fun c_9 => ?_) (fun c_9 => ?_)
  · refine lv_iload_n hx hb d_CS_upperOf_14 rfl (lv_at hl 1 rfl) ?_
    refine lv_istore_n (lv' := [(2, .int (iI c)), (0, .ref (q 0)), (1, .int (iI c))]) hx hb d_CS_upperOf_15 rfl hl (by decide) rfl (fun ls hl => ?_)
    refine lv_iload_n hx hb d_CS_upperOf_16 rfl (lv_at hl 2 rfl) ?_
    refine lv_istore_n (lv' := [(3, .int (iI c)), (2, .int (iI c)), (0, .ref (q 0)), (1, .int (iI c))]) hx hb d_CS_upperOf_17 rfl hl (by decide) rfl (fun ls hl => ?_)
    refine lv_iconst (v := iI 1) hx hb d_CS_upperOf_18 rfl ?_
    refine lv_istore (lv' := [(4, .int (iI 1)), (3, .int (iI c)), (2, .int (iI c)), (0, .ref (q 0)), (1, .int (iI c))]) hx hb d_CS_upperOf_19 hl (by decide) rfl (fun ls hl => ?_)
    refine lv_iload hx hb d_CS_upperOf_21 (lv_at hl 0 rfl) ?_
    refine lv_iconst (v := iI 3) hx hb d_CS_upperOf_23 rfl ?_
    refine ix_icmp_ge (tgt := 79) hx hb d_CS_upperOf_24 (by decide) (by omega) (fun c_24 => ?_) (fun c_24 => ?_)
    · exact absurd c_24 (by decide)
    · refine lv_aload_n hx hb d_CS_upperOf_27 rfl (lv_at hl 3 rfl) ?_
      refine va_get (D := g.1) (ci := 0) (v := .ref (q 5)) (C := R_CS) (T := F_CS) (N := 6) hx hb ht i_CS hown hK hP 0 rfl rfl 3 (by decide) (ht _ k_104) (fun _ h9 => h9) rfl d_CS_upperOf_28 ?_
      refine lv_iload_n hx hb d_CS_upperOf_31 rfl (lv_at hl 1 rfl) ?_
      refine zcV (ci := 3) (q0 := 0) (As := [.int (iI c)]) (rest := []) ⟨hx, hb, hml, hown, ht⟩ v_CS_123 (c_CR_nextOf l g (q 5) (q 6) la NX c (by omega)) ⟨Nat.le_of_ble_eq_true rfl, Nat.le_of_ble_eq_true rfl⟩ ⟨Nat.zero_le _, Nat.zero_le _⟩ hK hZ hS (cw_rn hP) rfl rfl rfl rfl hl.1 rfl (Nat.le_of_ble_eq_true rfl) d_CS_upperOf_32 (fun r_32 h_32 => ?_)
      subst h_32
      have b_32 := nxF_bd hNX (c := c) (by omega)
      refine lv_istore_n (lv' := [(3, .int (iI (nxF NX c))), (4, .int (iI 1)), (2, .int (iI c)), (0, .ref (q 0)), (1, .int (iI c))]) hx hb d_CS_upperOf_35 rfl hl (by decide) rfl (fun ls hl => ?_)
      refine lv_iload_n hx hb d_CS_upperOf_36 rfl (lv_at hl 2 rfl) ?_
      refine lv_iload_n hx hb d_CS_upperOf_37 rfl (lv_at hl 4 rfl) ?_
      refine ix_icmp_eq (tgt := 46) hx hb d_CS_upperOf_38 (by decide) (by omega) (fun c_38 => ?_) (fun c_38 => ?_)
      · refine lv_iconst (v := iI 1) hx hb d_CS_upperOf_46 rfl ?_
        refine lv_goto (tgt := 51) hx hb d_CS_upperOf_47 (by decide) ?_
        refine lv_istore (lv' := [(5, .int (iI 1)), (3, .int (iI (nxF NX c))), (4, .int (iI 1)), (2, .int (iI c)), (0, .ref (q 0)), (1, .int (iI c))]) hx hb d_CS_upperOf_51 hl (by decide) rfl (fun ls hl => ?_)
        refine lv_iload hx hb d_CS_upperOf_53 (lv_at hl 0 rfl) ?_
        refine ix_if_eq (tgt := 73) hx hb d_CS_upperOf_55 (by decide) (by omega) (fun c_55 => ?_) (fun c_55 => ?_)
        · exact absurd c_55 (by decide)
        · refine lv_aload_n hx hb d_CS_upperOf_58 rfl (lv_at hl 4 rfl) ?_
          refine va_get (D := g.1) (ci := 0) (v := .ref (q 1)) (C := R_CS) (T := F_CS) (N := 6) hx hb ht i_CS hown hK hP 0 rfl rfl 2 (by decide) (ht _ k_103) (fun _ h9 => h9) rfl d_CS_upperOf_59 ?_
          refine lv_iload_n hx hb d_CS_upperOf_62 rfl (lv_at hl 1 rfl) ?_
          refine zcV (ci := 2) (q0 := 0) (As := [.int (iI (nxF NX c))]) (rest := []) ⟨hx, hb, hml, hown, ht⟩ v_CS_111 (c_TB_categoryOf l g (q 1) (q 2) (q 3) (q 4) (nxF NX c) (by omega)) ⟨Nat.le_of_ble_eq_true rfl, Nat.le_of_ble_eq_true rfl⟩ ⟨Nat.zero_le _, Nat.zero_le _⟩ hK hZ hS (cw_tb hP) rfl rfl rfl rfl hl.1 rfl (Nat.le_of_ble_eq_true rfl) d_CS_upperOf_63 (fun r_63 h_63 => ?_)
          obtain ⟨i63, hi63, j1_63, j2_63, rfl⟩ := h_63
          rw [cat_at hi63 j1_63 j2_63]
          have q_63 := catF_bd (nxF NX c) (by omega)
          refine lv_bipush (v := iI 6) hx hb d_CS_upperOf_66 (by decide) ?_
          refine ix_icmp_ne (tgt := 73) hx hb d_CS_upperOf_68 (by decide) (by omega) (fun c_68 => ?_) (fun c_68 => ?_)
          · refine lv_iinc (v := iI 2) (lv' := [(4, .int (iI 2)), (5, .int (iI 1)), (3, .int (iI (nxF NX c))), (2, .int (iI c)), (0, .ref (q 0)), (1, .int (iI c))]) hx hb d_CS_upperOf_73 hl (k := 2) rfl (iI_add _ _) (by decide) rfl (fun ls hl => ?_)
            refine lv_goto (tgt := 21) hx hb d_CS_upperOf_76 (by decide) ?_
            refine lv_iload hx hb d_CS_upperOf_21 (lv_at hl 0 rfl) ?_
            refine lv_iconst (v := iI 3) hx hb d_CS_upperOf_23 rfl ?_
            refine ix_icmp_ge (tgt := 79) hx hb d_CS_upperOf_24 (by decide) (by omega) (fun c_24 => ?_) (fun c_24 => ?_)
            · exact absurd c_24 (by decide)
            · refine lv_aload_n hx hb d_CS_upperOf_27 rfl (lv_at hl 4 rfl) ?_
              refine va_get (D := g.1) (ci := 0) (v := .ref (q 5)) (C := R_CS) (T := F_CS) (N := 6) hx hb ht i_CS hown hK hP 0 rfl rfl 3 (by decide) (ht _ k_104) (fun _ h9 => h9) rfl d_CS_upperOf_28 ?_
              refine lv_iload_n hx hb d_CS_upperOf_31 rfl (lv_at hl 2 rfl) ?_
              refine zcV (ci := 3) (q0 := 0) (As := [.int (iI (nxF NX c))]) (rest := []) ⟨hx, hb, hml, hown, ht⟩ v_CS_123 (c_CR_nextOf l g (q 5) (q 6) la NX (nxF NX c) (by omega)) ⟨Nat.le_of_ble_eq_true rfl, Nat.le_of_ble_eq_true rfl⟩ ⟨Nat.zero_le _, Nat.zero_le _⟩ hK hZ hS (cw_rn hP) rfl rfl rfl rfl hl.1 rfl (Nat.le_of_ble_eq_true rfl) d_CS_upperOf_32 (fun r_32 h_32 => ?_)
              subst h_32
              have b_32 := nxF_bd hNX (c := (nxF NX c)) (by omega)
              refine lv_istore_n (lv' := [(3, .int (iI (nxF NX (nxF NX c)))), (4, .int (iI 2)), (5, .int (iI 1)), (2, .int (iI c)), (0, .ref (q 0)), (1, .int (iI c))]) hx hb d_CS_upperOf_35 rfl hl (by decide) rfl (fun ls hl => ?_)
              refine lv_iload_n hx hb d_CS_upperOf_36 rfl (lv_at hl 3 rfl) ?_
              refine lv_iload_n hx hb d_CS_upperOf_37 rfl (lv_at hl 5 rfl) ?_
              refine ix_icmp_eq (tgt := 46) hx hb d_CS_upperOf_38 (by decide) (by omega) (fun c_38 => ?_) (fun c_38 => ?_)
              · refine lv_iconst (v := iI 1) hx hb d_CS_upperOf_46 rfl ?_
                refine lv_goto (tgt := 51) hx hb d_CS_upperOf_47 (by decide) ?_
                refine lv_istore (lv' := [(5, .int (iI 1)), (3, .int (iI (nxF NX (nxF NX c)))), (4, .int (iI 2)), (2, .int (iI c)), (0, .ref (q 0)), (1, .int (iI c))]) hx hb d_CS_upperOf_51 hl (by decide) rfl (fun ls hl => ?_)
                refine lv_iload hx hb d_CS_upperOf_53 (lv_at hl 0 rfl) ?_
                refine ix_if_eq (tgt := 73) hx hb d_CS_upperOf_55 (by decide) (by omega) (fun c_55 => ?_) (fun c_55 => ?_)
                · exact absurd c_55 (by decide)
                · refine lv_aload_n hx hb d_CS_upperOf_58 rfl (lv_at hl 4 rfl) ?_
                  refine va_get (D := g.1) (ci := 0) (v := .ref (q 1)) (C := R_CS) (T := F_CS) (N := 6) hx hb ht i_CS hown hK hP 0 rfl rfl 2 (by decide) (ht _ k_103) (fun _ h9 => h9) rfl d_CS_upperOf_59 ?_
                  refine lv_iload_n hx hb d_CS_upperOf_62 rfl (lv_at hl 1 rfl) ?_
                  refine zcV (ci := 2) (q0 := 0) (As := [.int (iI (nxF NX (nxF NX c)))]) (rest := []) ⟨hx, hb, hml, hown, ht⟩ v_CS_111 (c_TB_categoryOf l g (q 1) (q 2) (q 3) (q 4) (nxF NX (nxF NX c)) (by omega)) ⟨Nat.le_of_ble_eq_true rfl, Nat.le_of_ble_eq_true rfl⟩ ⟨Nat.zero_le _, Nat.zero_le _⟩ hK hZ hS (cw_tb hP) rfl rfl rfl rfl hl.1 rfl (Nat.le_of_ble_eq_true rfl) d_CS_upperOf_63 (fun r_63 h_63 => ?_)
                  obtain ⟨i63, hi63, j1_63, j2_63, rfl⟩ := h_63
                  rw [cat_at hi63 j1_63 j2_63]
                  have q_63 := catF_bd (nxF NX (nxF NX c)) (by omega)
                  refine lv_bipush (v := iI 6) hx hb d_CS_upperOf_66 (by decide) ?_
                  refine ix_icmp_ne (tgt := 73) hx hb d_CS_upperOf_68 (by decide) (by omega) (fun c_68 => ?_) (fun c_68 => ?_)
                  · refine lv_iinc (v := iI 3) (lv' := [(4, .int (iI 3)), (5, .int (iI 1)), (3, .int (iI (nxF NX (nxF NX c)))), (2, .int (iI c)), (0, .ref (q 0)), (1, .int (iI c))]) hx hb d_CS_upperOf_73 hl (k := 2) rfl (iI_add _ _) (by decide) rfl (fun ls hl => ?_)
                    refine lv_goto (tgt := 21) hx hb d_CS_upperOf_76 (by decide) ?_
                    refine lv_iload hx hb d_CS_upperOf_21 (lv_at hl 0 rfl) ?_
                    refine lv_iconst (v := iI 3) hx hb d_CS_upperOf_23 rfl ?_
                    refine ix_icmp_ge (tgt := 79) hx hb d_CS_upperOf_24 (by decide) (by omega) (fun c_24 => ?_) (fun c_24 => ?_)
                    · refine lv_iload_n hx hb d_CS_upperOf_79 rfl (lv_at hl 3 rfl) ?_
                      subst hQ
                      exact W.iret (v := iI c) hx hb hr (fun t h9 hW => ⟨_, rfl, by first | (exfalso; omega) | exact congrArg iI (by unfold upC uq; dsimp only; repeat (first | rw [if_pos (by omega)] | rw [if_neg (by omega)])), h9⟩) (fun _ h9 => by cases h9) d_CS_upperOf_80
                    · exact absurd c_24 (by decide)
                  · refine lv_iload_n hx hb d_CS_upperOf_71 rfl (lv_at hl 1 rfl) ?_
                    refine lv_istore_n (lv' := [(2, .int (iI (nxF NX (nxF NX c)))), (5, .int (iI 1)), (3, .int (iI (nxF NX (nxF NX c)))), (4, .int (iI 2)), (0, .ref (q 0)), (1, .int (iI c))]) hx hb d_CS_upperOf_72 rfl hl (by decide) rfl (fun ls hl => ?_)
                    refine lv_iinc (v := iI 3) (lv' := [(4, .int (iI 3)), (2, .int (iI (nxF NX (nxF NX c)))), (5, .int (iI 1)), (3, .int (iI (nxF NX (nxF NX c)))), (0, .ref (q 0)), (1, .int (iI c))]) hx hb d_CS_upperOf_73 hl (k := 3) rfl (iI_add _ _) (by decide) rfl (fun ls hl => ?_)
                    refine lv_goto (tgt := 21) hx hb d_CS_upperOf_76 (by decide) ?_
                    refine lv_iload hx hb d_CS_upperOf_21 (lv_at hl 0 rfl) ?_
                    refine lv_iconst (v := iI 3) hx hb d_CS_upperOf_23 rfl ?_
                    refine ix_icmp_ge (tgt := 79) hx hb d_CS_upperOf_24 (by decide) (by omega) (fun c_24 => ?_) (fun c_24 => ?_)
                    · refine lv_iload_n hx hb d_CS_upperOf_79 rfl (lv_at hl 1 rfl) ?_
                      subst hQ
                      exact W.iret (v := iI (nxF NX (nxF NX c))) hx hb hr (fun t h9 hW => ⟨_, rfl, by first | (exfalso; omega) | exact congrArg iI (by unfold upC uq; dsimp only; repeat (first | rw [if_pos (by omega)] | rw [if_neg (by omega)])), h9⟩) (fun _ h9 => by cases h9) d_CS_upperOf_80
                    · exact absurd c_24 (by decide)
              · refine lv_iload_n hx hb d_CS_upperOf_41 rfl (lv_at hl 0 rfl) ?_
                refine lv_iload_n hx hb d_CS_upperOf_42 rfl (lv_at hl 3 rfl) ?_
                refine ix_icmp_ge (tgt := 50) hx hb d_CS_upperOf_43 (by decide) (by omega) (fun c_43 => ?_) (fun c_43 => ?_)
                · refine lv_iconst (v := iI 0) hx hb d_CS_upperOf_50 rfl ?_
                  refine lv_istore (lv' := [(5, .int (iI 0)), (3, .int (iI (nxF NX (nxF NX c)))), (4, .int (iI 2)), (2, .int (iI c)), (0, .ref (q 0)), (1, .int (iI c))]) hx hb d_CS_upperOf_51 hl (by decide) rfl (fun ls hl => ?_)
                  refine lv_iload hx hb d_CS_upperOf_53 (lv_at hl 0 rfl) ?_
                  refine ix_if_eq (tgt := 73) hx hb d_CS_upperOf_55 (by decide) (by omega) (fun c_55 => ?_) (fun c_55 => ?_)
                  · refine lv_iinc (v := iI 3) (lv' := [(4, .int (iI 3)), (5, .int (iI 0)), (3, .int (iI (nxF NX (nxF NX c)))), (2, .int (iI c)), (0, .ref (q 0)), (1, .int (iI c))]) hx hb d_CS_upperOf_73 hl (k := 2) rfl (iI_add _ _) (by decide) rfl (fun ls hl => ?_)
                    refine lv_goto (tgt := 21) hx hb d_CS_upperOf_76 (by decide) ?_
                    refine lv_iload hx hb d_CS_upperOf_21 (lv_at hl 0 rfl) ?_
                    refine lv_iconst (v := iI 3) hx hb d_CS_upperOf_23 rfl ?_
                    refine ix_icmp_ge (tgt := 79) hx hb d_CS_upperOf_24 (by decide) (by omega) (fun c_24 => ?_) (fun c_24 => ?_)
                    · refine lv_iload_n hx hb d_CS_upperOf_79 rfl (lv_at hl 3 rfl) ?_
                      subst hQ
                      exact W.iret (v := iI c) hx hb hr (fun t h9 hW => ⟨_, rfl, by first | (exfalso; omega) | exact congrArg iI (by unfold upC uq; dsimp only; repeat (first | rw [if_pos (by omega)] | rw [if_neg (by omega)])), h9⟩) (fun _ h9 => by cases h9) d_CS_upperOf_80
                    · exact absurd c_24 (by decide)
                  · exact absurd c_55 (by decide)
                · refine lv_iconst (v := iI 1) hx hb d_CS_upperOf_46 rfl ?_
                  refine lv_goto (tgt := 51) hx hb d_CS_upperOf_47 (by decide) ?_
                  refine lv_istore (lv' := [(5, .int (iI 1)), (3, .int (iI (nxF NX (nxF NX c)))), (4, .int (iI 2)), (2, .int (iI c)), (0, .ref (q 0)), (1, .int (iI c))]) hx hb d_CS_upperOf_51 hl (by decide) rfl (fun ls hl => ?_)
                  refine lv_iload hx hb d_CS_upperOf_53 (lv_at hl 0 rfl) ?_
                  refine ix_if_eq (tgt := 73) hx hb d_CS_upperOf_55 (by decide) (by omega) (fun c_55 => ?_) (fun c_55 => ?_)
                  · exact absurd c_55 (by decide)
                  · refine lv_aload_n hx hb d_CS_upperOf_58 rfl (lv_at hl 4 rfl) ?_
                    refine va_get (D := g.1) (ci := 0) (v := .ref (q 1)) (C := R_CS) (T := F_CS) (N := 6) hx hb ht i_CS hown hK hP 0 rfl rfl 2 (by decide) (ht _ k_103) (fun _ h9 => h9) rfl d_CS_upperOf_59 ?_
                    refine lv_iload_n hx hb d_CS_upperOf_62 rfl (lv_at hl 1 rfl) ?_
                    refine zcV (ci := 2) (q0 := 0) (As := [.int (iI (nxF NX (nxF NX c)))]) (rest := []) ⟨hx, hb, hml, hown, ht⟩ v_CS_111 (c_TB_categoryOf l g (q 1) (q 2) (q 3) (q 4) (nxF NX (nxF NX c)) (by omega)) ⟨Nat.le_of_ble_eq_true rfl, Nat.le_of_ble_eq_true rfl⟩ ⟨Nat.zero_le _, Nat.zero_le _⟩ hK hZ hS (cw_tb hP) rfl rfl rfl rfl hl.1 rfl (Nat.le_of_ble_eq_true rfl) d_CS_upperOf_63 (fun r_63 h_63 => ?_)
                    obtain ⟨i63, hi63, j1_63, j2_63, rfl⟩ := h_63
                    rw [cat_at hi63 j1_63 j2_63]
                    have q_63 := catF_bd (nxF NX (nxF NX c)) (by omega)
                    refine lv_bipush (v := iI 6) hx hb d_CS_upperOf_66 (by decide) ?_
                    refine ix_icmp_ne (tgt := 73) hx hb d_CS_upperOf_68 (by decide) (by omega) (fun c_68 => ?_) (fun c_68 => ?_)
                    · refine lv_iinc (v := iI 3) (lv' := [(4, .int (iI 3)), (5, .int (iI 1)), (3, .int (iI (nxF NX (nxF NX c)))), (2, .int (iI c)), (0, .ref (q 0)), (1, .int (iI c))]) hx hb d_CS_upperOf_73 hl (k := 2) rfl (iI_add _ _) (by decide) rfl (fun ls hl => ?_)
                      refine lv_goto (tgt := 21) hx hb d_CS_upperOf_76 (by decide) ?_
                      refine lv_iload hx hb d_CS_upperOf_21 (lv_at hl 0 rfl) ?_
                      refine lv_iconst (v := iI 3) hx hb d_CS_upperOf_23 rfl ?_
                      refine ix_icmp_ge (tgt := 79) hx hb d_CS_upperOf_24 (by decide) (by omega) (fun c_24 => ?_) (fun c_24 => ?_)
                      · refine lv_iload_n hx hb d_CS_upperOf_79 rfl (lv_at hl 3 rfl) ?_
                        subst hQ
                        exact W.iret (v := iI c) hx hb hr (fun t h9 hW => ⟨_, rfl, by first | (exfalso; omega) | exact congrArg iI (by unfold upC uq; dsimp only; repeat (first | rw [if_pos (by omega)] | rw [if_neg (by omega)])), h9⟩) (fun _ h9 => by cases h9) d_CS_upperOf_80
                      · exact absurd c_24 (by decide)
                    · refine lv_iload_n hx hb d_CS_upperOf_71 rfl (lv_at hl 1 rfl) ?_
                      refine lv_istore_n (lv' := [(2, .int (iI (nxF NX (nxF NX c)))), (5, .int (iI 1)), (3, .int (iI (nxF NX (nxF NX c)))), (4, .int (iI 2)), (0, .ref (q 0)), (1, .int (iI c))]) hx hb d_CS_upperOf_72 rfl hl (by decide) rfl (fun ls hl => ?_)
                      refine lv_iinc (v := iI 3) (lv' := [(4, .int (iI 3)), (2, .int (iI (nxF NX (nxF NX c)))), (5, .int (iI 1)), (3, .int (iI (nxF NX (nxF NX c)))), (0, .ref (q 0)), (1, .int (iI c))]) hx hb d_CS_upperOf_73 hl (k := 3) rfl (iI_add _ _) (by decide) rfl (fun ls hl => ?_)
                      refine lv_goto (tgt := 21) hx hb d_CS_upperOf_76 (by decide) ?_
                      refine lv_iload hx hb d_CS_upperOf_21 (lv_at hl 0 rfl) ?_
                      refine lv_iconst (v := iI 3) hx hb d_CS_upperOf_23 rfl ?_
                      refine ix_icmp_ge (tgt := 79) hx hb d_CS_upperOf_24 (by decide) (by omega) (fun c_24 => ?_) (fun c_24 => ?_)
                      · refine lv_iload_n hx hb d_CS_upperOf_79 rfl (lv_at hl 1 rfl) ?_
                        subst hQ
                        exact W.iret (v := iI (nxF NX (nxF NX c))) hx hb hr (fun t h9 hW => ⟨_, rfl, by first | (exfalso; omega) | exact congrArg iI (by unfold upC uq; dsimp only; repeat (first | rw [if_pos (by omega)] | rw [if_neg (by omega)])), h9⟩) (fun _ h9 => by cases h9) d_CS_upperOf_80
                      · exact absurd c_24 (by decide)
          · refine lv_iload_n hx hb d_CS_upperOf_71 rfl (lv_at hl 1 rfl) ?_
            refine lv_istore_n (lv' := [(2, .int (iI (nxF NX c))), (5, .int (iI 1)), (3, .int (iI (nxF NX c))), (4, .int (iI 1)), (0, .ref (q 0)), (1, .int (iI c))]) hx hb d_CS_upperOf_72 rfl hl (by decide) rfl (fun ls hl => ?_)
            refine lv_iinc (v := iI 2) (lv' := [(4, .int (iI 2)), (2, .int (iI (nxF NX c))), (5, .int (iI 1)), (3, .int (iI (nxF NX c))), (0, .ref (q 0)), (1, .int (iI c))]) hx hb d_CS_upperOf_73 hl (k := 3) rfl (iI_add _ _) (by decide) rfl (fun ls hl => ?_)
            refine lv_goto (tgt := 21) hx hb d_CS_upperOf_76 (by decide) ?_
            refine lv_iload hx hb d_CS_upperOf_21 (lv_at hl 0 rfl) ?_
            refine lv_iconst (v := iI 3) hx hb d_CS_upperOf_23 rfl ?_
            refine ix_icmp_ge (tgt := 79) hx hb d_CS_upperOf_24 (by decide) (by omega) (fun c_24 => ?_) (fun c_24 => ?_)
            · exact absurd c_24 (by decide)
            · refine lv_aload_n hx hb d_CS_upperOf_27 rfl (lv_at hl 4 rfl) ?_
              refine va_get (D := g.1) (ci := 0) (v := .ref (q 5)) (C := R_CS) (T := F_CS) (N := 6) hx hb ht i_CS hown hK hP 0 rfl rfl 3 (by decide) (ht _ k_104) (fun _ h9 => h9) rfl d_CS_upperOf_28 ?_
              refine lv_iload_n hx hb d_CS_upperOf_31 rfl (lv_at hl 3 rfl) ?_
              refine zcV (ci := 3) (q0 := 0) (As := [.int (iI (nxF NX c))]) (rest := []) ⟨hx, hb, hml, hown, ht⟩ v_CS_123 (c_CR_nextOf l g (q 5) (q 6) la NX (nxF NX c) (by omega)) ⟨Nat.le_of_ble_eq_true rfl, Nat.le_of_ble_eq_true rfl⟩ ⟨Nat.zero_le _, Nat.zero_le _⟩ hK hZ hS (cw_rn hP) rfl rfl rfl rfl hl.1 rfl (Nat.le_of_ble_eq_true rfl) d_CS_upperOf_32 (fun r_32 h_32 => ?_)
              subst h_32
              have b_32 := nxF_bd hNX (c := (nxF NX c)) (by omega)
              refine lv_istore_n (lv' := [(3, .int (iI (nxF NX (nxF NX c)))), (4, .int (iI 2)), (2, .int (iI (nxF NX c))), (5, .int (iI 1)), (0, .ref (q 0)), (1, .int (iI c))]) hx hb d_CS_upperOf_35 rfl hl (by decide) rfl (fun ls hl => ?_)
              refine lv_iload_n hx hb d_CS_upperOf_36 rfl (lv_at hl 2 rfl) ?_
              refine lv_iload_n hx hb d_CS_upperOf_37 rfl (lv_at hl 5 rfl) ?_
              refine ix_icmp_eq (tgt := 46) hx hb d_CS_upperOf_38 (by decide) (by omega) (fun c_38 => ?_) (fun c_38 => ?_)
              · refine lv_iconst (v := iI 1) hx hb d_CS_upperOf_46 rfl ?_
                refine lv_goto (tgt := 51) hx hb d_CS_upperOf_47 (by decide) ?_
                refine lv_istore (lv' := [(5, .int (iI 1)), (3, .int (iI (nxF NX (nxF NX c)))), (4, .int (iI 2)), (2, .int (iI (nxF NX c))), (0, .ref (q 0)), (1, .int (iI c))]) hx hb d_CS_upperOf_51 hl (by decide) rfl (fun ls hl => ?_)
                refine lv_iload hx hb d_CS_upperOf_53 (lv_at hl 0 rfl) ?_
                refine ix_if_eq (tgt := 73) hx hb d_CS_upperOf_55 (by decide) (by omega) (fun c_55 => ?_) (fun c_55 => ?_)
                · exact absurd c_55 (by decide)
                · refine lv_aload_n hx hb d_CS_upperOf_58 rfl (lv_at hl 4 rfl) ?_
                  refine va_get (D := g.1) (ci := 0) (v := .ref (q 1)) (C := R_CS) (T := F_CS) (N := 6) hx hb ht i_CS hown hK hP 0 rfl rfl 2 (by decide) (ht _ k_103) (fun _ h9 => h9) rfl d_CS_upperOf_59 ?_
                  refine lv_iload_n hx hb d_CS_upperOf_62 rfl (lv_at hl 1 rfl) ?_
                  refine zcV (ci := 2) (q0 := 0) (As := [.int (iI (nxF NX (nxF NX c)))]) (rest := []) ⟨hx, hb, hml, hown, ht⟩ v_CS_111 (c_TB_categoryOf l g (q 1) (q 2) (q 3) (q 4) (nxF NX (nxF NX c)) (by omega)) ⟨Nat.le_of_ble_eq_true rfl, Nat.le_of_ble_eq_true rfl⟩ ⟨Nat.zero_le _, Nat.zero_le _⟩ hK hZ hS (cw_tb hP) rfl rfl rfl rfl hl.1 rfl (Nat.le_of_ble_eq_true rfl) d_CS_upperOf_63 (fun r_63 h_63 => ?_)
                  obtain ⟨i63, hi63, j1_63, j2_63, rfl⟩ := h_63
                  rw [cat_at hi63 j1_63 j2_63]
                  have q_63 := catF_bd (nxF NX (nxF NX c)) (by omega)
                  refine lv_bipush (v := iI 6) hx hb d_CS_upperOf_66 (by decide) ?_
                  refine ix_icmp_ne (tgt := 73) hx hb d_CS_upperOf_68 (by decide) (by omega) (fun c_68 => ?_) (fun c_68 => ?_)
                  · refine lv_iinc (v := iI 3) (lv' := [(4, .int (iI 3)), (5, .int (iI 1)), (3, .int (iI (nxF NX (nxF NX c)))), (2, .int (iI (nxF NX c))), (0, .ref (q 0)), (1, .int (iI c))]) hx hb d_CS_upperOf_73 hl (k := 2) rfl (iI_add _ _) (by decide) rfl (fun ls hl => ?_)
                    refine lv_goto (tgt := 21) hx hb d_CS_upperOf_76 (by decide) ?_
                    refine lv_iload hx hb d_CS_upperOf_21 (lv_at hl 0 rfl) ?_
                    refine lv_iconst (v := iI 3) hx hb d_CS_upperOf_23 rfl ?_
                    refine ix_icmp_ge (tgt := 79) hx hb d_CS_upperOf_24 (by decide) (by omega) (fun c_24 => ?_) (fun c_24 => ?_)
                    · refine lv_iload_n hx hb d_CS_upperOf_79 rfl (lv_at hl 3 rfl) ?_
                      subst hQ
                      exact W.iret (v := iI (nxF NX c)) hx hb hr (fun t h9 hW => ⟨_, rfl, by first | (exfalso; omega) | exact congrArg iI (by unfold upC uq; dsimp only; repeat (first | rw [if_pos (by omega)] | rw [if_neg (by omega)])), h9⟩) (fun _ h9 => by cases h9) d_CS_upperOf_80
                    · exact absurd c_24 (by decide)
                  · refine lv_iload_n hx hb d_CS_upperOf_71 rfl (lv_at hl 1 rfl) ?_
                    refine lv_istore_n (lv' := [(2, .int (iI (nxF NX (nxF NX c)))), (5, .int (iI 1)), (3, .int (iI (nxF NX (nxF NX c)))), (4, .int (iI 2)), (0, .ref (q 0)), (1, .int (iI c))]) hx hb d_CS_upperOf_72 rfl hl (by decide) rfl (fun ls hl => ?_)
                    refine lv_iinc (v := iI 3) (lv' := [(4, .int (iI 3)), (2, .int (iI (nxF NX (nxF NX c)))), (5, .int (iI 1)), (3, .int (iI (nxF NX (nxF NX c)))), (0, .ref (q 0)), (1, .int (iI c))]) hx hb d_CS_upperOf_73 hl (k := 3) rfl (iI_add _ _) (by decide) rfl (fun ls hl => ?_)
                    refine lv_goto (tgt := 21) hx hb d_CS_upperOf_76 (by decide) ?_
                    refine lv_iload hx hb d_CS_upperOf_21 (lv_at hl 0 rfl) ?_
                    refine lv_iconst (v := iI 3) hx hb d_CS_upperOf_23 rfl ?_
                    refine ix_icmp_ge (tgt := 79) hx hb d_CS_upperOf_24 (by decide) (by omega) (fun c_24 => ?_) (fun c_24 => ?_)
                    · refine lv_iload_n hx hb d_CS_upperOf_79 rfl (lv_at hl 1 rfl) ?_
                      subst hQ
                      exact W.iret (v := iI (nxF NX (nxF NX c))) hx hb hr (fun t h9 hW => ⟨_, rfl, by first | (exfalso; omega) | exact congrArg iI (by unfold upC uq; dsimp only; repeat (first | rw [if_pos (by omega)] | rw [if_neg (by omega)])), h9⟩) (fun _ h9 => by cases h9) d_CS_upperOf_80
                    · exact absurd c_24 (by decide)
              · refine lv_iload_n hx hb d_CS_upperOf_41 rfl (lv_at hl 0 rfl) ?_
                refine lv_iload_n hx hb d_CS_upperOf_42 rfl (lv_at hl 2 rfl) ?_
                refine ix_icmp_ge (tgt := 50) hx hb d_CS_upperOf_43 (by decide) (by omega) (fun c_43 => ?_) (fun c_43 => ?_)
                · refine lv_iconst (v := iI 0) hx hb d_CS_upperOf_50 rfl ?_
                  refine lv_istore (lv' := [(5, .int (iI 0)), (3, .int (iI (nxF NX (nxF NX c)))), (4, .int (iI 2)), (2, .int (iI (nxF NX c))), (0, .ref (q 0)), (1, .int (iI c))]) hx hb d_CS_upperOf_51 hl (by decide) rfl (fun ls hl => ?_)
                  refine lv_iload hx hb d_CS_upperOf_53 (lv_at hl 0 rfl) ?_
                  refine ix_if_eq (tgt := 73) hx hb d_CS_upperOf_55 (by decide) (by omega) (fun c_55 => ?_) (fun c_55 => ?_)
                  · refine lv_iinc (v := iI 3) (lv' := [(4, .int (iI 3)), (5, .int (iI 0)), (3, .int (iI (nxF NX (nxF NX c)))), (2, .int (iI (nxF NX c))), (0, .ref (q 0)), (1, .int (iI c))]) hx hb d_CS_upperOf_73 hl (k := 2) rfl (iI_add _ _) (by decide) rfl (fun ls hl => ?_)
                    refine lv_goto (tgt := 21) hx hb d_CS_upperOf_76 (by decide) ?_
                    refine lv_iload hx hb d_CS_upperOf_21 (lv_at hl 0 rfl) ?_
                    refine lv_iconst (v := iI 3) hx hb d_CS_upperOf_23 rfl ?_
                    refine ix_icmp_ge (tgt := 79) hx hb d_CS_upperOf_24 (by decide) (by omega) (fun c_24 => ?_) (fun c_24 => ?_)
                    · refine lv_iload_n hx hb d_CS_upperOf_79 rfl (lv_at hl 3 rfl) ?_
                      subst hQ
                      exact W.iret (v := iI (nxF NX c)) hx hb hr (fun t h9 hW => ⟨_, rfl, by first | (exfalso; omega) | exact congrArg iI (by unfold upC uq; dsimp only; repeat (first | rw [if_pos (by omega)] | rw [if_neg (by omega)])), h9⟩) (fun _ h9 => by cases h9) d_CS_upperOf_80
                    · exact absurd c_24 (by decide)
                  · exact absurd c_55 (by decide)
                · refine lv_iconst (v := iI 1) hx hb d_CS_upperOf_46 rfl ?_
                  refine lv_goto (tgt := 51) hx hb d_CS_upperOf_47 (by decide) ?_
                  refine lv_istore (lv' := [(5, .int (iI 1)), (3, .int (iI (nxF NX (nxF NX c)))), (4, .int (iI 2)), (2, .int (iI (nxF NX c))), (0, .ref (q 0)), (1, .int (iI c))]) hx hb d_CS_upperOf_51 hl (by decide) rfl (fun ls hl => ?_)
                  refine lv_iload hx hb d_CS_upperOf_53 (lv_at hl 0 rfl) ?_
                  refine ix_if_eq (tgt := 73) hx hb d_CS_upperOf_55 (by decide) (by omega) (fun c_55 => ?_) (fun c_55 => ?_)
                  · exact absurd c_55 (by decide)
                  · refine lv_aload_n hx hb d_CS_upperOf_58 rfl (lv_at hl 4 rfl) ?_
                    refine va_get (D := g.1) (ci := 0) (v := .ref (q 1)) (C := R_CS) (T := F_CS) (N := 6) hx hb ht i_CS hown hK hP 0 rfl rfl 2 (by decide) (ht _ k_103) (fun _ h9 => h9) rfl d_CS_upperOf_59 ?_
                    refine lv_iload_n hx hb d_CS_upperOf_62 rfl (lv_at hl 1 rfl) ?_
                    refine zcV (ci := 2) (q0 := 0) (As := [.int (iI (nxF NX (nxF NX c)))]) (rest := []) ⟨hx, hb, hml, hown, ht⟩ v_CS_111 (c_TB_categoryOf l g (q 1) (q 2) (q 3) (q 4) (nxF NX (nxF NX c)) (by omega)) ⟨Nat.le_of_ble_eq_true rfl, Nat.le_of_ble_eq_true rfl⟩ ⟨Nat.zero_le _, Nat.zero_le _⟩ hK hZ hS (cw_tb hP) rfl rfl rfl rfl hl.1 rfl (Nat.le_of_ble_eq_true rfl) d_CS_upperOf_63 (fun r_63 h_63 => ?_)
                    obtain ⟨i63, hi63, j1_63, j2_63, rfl⟩ := h_63
                    rw [cat_at hi63 j1_63 j2_63]
                    have q_63 := catF_bd (nxF NX (nxF NX c)) (by omega)
                    refine lv_bipush (v := iI 6) hx hb d_CS_upperOf_66 (by decide) ?_
                    refine ix_icmp_ne (tgt := 73) hx hb d_CS_upperOf_68 (by decide) (by omega) (fun c_68 => ?_) (fun c_68 => ?_)
                    · refine lv_iinc (v := iI 3) (lv' := [(4, .int (iI 3)), (5, .int (iI 1)), (3, .int (iI (nxF NX (nxF NX c)))), (2, .int (iI (nxF NX c))), (0, .ref (q 0)), (1, .int (iI c))]) hx hb d_CS_upperOf_73 hl (k := 2) rfl (iI_add _ _) (by decide) rfl (fun ls hl => ?_)
                      refine lv_goto (tgt := 21) hx hb d_CS_upperOf_76 (by decide) ?_
                      refine lv_iload hx hb d_CS_upperOf_21 (lv_at hl 0 rfl) ?_
                      refine lv_iconst (v := iI 3) hx hb d_CS_upperOf_23 rfl ?_
                      refine ix_icmp_ge (tgt := 79) hx hb d_CS_upperOf_24 (by decide) (by omega) (fun c_24 => ?_) (fun c_24 => ?_)
                      · refine lv_iload_n hx hb d_CS_upperOf_79 rfl (lv_at hl 3 rfl) ?_
                        subst hQ
                        exact W.iret (v := iI (nxF NX c)) hx hb hr (fun t h9 hW => ⟨_, rfl, by first | (exfalso; omega) | exact congrArg iI (by unfold upC uq; dsimp only; repeat (first | rw [if_pos (by omega)] | rw [if_neg (by omega)])), h9⟩) (fun _ h9 => by cases h9) d_CS_upperOf_80
                      · exact absurd c_24 (by decide)
                    · refine lv_iload_n hx hb d_CS_upperOf_71 rfl (lv_at hl 1 rfl) ?_
                      refine lv_istore_n (lv' := [(2, .int (iI (nxF NX (nxF NX c)))), (5, .int (iI 1)), (3, .int (iI (nxF NX (nxF NX c)))), (4, .int (iI 2)), (0, .ref (q 0)), (1, .int (iI c))]) hx hb d_CS_upperOf_72 rfl hl (by decide) rfl (fun ls hl => ?_)
                      refine lv_iinc (v := iI 3) (lv' := [(4, .int (iI 3)), (2, .int (iI (nxF NX (nxF NX c)))), (5, .int (iI 1)), (3, .int (iI (nxF NX (nxF NX c)))), (0, .ref (q 0)), (1, .int (iI c))]) hx hb d_CS_upperOf_73 hl (k := 3) rfl (iI_add _ _) (by decide) rfl (fun ls hl => ?_)
                      refine lv_goto (tgt := 21) hx hb d_CS_upperOf_76 (by decide) ?_
                      refine lv_iload hx hb d_CS_upperOf_21 (lv_at hl 0 rfl) ?_
                      refine lv_iconst (v := iI 3) hx hb d_CS_upperOf_23 rfl ?_
                      refine ix_icmp_ge (tgt := 79) hx hb d_CS_upperOf_24 (by decide) (by omega) (fun c_24 => ?_) (fun c_24 => ?_)
                      · refine lv_iload_n hx hb d_CS_upperOf_79 rfl (lv_at hl 1 rfl) ?_
                        subst hQ
                        exact W.iret (v := iI (nxF NX (nxF NX c))) hx hb hr (fun t h9 hW => ⟨_, rfl, by first | (exfalso; omega) | exact congrArg iI (by unfold upC uq; dsimp only; repeat (first | rw [if_pos (by omega)] | rw [if_neg (by omega)])), h9⟩) (fun _ h9 => by cases h9) d_CS_upperOf_80
                      · exact absurd c_24 (by decide)
      · refine lv_iload_n hx hb d_CS_upperOf_41 rfl (lv_at hl 0 rfl) ?_
        refine lv_iload_n hx hb d_CS_upperOf_42 rfl (lv_at hl 2 rfl) ?_
        refine ix_icmp_ge (tgt := 50) hx hb d_CS_upperOf_43 (by decide) (by omega) (fun c_43 => ?_) (fun c_43 => ?_)
        · refine lv_iconst (v := iI 0) hx hb d_CS_upperOf_50 rfl ?_
          refine lv_istore (lv' := [(5, .int (iI 0)), (3, .int (iI (nxF NX c))), (4, .int (iI 1)), (2, .int (iI c)), (0, .ref (q 0)), (1, .int (iI c))]) hx hb d_CS_upperOf_51 hl (by decide) rfl (fun ls hl => ?_)
          refine lv_iload hx hb d_CS_upperOf_53 (lv_at hl 0 rfl) ?_
          refine ix_if_eq (tgt := 73) hx hb d_CS_upperOf_55 (by decide) (by omega) (fun c_55 => ?_) (fun c_55 => ?_)
          · refine lv_iinc (v := iI 2) (lv' := [(4, .int (iI 2)), (5, .int (iI 0)), (3, .int (iI (nxF NX c))), (2, .int (iI c)), (0, .ref (q 0)), (1, .int (iI c))]) hx hb d_CS_upperOf_73 hl (k := 2) rfl (iI_add _ _) (by decide) rfl (fun ls hl => ?_)
            refine lv_goto (tgt := 21) hx hb d_CS_upperOf_76 (by decide) ?_
            refine lv_iload hx hb d_CS_upperOf_21 (lv_at hl 0 rfl) ?_
            refine lv_iconst (v := iI 3) hx hb d_CS_upperOf_23 rfl ?_
            refine ix_icmp_ge (tgt := 79) hx hb d_CS_upperOf_24 (by decide) (by omega) (fun c_24 => ?_) (fun c_24 => ?_)
            · exact absurd c_24 (by decide)
            · refine lv_aload_n hx hb d_CS_upperOf_27 rfl (lv_at hl 4 rfl) ?_
              refine va_get (D := g.1) (ci := 0) (v := .ref (q 5)) (C := R_CS) (T := F_CS) (N := 6) hx hb ht i_CS hown hK hP 0 rfl rfl 3 (by decide) (ht _ k_104) (fun _ h9 => h9) rfl d_CS_upperOf_28 ?_
              refine lv_iload_n hx hb d_CS_upperOf_31 rfl (lv_at hl 2 rfl) ?_
              refine zcV (ci := 3) (q0 := 0) (As := [.int (iI (nxF NX c))]) (rest := []) ⟨hx, hb, hml, hown, ht⟩ v_CS_123 (c_CR_nextOf l g (q 5) (q 6) la NX (nxF NX c) (by omega)) ⟨Nat.le_of_ble_eq_true rfl, Nat.le_of_ble_eq_true rfl⟩ ⟨Nat.zero_le _, Nat.zero_le _⟩ hK hZ hS (cw_rn hP) rfl rfl rfl rfl hl.1 rfl (Nat.le_of_ble_eq_true rfl) d_CS_upperOf_32 (fun r_32 h_32 => ?_)
              subst h_32
              have b_32 := nxF_bd hNX (c := (nxF NX c)) (by omega)
              refine lv_istore_n (lv' := [(3, .int (iI (nxF NX (nxF NX c)))), (4, .int (iI 2)), (5, .int (iI 0)), (2, .int (iI c)), (0, .ref (q 0)), (1, .int (iI c))]) hx hb d_CS_upperOf_35 rfl hl (by decide) rfl (fun ls hl => ?_)
              refine lv_iload_n hx hb d_CS_upperOf_36 rfl (lv_at hl 3 rfl) ?_
              refine lv_iload_n hx hb d_CS_upperOf_37 rfl (lv_at hl 5 rfl) ?_
              refine ix_icmp_eq (tgt := 46) hx hb d_CS_upperOf_38 (by decide) (by omega) (fun c_38 => ?_) (fun c_38 => ?_)
              · refine lv_iconst (v := iI 1) hx hb d_CS_upperOf_46 rfl ?_
                refine lv_goto (tgt := 51) hx hb d_CS_upperOf_47 (by decide) ?_
                refine lv_istore (lv' := [(5, .int (iI 1)), (3, .int (iI (nxF NX (nxF NX c)))), (4, .int (iI 2)), (2, .int (iI c)), (0, .ref (q 0)), (1, .int (iI c))]) hx hb d_CS_upperOf_51 hl (by decide) rfl (fun ls hl => ?_)
                refine lv_iload hx hb d_CS_upperOf_53 (lv_at hl 0 rfl) ?_
                refine ix_if_eq (tgt := 73) hx hb d_CS_upperOf_55 (by decide) (by omega) (fun c_55 => ?_) (fun c_55 => ?_)
                · exact absurd c_55 (by decide)
                · refine lv_aload_n hx hb d_CS_upperOf_58 rfl (lv_at hl 4 rfl) ?_
                  refine va_get (D := g.1) (ci := 0) (v := .ref (q 1)) (C := R_CS) (T := F_CS) (N := 6) hx hb ht i_CS hown hK hP 0 rfl rfl 2 (by decide) (ht _ k_103) (fun _ h9 => h9) rfl d_CS_upperOf_59 ?_
                  refine lv_iload_n hx hb d_CS_upperOf_62 rfl (lv_at hl 1 rfl) ?_
                  refine zcV (ci := 2) (q0 := 0) (As := [.int (iI (nxF NX (nxF NX c)))]) (rest := []) ⟨hx, hb, hml, hown, ht⟩ v_CS_111 (c_TB_categoryOf l g (q 1) (q 2) (q 3) (q 4) (nxF NX (nxF NX c)) (by omega)) ⟨Nat.le_of_ble_eq_true rfl, Nat.le_of_ble_eq_true rfl⟩ ⟨Nat.zero_le _, Nat.zero_le _⟩ hK hZ hS (cw_tb hP) rfl rfl rfl rfl hl.1 rfl (Nat.le_of_ble_eq_true rfl) d_CS_upperOf_63 (fun r_63 h_63 => ?_)
                  obtain ⟨i63, hi63, j1_63, j2_63, rfl⟩ := h_63
                  rw [cat_at hi63 j1_63 j2_63]
                  have q_63 := catF_bd (nxF NX (nxF NX c)) (by omega)
                  refine lv_bipush (v := iI 6) hx hb d_CS_upperOf_66 (by decide) ?_
                  refine ix_icmp_ne (tgt := 73) hx hb d_CS_upperOf_68 (by decide) (by omega) (fun c_68 => ?_) (fun c_68 => ?_)
                  · refine lv_iinc (v := iI 3) (lv' := [(4, .int (iI 3)), (5, .int (iI 1)), (3, .int (iI (nxF NX (nxF NX c)))), (2, .int (iI c)), (0, .ref (q 0)), (1, .int (iI c))]) hx hb d_CS_upperOf_73 hl (k := 2) rfl (iI_add _ _) (by decide) rfl (fun ls hl => ?_)
                    refine lv_goto (tgt := 21) hx hb d_CS_upperOf_76 (by decide) ?_
                    refine lv_iload hx hb d_CS_upperOf_21 (lv_at hl 0 rfl) ?_
                    refine lv_iconst (v := iI 3) hx hb d_CS_upperOf_23 rfl ?_
                    refine ix_icmp_ge (tgt := 79) hx hb d_CS_upperOf_24 (by decide) (by omega) (fun c_24 => ?_) (fun c_24 => ?_)
                    · refine lv_iload_n hx hb d_CS_upperOf_79 rfl (lv_at hl 3 rfl) ?_
                      subst hQ
                      exact W.iret (v := iI c) hx hb hr (fun t h9 hW => ⟨_, rfl, by first | (exfalso; omega) | exact congrArg iI (by unfold upC uq; dsimp only; repeat (first | rw [if_pos (by omega)] | rw [if_neg (by omega)])), h9⟩) (fun _ h9 => by cases h9) d_CS_upperOf_80
                    · exact absurd c_24 (by decide)
                  · refine lv_iload_n hx hb d_CS_upperOf_71 rfl (lv_at hl 1 rfl) ?_
                    refine lv_istore_n (lv' := [(2, .int (iI (nxF NX (nxF NX c)))), (5, .int (iI 1)), (3, .int (iI (nxF NX (nxF NX c)))), (4, .int (iI 2)), (0, .ref (q 0)), (1, .int (iI c))]) hx hb d_CS_upperOf_72 rfl hl (by decide) rfl (fun ls hl => ?_)
                    refine lv_iinc (v := iI 3) (lv' := [(4, .int (iI 3)), (2, .int (iI (nxF NX (nxF NX c)))), (5, .int (iI 1)), (3, .int (iI (nxF NX (nxF NX c)))), (0, .ref (q 0)), (1, .int (iI c))]) hx hb d_CS_upperOf_73 hl (k := 3) rfl (iI_add _ _) (by decide) rfl (fun ls hl => ?_)
                    refine lv_goto (tgt := 21) hx hb d_CS_upperOf_76 (by decide) ?_
                    refine lv_iload hx hb d_CS_upperOf_21 (lv_at hl 0 rfl) ?_
                    refine lv_iconst (v := iI 3) hx hb d_CS_upperOf_23 rfl ?_
                    refine ix_icmp_ge (tgt := 79) hx hb d_CS_upperOf_24 (by decide) (by omega) (fun c_24 => ?_) (fun c_24 => ?_)
                    · refine lv_iload_n hx hb d_CS_upperOf_79 rfl (lv_at hl 1 rfl) ?_
                      subst hQ
                      exact W.iret (v := iI (nxF NX (nxF NX c))) hx hb hr (fun t h9 hW => ⟨_, rfl, by first | (exfalso; omega) | exact congrArg iI (by unfold upC uq; dsimp only; repeat (first | rw [if_pos (by omega)] | rw [if_neg (by omega)])), h9⟩) (fun _ h9 => by cases h9) d_CS_upperOf_80
                    · exact absurd c_24 (by decide)
              · refine lv_iload_n hx hb d_CS_upperOf_41 rfl (lv_at hl 0 rfl) ?_
                refine lv_iload_n hx hb d_CS_upperOf_42 rfl (lv_at hl 3 rfl) ?_
                refine ix_icmp_ge (tgt := 50) hx hb d_CS_upperOf_43 (by decide) (by omega) (fun c_43 => ?_) (fun c_43 => ?_)
                · refine lv_iconst (v := iI 0) hx hb d_CS_upperOf_50 rfl ?_
                  refine lv_istore (lv' := [(5, .int (iI 0)), (3, .int (iI (nxF NX (nxF NX c)))), (4, .int (iI 2)), (2, .int (iI c)), (0, .ref (q 0)), (1, .int (iI c))]) hx hb d_CS_upperOf_51 hl (by decide) rfl (fun ls hl => ?_)
                  refine lv_iload hx hb d_CS_upperOf_53 (lv_at hl 0 rfl) ?_
                  refine ix_if_eq (tgt := 73) hx hb d_CS_upperOf_55 (by decide) (by omega) (fun c_55 => ?_) (fun c_55 => ?_)
                  · refine lv_iinc (v := iI 3) (lv' := [(4, .int (iI 3)), (5, .int (iI 0)), (3, .int (iI (nxF NX (nxF NX c)))), (2, .int (iI c)), (0, .ref (q 0)), (1, .int (iI c))]) hx hb d_CS_upperOf_73 hl (k := 2) rfl (iI_add _ _) (by decide) rfl (fun ls hl => ?_)
                    refine lv_goto (tgt := 21) hx hb d_CS_upperOf_76 (by decide) ?_
                    refine lv_iload hx hb d_CS_upperOf_21 (lv_at hl 0 rfl) ?_
                    refine lv_iconst (v := iI 3) hx hb d_CS_upperOf_23 rfl ?_
                    refine ix_icmp_ge (tgt := 79) hx hb d_CS_upperOf_24 (by decide) (by omega) (fun c_24 => ?_) (fun c_24 => ?_)
                    · refine lv_iload_n hx hb d_CS_upperOf_79 rfl (lv_at hl 3 rfl) ?_
                      subst hQ
                      exact W.iret (v := iI c) hx hb hr (fun t h9 hW => ⟨_, rfl, by first | (exfalso; omega) | exact congrArg iI (by unfold upC uq; dsimp only; repeat (first | rw [if_pos (by omega)] | rw [if_neg (by omega)])), h9⟩) (fun _ h9 => by cases h9) d_CS_upperOf_80
                    · exact absurd c_24 (by decide)
                  · exact absurd c_55 (by decide)
                · refine lv_iconst (v := iI 1) hx hb d_CS_upperOf_46 rfl ?_
                  refine lv_goto (tgt := 51) hx hb d_CS_upperOf_47 (by decide) ?_
                  refine lv_istore (lv' := [(5, .int (iI 1)), (3, .int (iI (nxF NX (nxF NX c)))), (4, .int (iI 2)), (2, .int (iI c)), (0, .ref (q 0)), (1, .int (iI c))]) hx hb d_CS_upperOf_51 hl (by decide) rfl (fun ls hl => ?_)
                  refine lv_iload hx hb d_CS_upperOf_53 (lv_at hl 0 rfl) ?_
                  refine ix_if_eq (tgt := 73) hx hb d_CS_upperOf_55 (by decide) (by omega) (fun c_55 => ?_) (fun c_55 => ?_)
                  · exact absurd c_55 (by decide)
                  · refine lv_aload_n hx hb d_CS_upperOf_58 rfl (lv_at hl 4 rfl) ?_
                    refine va_get (D := g.1) (ci := 0) (v := .ref (q 1)) (C := R_CS) (T := F_CS) (N := 6) hx hb ht i_CS hown hK hP 0 rfl rfl 2 (by decide) (ht _ k_103) (fun _ h9 => h9) rfl d_CS_upperOf_59 ?_
                    refine lv_iload_n hx hb d_CS_upperOf_62 rfl (lv_at hl 1 rfl) ?_
                    refine zcV (ci := 2) (q0 := 0) (As := [.int (iI (nxF NX (nxF NX c)))]) (rest := []) ⟨hx, hb, hml, hown, ht⟩ v_CS_111 (c_TB_categoryOf l g (q 1) (q 2) (q 3) (q 4) (nxF NX (nxF NX c)) (by omega)) ⟨Nat.le_of_ble_eq_true rfl, Nat.le_of_ble_eq_true rfl⟩ ⟨Nat.zero_le _, Nat.zero_le _⟩ hK hZ hS (cw_tb hP) rfl rfl rfl rfl hl.1 rfl (Nat.le_of_ble_eq_true rfl) d_CS_upperOf_63 (fun r_63 h_63 => ?_)
                    obtain ⟨i63, hi63, j1_63, j2_63, rfl⟩ := h_63
                    rw [cat_at hi63 j1_63 j2_63]
                    have q_63 := catF_bd (nxF NX (nxF NX c)) (by omega)
                    refine lv_bipush (v := iI 6) hx hb d_CS_upperOf_66 (by decide) ?_
                    refine ix_icmp_ne (tgt := 73) hx hb d_CS_upperOf_68 (by decide) (by omega) (fun c_68 => ?_) (fun c_68 => ?_)
                    · refine lv_iinc (v := iI 3) (lv' := [(4, .int (iI 3)), (5, .int (iI 1)), (3, .int (iI (nxF NX (nxF NX c)))), (2, .int (iI c)), (0, .ref (q 0)), (1, .int (iI c))]) hx hb d_CS_upperOf_73 hl (k := 2) rfl (iI_add _ _) (by decide) rfl (fun ls hl => ?_)
                      refine lv_goto (tgt := 21) hx hb d_CS_upperOf_76 (by decide) ?_
                      refine lv_iload hx hb d_CS_upperOf_21 (lv_at hl 0 rfl) ?_
                      refine lv_iconst (v := iI 3) hx hb d_CS_upperOf_23 rfl ?_
                      refine ix_icmp_ge (tgt := 79) hx hb d_CS_upperOf_24 (by decide) (by omega) (fun c_24 => ?_) (fun c_24 => ?_)
                      · refine lv_iload_n hx hb d_CS_upperOf_79 rfl (lv_at hl 3 rfl) ?_
                        subst hQ
                        exact W.iret (v := iI c) hx hb hr (fun t h9 hW => ⟨_, rfl, by first | (exfalso; omega) | exact congrArg iI (by unfold upC uq; dsimp only; repeat (first | rw [if_pos (by omega)] | rw [if_neg (by omega)])), h9⟩) (fun _ h9 => by cases h9) d_CS_upperOf_80
                      · exact absurd c_24 (by decide)
                    · refine lv_iload_n hx hb d_CS_upperOf_71 rfl (lv_at hl 1 rfl) ?_
                      refine lv_istore_n (lv' := [(2, .int (iI (nxF NX (nxF NX c)))), (5, .int (iI 1)), (3, .int (iI (nxF NX (nxF NX c)))), (4, .int (iI 2)), (0, .ref (q 0)), (1, .int (iI c))]) hx hb d_CS_upperOf_72 rfl hl (by decide) rfl (fun ls hl => ?_)
                      refine lv_iinc (v := iI 3) (lv' := [(4, .int (iI 3)), (2, .int (iI (nxF NX (nxF NX c)))), (5, .int (iI 1)), (3, .int (iI (nxF NX (nxF NX c)))), (0, .ref (q 0)), (1, .int (iI c))]) hx hb d_CS_upperOf_73 hl (k := 3) rfl (iI_add _ _) (by decide) rfl (fun ls hl => ?_)
                      refine lv_goto (tgt := 21) hx hb d_CS_upperOf_76 (by decide) ?_
                      refine lv_iload hx hb d_CS_upperOf_21 (lv_at hl 0 rfl) ?_
                      refine lv_iconst (v := iI 3) hx hb d_CS_upperOf_23 rfl ?_
                      refine ix_icmp_ge (tgt := 79) hx hb d_CS_upperOf_24 (by decide) (by omega) (fun c_24 => ?_) (fun c_24 => ?_)
                      · refine lv_iload_n hx hb d_CS_upperOf_79 rfl (lv_at hl 1 rfl) ?_
                        subst hQ
                        exact W.iret (v := iI (nxF NX (nxF NX c))) hx hb hr (fun t h9 hW => ⟨_, rfl, by first | (exfalso; omega) | exact congrArg iI (by unfold upC uq; dsimp only; repeat (first | rw [if_pos (by omega)] | rw [if_neg (by omega)])), h9⟩) (fun _ h9 => by cases h9) d_CS_upperOf_80
                      · exact absurd c_24 (by decide)
          · exact absurd c_55 (by decide)
        · refine lv_iconst (v := iI 1) hx hb d_CS_upperOf_46 rfl ?_
          refine lv_goto (tgt := 51) hx hb d_CS_upperOf_47 (by decide) ?_
          refine lv_istore (lv' := [(5, .int (iI 1)), (3, .int (iI (nxF NX c))), (4, .int (iI 1)), (2, .int (iI c)), (0, .ref (q 0)), (1, .int (iI c))]) hx hb d_CS_upperOf_51 hl (by decide) rfl (fun ls hl => ?_)
          refine lv_iload hx hb d_CS_upperOf_53 (lv_at hl 0 rfl) ?_
          refine ix_if_eq (tgt := 73) hx hb d_CS_upperOf_55 (by decide) (by omega) (fun c_55 => ?_) (fun c_55 => ?_)
          · exact absurd c_55 (by decide)
          · refine lv_aload_n hx hb d_CS_upperOf_58 rfl (lv_at hl 4 rfl) ?_
            refine va_get (D := g.1) (ci := 0) (v := .ref (q 1)) (C := R_CS) (T := F_CS) (N := 6) hx hb ht i_CS hown hK hP 0 rfl rfl 2 (by decide) (ht _ k_103) (fun _ h9 => h9) rfl d_CS_upperOf_59 ?_
            refine lv_iload_n hx hb d_CS_upperOf_62 rfl (lv_at hl 1 rfl) ?_
            refine zcV (ci := 2) (q0 := 0) (As := [.int (iI (nxF NX c))]) (rest := []) ⟨hx, hb, hml, hown, ht⟩ v_CS_111 (c_TB_categoryOf l g (q 1) (q 2) (q 3) (q 4) (nxF NX c) (by omega)) ⟨Nat.le_of_ble_eq_true rfl, Nat.le_of_ble_eq_true rfl⟩ ⟨Nat.zero_le _, Nat.zero_le _⟩ hK hZ hS (cw_tb hP) rfl rfl rfl rfl hl.1 rfl (Nat.le_of_ble_eq_true rfl) d_CS_upperOf_63 (fun r_63 h_63 => ?_)
            obtain ⟨i63, hi63, j1_63, j2_63, rfl⟩ := h_63
            rw [cat_at hi63 j1_63 j2_63]
            have q_63 := catF_bd (nxF NX c) (by omega)
            refine lv_bipush (v := iI 6) hx hb d_CS_upperOf_66 (by decide) ?_
            refine ix_icmp_ne (tgt := 73) hx hb d_CS_upperOf_68 (by decide) (by omega) (fun c_68 => ?_) (fun c_68 => ?_)
            · refine lv_iinc (v := iI 2) (lv' := [(4, .int (iI 2)), (5, .int (iI 1)), (3, .int (iI (nxF NX c))), (2, .int (iI c)), (0, .ref (q 0)), (1, .int (iI c))]) hx hb d_CS_upperOf_73 hl (k := 2) rfl (iI_add _ _) (by decide) rfl (fun ls hl => ?_)
              refine lv_goto (tgt := 21) hx hb d_CS_upperOf_76 (by decide) ?_
              refine lv_iload hx hb d_CS_upperOf_21 (lv_at hl 0 rfl) ?_
              refine lv_iconst (v := iI 3) hx hb d_CS_upperOf_23 rfl ?_
              refine ix_icmp_ge (tgt := 79) hx hb d_CS_upperOf_24 (by decide) (by omega) (fun c_24 => ?_) (fun c_24 => ?_)
              · exact absurd c_24 (by decide)
              · refine lv_aload_n hx hb d_CS_upperOf_27 rfl (lv_at hl 4 rfl) ?_
                refine va_get (D := g.1) (ci := 0) (v := .ref (q 5)) (C := R_CS) (T := F_CS) (N := 6) hx hb ht i_CS hown hK hP 0 rfl rfl 3 (by decide) (ht _ k_104) (fun _ h9 => h9) rfl d_CS_upperOf_28 ?_
                refine lv_iload_n hx hb d_CS_upperOf_31 rfl (lv_at hl 2 rfl) ?_
                refine zcV (ci := 3) (q0 := 0) (As := [.int (iI (nxF NX c))]) (rest := []) ⟨hx, hb, hml, hown, ht⟩ v_CS_123 (c_CR_nextOf l g (q 5) (q 6) la NX (nxF NX c) (by omega)) ⟨Nat.le_of_ble_eq_true rfl, Nat.le_of_ble_eq_true rfl⟩ ⟨Nat.zero_le _, Nat.zero_le _⟩ hK hZ hS (cw_rn hP) rfl rfl rfl rfl hl.1 rfl (Nat.le_of_ble_eq_true rfl) d_CS_upperOf_32 (fun r_32 h_32 => ?_)
                subst h_32
                have b_32 := nxF_bd hNX (c := (nxF NX c)) (by omega)
                refine lv_istore_n (lv' := [(3, .int (iI (nxF NX (nxF NX c)))), (4, .int (iI 2)), (5, .int (iI 1)), (2, .int (iI c)), (0, .ref (q 0)), (1, .int (iI c))]) hx hb d_CS_upperOf_35 rfl hl (by decide) rfl (fun ls hl => ?_)
                refine lv_iload_n hx hb d_CS_upperOf_36 rfl (lv_at hl 3 rfl) ?_
                refine lv_iload_n hx hb d_CS_upperOf_37 rfl (lv_at hl 5 rfl) ?_
                refine ix_icmp_eq (tgt := 46) hx hb d_CS_upperOf_38 (by decide) (by omega) (fun c_38 => ?_) (fun c_38 => ?_)
                · refine lv_iconst (v := iI 1) hx hb d_CS_upperOf_46 rfl ?_
                  refine lv_goto (tgt := 51) hx hb d_CS_upperOf_47 (by decide) ?_
                  refine lv_istore (lv' := [(5, .int (iI 1)), (3, .int (iI (nxF NX (nxF NX c)))), (4, .int (iI 2)), (2, .int (iI c)), (0, .ref (q 0)), (1, .int (iI c))]) hx hb d_CS_upperOf_51 hl (by decide) rfl (fun ls hl => ?_)
                  refine lv_iload hx hb d_CS_upperOf_53 (lv_at hl 0 rfl) ?_
                  refine ix_if_eq (tgt := 73) hx hb d_CS_upperOf_55 (by decide) (by omega) (fun c_55 => ?_) (fun c_55 => ?_)
                  · exact absurd c_55 (by decide)
                  · refine lv_aload_n hx hb d_CS_upperOf_58 rfl (lv_at hl 4 rfl) ?_
                    refine va_get (D := g.1) (ci := 0) (v := .ref (q 1)) (C := R_CS) (T := F_CS) (N := 6) hx hb ht i_CS hown hK hP 0 rfl rfl 2 (by decide) (ht _ k_103) (fun _ h9 => h9) rfl d_CS_upperOf_59 ?_
                    refine lv_iload_n hx hb d_CS_upperOf_62 rfl (lv_at hl 1 rfl) ?_
                    refine zcV (ci := 2) (q0 := 0) (As := [.int (iI (nxF NX (nxF NX c)))]) (rest := []) ⟨hx, hb, hml, hown, ht⟩ v_CS_111 (c_TB_categoryOf l g (q 1) (q 2) (q 3) (q 4) (nxF NX (nxF NX c)) (by omega)) ⟨Nat.le_of_ble_eq_true rfl, Nat.le_of_ble_eq_true rfl⟩ ⟨Nat.zero_le _, Nat.zero_le _⟩ hK hZ hS (cw_tb hP) rfl rfl rfl rfl hl.1 rfl (Nat.le_of_ble_eq_true rfl) d_CS_upperOf_63 (fun r_63 h_63 => ?_)
                    obtain ⟨i63, hi63, j1_63, j2_63, rfl⟩ := h_63
                    rw [cat_at hi63 j1_63 j2_63]
                    have q_63 := catF_bd (nxF NX (nxF NX c)) (by omega)
                    refine lv_bipush (v := iI 6) hx hb d_CS_upperOf_66 (by decide) ?_
                    refine ix_icmp_ne (tgt := 73) hx hb d_CS_upperOf_68 (by decide) (by omega) (fun c_68 => ?_) (fun c_68 => ?_)
                    · refine lv_iinc (v := iI 3) (lv' := [(4, .int (iI 3)), (5, .int (iI 1)), (3, .int (iI (nxF NX (nxF NX c)))), (2, .int (iI c)), (0, .ref (q 0)), (1, .int (iI c))]) hx hb d_CS_upperOf_73 hl (k := 2) rfl (iI_add _ _) (by decide) rfl (fun ls hl => ?_)
                      refine lv_goto (tgt := 21) hx hb d_CS_upperOf_76 (by decide) ?_
                      refine lv_iload hx hb d_CS_upperOf_21 (lv_at hl 0 rfl) ?_
                      refine lv_iconst (v := iI 3) hx hb d_CS_upperOf_23 rfl ?_
                      refine ix_icmp_ge (tgt := 79) hx hb d_CS_upperOf_24 (by decide) (by omega) (fun c_24 => ?_) (fun c_24 => ?_)
                      · refine lv_iload_n hx hb d_CS_upperOf_79 rfl (lv_at hl 3 rfl) ?_
                        subst hQ
                        exact W.iret (v := iI c) hx hb hr (fun t h9 hW => ⟨_, rfl, by first | (exfalso; omega) | exact congrArg iI (by unfold upC uq; dsimp only; repeat (first | rw [if_pos (by omega)] | rw [if_neg (by omega)])), h9⟩) (fun _ h9 => by cases h9) d_CS_upperOf_80
                      · exact absurd c_24 (by decide)
                    · refine lv_iload_n hx hb d_CS_upperOf_71 rfl (lv_at hl 1 rfl) ?_
                      refine lv_istore_n (lv' := [(2, .int (iI (nxF NX (nxF NX c)))), (5, .int (iI 1)), (3, .int (iI (nxF NX (nxF NX c)))), (4, .int (iI 2)), (0, .ref (q 0)), (1, .int (iI c))]) hx hb d_CS_upperOf_72 rfl hl (by decide) rfl (fun ls hl => ?_)
                      refine lv_iinc (v := iI 3) (lv' := [(4, .int (iI 3)), (2, .int (iI (nxF NX (nxF NX c)))), (5, .int (iI 1)), (3, .int (iI (nxF NX (nxF NX c)))), (0, .ref (q 0)), (1, .int (iI c))]) hx hb d_CS_upperOf_73 hl (k := 3) rfl (iI_add _ _) (by decide) rfl (fun ls hl => ?_)
                      refine lv_goto (tgt := 21) hx hb d_CS_upperOf_76 (by decide) ?_
                      refine lv_iload hx hb d_CS_upperOf_21 (lv_at hl 0 rfl) ?_
                      refine lv_iconst (v := iI 3) hx hb d_CS_upperOf_23 rfl ?_
                      refine ix_icmp_ge (tgt := 79) hx hb d_CS_upperOf_24 (by decide) (by omega) (fun c_24 => ?_) (fun c_24 => ?_)
                      · refine lv_iload_n hx hb d_CS_upperOf_79 rfl (lv_at hl 1 rfl) ?_
                        subst hQ
                        exact W.iret (v := iI (nxF NX (nxF NX c))) hx hb hr (fun t h9 hW => ⟨_, rfl, by first | (exfalso; omega) | exact congrArg iI (by unfold upC uq; dsimp only; repeat (first | rw [if_pos (by omega)] | rw [if_neg (by omega)])), h9⟩) (fun _ h9 => by cases h9) d_CS_upperOf_80
                      · exact absurd c_24 (by decide)
                · refine lv_iload_n hx hb d_CS_upperOf_41 rfl (lv_at hl 0 rfl) ?_
                  refine lv_iload_n hx hb d_CS_upperOf_42 rfl (lv_at hl 3 rfl) ?_
                  refine ix_icmp_ge (tgt := 50) hx hb d_CS_upperOf_43 (by decide) (by omega) (fun c_43 => ?_) (fun c_43 => ?_)
                  · refine lv_iconst (v := iI 0) hx hb d_CS_upperOf_50 rfl ?_
                    refine lv_istore (lv' := [(5, .int (iI 0)), (3, .int (iI (nxF NX (nxF NX c)))), (4, .int (iI 2)), (2, .int (iI c)), (0, .ref (q 0)), (1, .int (iI c))]) hx hb d_CS_upperOf_51 hl (by decide) rfl (fun ls hl => ?_)
                    refine lv_iload hx hb d_CS_upperOf_53 (lv_at hl 0 rfl) ?_
                    refine ix_if_eq (tgt := 73) hx hb d_CS_upperOf_55 (by decide) (by omega) (fun c_55 => ?_) (fun c_55 => ?_)
                    · refine lv_iinc (v := iI 3) (lv' := [(4, .int (iI 3)), (5, .int (iI 0)), (3, .int (iI (nxF NX (nxF NX c)))), (2, .int (iI c)), (0, .ref (q 0)), (1, .int (iI c))]) hx hb d_CS_upperOf_73 hl (k := 2) rfl (iI_add _ _) (by decide) rfl (fun ls hl => ?_)
                      refine lv_goto (tgt := 21) hx hb d_CS_upperOf_76 (by decide) ?_
                      refine lv_iload hx hb d_CS_upperOf_21 (lv_at hl 0 rfl) ?_
                      refine lv_iconst (v := iI 3) hx hb d_CS_upperOf_23 rfl ?_
                      refine ix_icmp_ge (tgt := 79) hx hb d_CS_upperOf_24 (by decide) (by omega) (fun c_24 => ?_) (fun c_24 => ?_)
                      · refine lv_iload_n hx hb d_CS_upperOf_79 rfl (lv_at hl 3 rfl) ?_
                        subst hQ
                        exact W.iret (v := iI c) hx hb hr (fun t h9 hW => ⟨_, rfl, by first | (exfalso; omega) | exact congrArg iI (by unfold upC uq; dsimp only; repeat (first | rw [if_pos (by omega)] | rw [if_neg (by omega)])), h9⟩) (fun _ h9 => by cases h9) d_CS_upperOf_80
                      · exact absurd c_24 (by decide)
                    · exact absurd c_55 (by decide)
                  · refine lv_iconst (v := iI 1) hx hb d_CS_upperOf_46 rfl ?_
                    refine lv_goto (tgt := 51) hx hb d_CS_upperOf_47 (by decide) ?_
                    refine lv_istore (lv' := [(5, .int (iI 1)), (3, .int (iI (nxF NX (nxF NX c)))), (4, .int (iI 2)), (2, .int (iI c)), (0, .ref (q 0)), (1, .int (iI c))]) hx hb d_CS_upperOf_51 hl (by decide) rfl (fun ls hl => ?_)
                    refine lv_iload hx hb d_CS_upperOf_53 (lv_at hl 0 rfl) ?_
                    refine ix_if_eq (tgt := 73) hx hb d_CS_upperOf_55 (by decide) (by omega) (fun c_55 => ?_) (fun c_55 => ?_)
                    · exact absurd c_55 (by decide)
                    · refine lv_aload_n hx hb d_CS_upperOf_58 rfl (lv_at hl 4 rfl) ?_
                      refine va_get (D := g.1) (ci := 0) (v := .ref (q 1)) (C := R_CS) (T := F_CS) (N := 6) hx hb ht i_CS hown hK hP 0 rfl rfl 2 (by decide) (ht _ k_103) (fun _ h9 => h9) rfl d_CS_upperOf_59 ?_
                      refine lv_iload_n hx hb d_CS_upperOf_62 rfl (lv_at hl 1 rfl) ?_
                      refine zcV (ci := 2) (q0 := 0) (As := [.int (iI (nxF NX (nxF NX c)))]) (rest := []) ⟨hx, hb, hml, hown, ht⟩ v_CS_111 (c_TB_categoryOf l g (q 1) (q 2) (q 3) (q 4) (nxF NX (nxF NX c)) (by omega)) ⟨Nat.le_of_ble_eq_true rfl, Nat.le_of_ble_eq_true rfl⟩ ⟨Nat.zero_le _, Nat.zero_le _⟩ hK hZ hS (cw_tb hP) rfl rfl rfl rfl hl.1 rfl (Nat.le_of_ble_eq_true rfl) d_CS_upperOf_63 (fun r_63 h_63 => ?_)
                      obtain ⟨i63, hi63, j1_63, j2_63, rfl⟩ := h_63
                      rw [cat_at hi63 j1_63 j2_63]
                      have q_63 := catF_bd (nxF NX (nxF NX c)) (by omega)
                      refine lv_bipush (v := iI 6) hx hb d_CS_upperOf_66 (by decide) ?_
                      refine ix_icmp_ne (tgt := 73) hx hb d_CS_upperOf_68 (by decide) (by omega) (fun c_68 => ?_) (fun c_68 => ?_)
                      · refine lv_iinc (v := iI 3) (lv' := [(4, .int (iI 3)), (5, .int (iI 1)), (3, .int (iI (nxF NX (nxF NX c)))), (2, .int (iI c)), (0, .ref (q 0)), (1, .int (iI c))]) hx hb d_CS_upperOf_73 hl (k := 2) rfl (iI_add _ _) (by decide) rfl (fun ls hl => ?_)
                        refine lv_goto (tgt := 21) hx hb d_CS_upperOf_76 (by decide) ?_
                        refine lv_iload hx hb d_CS_upperOf_21 (lv_at hl 0 rfl) ?_
                        refine lv_iconst (v := iI 3) hx hb d_CS_upperOf_23 rfl ?_
                        refine ix_icmp_ge (tgt := 79) hx hb d_CS_upperOf_24 (by decide) (by omega) (fun c_24 => ?_) (fun c_24 => ?_)
                        · refine lv_iload_n hx hb d_CS_upperOf_79 rfl (lv_at hl 3 rfl) ?_
                          subst hQ
                          exact W.iret (v := iI c) hx hb hr (fun t h9 hW => ⟨_, rfl, by first | (exfalso; omega) | exact congrArg iI (by unfold upC uq; dsimp only; repeat (first | rw [if_pos (by omega)] | rw [if_neg (by omega)])), h9⟩) (fun _ h9 => by cases h9) d_CS_upperOf_80
                        · exact absurd c_24 (by decide)
                      · refine lv_iload_n hx hb d_CS_upperOf_71 rfl (lv_at hl 1 rfl) ?_
                        refine lv_istore_n (lv' := [(2, .int (iI (nxF NX (nxF NX c)))), (5, .int (iI 1)), (3, .int (iI (nxF NX (nxF NX c)))), (4, .int (iI 2)), (0, .ref (q 0)), (1, .int (iI c))]) hx hb d_CS_upperOf_72 rfl hl (by decide) rfl (fun ls hl => ?_)
                        refine lv_iinc (v := iI 3) (lv' := [(4, .int (iI 3)), (2, .int (iI (nxF NX (nxF NX c)))), (5, .int (iI 1)), (3, .int (iI (nxF NX (nxF NX c)))), (0, .ref (q 0)), (1, .int (iI c))]) hx hb d_CS_upperOf_73 hl (k := 3) rfl (iI_add _ _) (by decide) rfl (fun ls hl => ?_)
                        refine lv_goto (tgt := 21) hx hb d_CS_upperOf_76 (by decide) ?_
                        refine lv_iload hx hb d_CS_upperOf_21 (lv_at hl 0 rfl) ?_
                        refine lv_iconst (v := iI 3) hx hb d_CS_upperOf_23 rfl ?_
                        refine ix_icmp_ge (tgt := 79) hx hb d_CS_upperOf_24 (by decide) (by omega) (fun c_24 => ?_) (fun c_24 => ?_)
                        · refine lv_iload_n hx hb d_CS_upperOf_79 rfl (lv_at hl 1 rfl) ?_
                          subst hQ
                          exact W.iret (v := iI (nxF NX (nxF NX c))) hx hb hr (fun t h9 hW => ⟨_, rfl, by first | (exfalso; omega) | exact congrArg iI (by unfold upC uq; dsimp only; repeat (first | rw [if_pos (by omega)] | rw [if_neg (by omega)])), h9⟩) (fun _ h9 => by cases h9) d_CS_upperOf_80
                        · exact absurd c_24 (by decide)
            · refine lv_iload_n hx hb d_CS_upperOf_71 rfl (lv_at hl 1 rfl) ?_
              refine lv_istore_n (lv' := [(2, .int (iI (nxF NX c))), (5, .int (iI 1)), (3, .int (iI (nxF NX c))), (4, .int (iI 1)), (0, .ref (q 0)), (1, .int (iI c))]) hx hb d_CS_upperOf_72 rfl hl (by decide) rfl (fun ls hl => ?_)
              refine lv_iinc (v := iI 2) (lv' := [(4, .int (iI 2)), (2, .int (iI (nxF NX c))), (5, .int (iI 1)), (3, .int (iI (nxF NX c))), (0, .ref (q 0)), (1, .int (iI c))]) hx hb d_CS_upperOf_73 hl (k := 3) rfl (iI_add _ _) (by decide) rfl (fun ls hl => ?_)
              refine lv_goto (tgt := 21) hx hb d_CS_upperOf_76 (by decide) ?_
              refine lv_iload hx hb d_CS_upperOf_21 (lv_at hl 0 rfl) ?_
              refine lv_iconst (v := iI 3) hx hb d_CS_upperOf_23 rfl ?_
              refine ix_icmp_ge (tgt := 79) hx hb d_CS_upperOf_24 (by decide) (by omega) (fun c_24 => ?_) (fun c_24 => ?_)
              · exact absurd c_24 (by decide)
              · refine lv_aload_n hx hb d_CS_upperOf_27 rfl (lv_at hl 4 rfl) ?_
                refine va_get (D := g.1) (ci := 0) (v := .ref (q 5)) (C := R_CS) (T := F_CS) (N := 6) hx hb ht i_CS hown hK hP 0 rfl rfl 3 (by decide) (ht _ k_104) (fun _ h9 => h9) rfl d_CS_upperOf_28 ?_
                refine lv_iload_n hx hb d_CS_upperOf_31 rfl (lv_at hl 3 rfl) ?_
                refine zcV (ci := 3) (q0 := 0) (As := [.int (iI (nxF NX c))]) (rest := []) ⟨hx, hb, hml, hown, ht⟩ v_CS_123 (c_CR_nextOf l g (q 5) (q 6) la NX (nxF NX c) (by omega)) ⟨Nat.le_of_ble_eq_true rfl, Nat.le_of_ble_eq_true rfl⟩ ⟨Nat.zero_le _, Nat.zero_le _⟩ hK hZ hS (cw_rn hP) rfl rfl rfl rfl hl.1 rfl (Nat.le_of_ble_eq_true rfl) d_CS_upperOf_32 (fun r_32 h_32 => ?_)
                subst h_32
                have b_32 := nxF_bd hNX (c := (nxF NX c)) (by omega)
                refine lv_istore_n (lv' := [(3, .int (iI (nxF NX (nxF NX c)))), (4, .int (iI 2)), (2, .int (iI (nxF NX c))), (5, .int (iI 1)), (0, .ref (q 0)), (1, .int (iI c))]) hx hb d_CS_upperOf_35 rfl hl (by decide) rfl (fun ls hl => ?_)
                refine lv_iload_n hx hb d_CS_upperOf_36 rfl (lv_at hl 2 rfl) ?_
                refine lv_iload_n hx hb d_CS_upperOf_37 rfl (lv_at hl 5 rfl) ?_
                refine ix_icmp_eq (tgt := 46) hx hb d_CS_upperOf_38 (by decide) (by omega) (fun c_38 => ?_) (fun c_38 => ?_)
                · refine lv_iconst (v := iI 1) hx hb d_CS_upperOf_46 rfl ?_
                  refine lv_goto (tgt := 51) hx hb d_CS_upperOf_47 (by decide) ?_
                  refine lv_istore (lv' := [(5, .int (iI 1)), (3, .int (iI (nxF NX (nxF NX c)))), (4, .int (iI 2)), (2, .int (iI (nxF NX c))), (0, .ref (q 0)), (1, .int (iI c))]) hx hb d_CS_upperOf_51 hl (by decide) rfl (fun ls hl => ?_)
                  refine lv_iload hx hb d_CS_upperOf_53 (lv_at hl 0 rfl) ?_
                  refine ix_if_eq (tgt := 73) hx hb d_CS_upperOf_55 (by decide) (by omega) (fun c_55 => ?_) (fun c_55 => ?_)
                  · exact absurd c_55 (by decide)
                  · refine lv_aload_n hx hb d_CS_upperOf_58 rfl (lv_at hl 4 rfl) ?_
                    refine va_get (D := g.1) (ci := 0) (v := .ref (q 1)) (C := R_CS) (T := F_CS) (N := 6) hx hb ht i_CS hown hK hP 0 rfl rfl 2 (by decide) (ht _ k_103) (fun _ h9 => h9) rfl d_CS_upperOf_59 ?_
                    refine lv_iload_n hx hb d_CS_upperOf_62 rfl (lv_at hl 1 rfl) ?_
                    refine zcV (ci := 2) (q0 := 0) (As := [.int (iI (nxF NX (nxF NX c)))]) (rest := []) ⟨hx, hb, hml, hown, ht⟩ v_CS_111 (c_TB_categoryOf l g (q 1) (q 2) (q 3) (q 4) (nxF NX (nxF NX c)) (by omega)) ⟨Nat.le_of_ble_eq_true rfl, Nat.le_of_ble_eq_true rfl⟩ ⟨Nat.zero_le _, Nat.zero_le _⟩ hK hZ hS (cw_tb hP) rfl rfl rfl rfl hl.1 rfl (Nat.le_of_ble_eq_true rfl) d_CS_upperOf_63 (fun r_63 h_63 => ?_)
                    obtain ⟨i63, hi63, j1_63, j2_63, rfl⟩ := h_63
                    rw [cat_at hi63 j1_63 j2_63]
                    have q_63 := catF_bd (nxF NX (nxF NX c)) (by omega)
                    refine lv_bipush (v := iI 6) hx hb d_CS_upperOf_66 (by decide) ?_
                    refine ix_icmp_ne (tgt := 73) hx hb d_CS_upperOf_68 (by decide) (by omega) (fun c_68 => ?_) (fun c_68 => ?_)
                    · refine lv_iinc (v := iI 3) (lv' := [(4, .int (iI 3)), (5, .int (iI 1)), (3, .int (iI (nxF NX (nxF NX c)))), (2, .int (iI (nxF NX c))), (0, .ref (q 0)), (1, .int (iI c))]) hx hb d_CS_upperOf_73 hl (k := 2) rfl (iI_add _ _) (by decide) rfl (fun ls hl => ?_)
                      refine lv_goto (tgt := 21) hx hb d_CS_upperOf_76 (by decide) ?_
                      refine lv_iload hx hb d_CS_upperOf_21 (lv_at hl 0 rfl) ?_
                      refine lv_iconst (v := iI 3) hx hb d_CS_upperOf_23 rfl ?_
                      refine ix_icmp_ge (tgt := 79) hx hb d_CS_upperOf_24 (by decide) (by omega) (fun c_24 => ?_) (fun c_24 => ?_)
                      · refine lv_iload_n hx hb d_CS_upperOf_79 rfl (lv_at hl 3 rfl) ?_
                        subst hQ
                        exact W.iret (v := iI (nxF NX c)) hx hb hr (fun t h9 hW => ⟨_, rfl, by first | (exfalso; omega) | exact congrArg iI (by unfold upC uq; dsimp only; repeat (first | rw [if_pos (by omega)] | rw [if_neg (by omega)])), h9⟩) (fun _ h9 => by cases h9) d_CS_upperOf_80
                      · exact absurd c_24 (by decide)
                    · refine lv_iload_n hx hb d_CS_upperOf_71 rfl (lv_at hl 1 rfl) ?_
                      refine lv_istore_n (lv' := [(2, .int (iI (nxF NX (nxF NX c)))), (5, .int (iI 1)), (3, .int (iI (nxF NX (nxF NX c)))), (4, .int (iI 2)), (0, .ref (q 0)), (1, .int (iI c))]) hx hb d_CS_upperOf_72 rfl hl (by decide) rfl (fun ls hl => ?_)
                      refine lv_iinc (v := iI 3) (lv' := [(4, .int (iI 3)), (2, .int (iI (nxF NX (nxF NX c)))), (5, .int (iI 1)), (3, .int (iI (nxF NX (nxF NX c)))), (0, .ref (q 0)), (1, .int (iI c))]) hx hb d_CS_upperOf_73 hl (k := 3) rfl (iI_add _ _) (by decide) rfl (fun ls hl => ?_)
                      refine lv_goto (tgt := 21) hx hb d_CS_upperOf_76 (by decide) ?_
                      refine lv_iload hx hb d_CS_upperOf_21 (lv_at hl 0 rfl) ?_
                      refine lv_iconst (v := iI 3) hx hb d_CS_upperOf_23 rfl ?_
                      refine ix_icmp_ge (tgt := 79) hx hb d_CS_upperOf_24 (by decide) (by omega) (fun c_24 => ?_) (fun c_24 => ?_)
                      · refine lv_iload_n hx hb d_CS_upperOf_79 rfl (lv_at hl 1 rfl) ?_
                        subst hQ
                        exact W.iret (v := iI (nxF NX (nxF NX c))) hx hb hr (fun t h9 hW => ⟨_, rfl, by first | (exfalso; omega) | exact congrArg iI (by unfold upC uq; dsimp only; repeat (first | rw [if_pos (by omega)] | rw [if_neg (by omega)])), h9⟩) (fun _ h9 => by cases h9) d_CS_upperOf_80
                      · exact absurd c_24 (by decide)
                · refine lv_iload_n hx hb d_CS_upperOf_41 rfl (lv_at hl 0 rfl) ?_
                  refine lv_iload_n hx hb d_CS_upperOf_42 rfl (lv_at hl 2 rfl) ?_
                  refine ix_icmp_ge (tgt := 50) hx hb d_CS_upperOf_43 (by decide) (by omega) (fun c_43 => ?_) (fun c_43 => ?_)
                  · refine lv_iconst (v := iI 0) hx hb d_CS_upperOf_50 rfl ?_
                    refine lv_istore (lv' := [(5, .int (iI 0)), (3, .int (iI (nxF NX (nxF NX c)))), (4, .int (iI 2)), (2, .int (iI (nxF NX c))), (0, .ref (q 0)), (1, .int (iI c))]) hx hb d_CS_upperOf_51 hl (by decide) rfl (fun ls hl => ?_)
                    refine lv_iload hx hb d_CS_upperOf_53 (lv_at hl 0 rfl) ?_
                    refine ix_if_eq (tgt := 73) hx hb d_CS_upperOf_55 (by decide) (by omega) (fun c_55 => ?_) (fun c_55 => ?_)
                    · refine lv_iinc (v := iI 3) (lv' := [(4, .int (iI 3)), (5, .int (iI 0)), (3, .int (iI (nxF NX (nxF NX c)))), (2, .int (iI (nxF NX c))), (0, .ref (q 0)), (1, .int (iI c))]) hx hb d_CS_upperOf_73 hl (k := 2) rfl (iI_add _ _) (by decide) rfl (fun ls hl => ?_)
                      refine lv_goto (tgt := 21) hx hb d_CS_upperOf_76 (by decide) ?_
                      refine lv_iload hx hb d_CS_upperOf_21 (lv_at hl 0 rfl) ?_
                      refine lv_iconst (v := iI 3) hx hb d_CS_upperOf_23 rfl ?_
                      refine ix_icmp_ge (tgt := 79) hx hb d_CS_upperOf_24 (by decide) (by omega) (fun c_24 => ?_) (fun c_24 => ?_)
                      · refine lv_iload_n hx hb d_CS_upperOf_79 rfl (lv_at hl 3 rfl) ?_
                        subst hQ
                        exact W.iret (v := iI (nxF NX c)) hx hb hr (fun t h9 hW => ⟨_, rfl, by first | (exfalso; omega) | exact congrArg iI (by unfold upC uq; dsimp only; repeat (first | rw [if_pos (by omega)] | rw [if_neg (by omega)])), h9⟩) (fun _ h9 => by cases h9) d_CS_upperOf_80
                      · exact absurd c_24 (by decide)
                    · exact absurd c_55 (by decide)
                  · refine lv_iconst (v := iI 1) hx hb d_CS_upperOf_46 rfl ?_
                    refine lv_goto (tgt := 51) hx hb d_CS_upperOf_47 (by decide) ?_
                    refine lv_istore (lv' := [(5, .int (iI 1)), (3, .int (iI (nxF NX (nxF NX c)))), (4, .int (iI 2)), (2, .int (iI (nxF NX c))), (0, .ref (q 0)), (1, .int (iI c))]) hx hb d_CS_upperOf_51 hl (by decide) rfl (fun ls hl => ?_)
                    refine lv_iload hx hb d_CS_upperOf_53 (lv_at hl 0 rfl) ?_
                    refine ix_if_eq (tgt := 73) hx hb d_CS_upperOf_55 (by decide) (by omega) (fun c_55 => ?_) (fun c_55 => ?_)
                    · exact absurd c_55 (by decide)
                    · refine lv_aload_n hx hb d_CS_upperOf_58 rfl (lv_at hl 4 rfl) ?_
                      refine va_get (D := g.1) (ci := 0) (v := .ref (q 1)) (C := R_CS) (T := F_CS) (N := 6) hx hb ht i_CS hown hK hP 0 rfl rfl 2 (by decide) (ht _ k_103) (fun _ h9 => h9) rfl d_CS_upperOf_59 ?_
                      refine lv_iload_n hx hb d_CS_upperOf_62 rfl (lv_at hl 1 rfl) ?_
                      refine zcV (ci := 2) (q0 := 0) (As := [.int (iI (nxF NX (nxF NX c)))]) (rest := []) ⟨hx, hb, hml, hown, ht⟩ v_CS_111 (c_TB_categoryOf l g (q 1) (q 2) (q 3) (q 4) (nxF NX (nxF NX c)) (by omega)) ⟨Nat.le_of_ble_eq_true rfl, Nat.le_of_ble_eq_true rfl⟩ ⟨Nat.zero_le _, Nat.zero_le _⟩ hK hZ hS (cw_tb hP) rfl rfl rfl rfl hl.1 rfl (Nat.le_of_ble_eq_true rfl) d_CS_upperOf_63 (fun r_63 h_63 => ?_)
                      obtain ⟨i63, hi63, j1_63, j2_63, rfl⟩ := h_63
                      rw [cat_at hi63 j1_63 j2_63]
                      have q_63 := catF_bd (nxF NX (nxF NX c)) (by omega)
                      refine lv_bipush (v := iI 6) hx hb d_CS_upperOf_66 (by decide) ?_
                      refine ix_icmp_ne (tgt := 73) hx hb d_CS_upperOf_68 (by decide) (by omega) (fun c_68 => ?_) (fun c_68 => ?_)
                      · refine lv_iinc (v := iI 3) (lv' := [(4, .int (iI 3)), (5, .int (iI 1)), (3, .int (iI (nxF NX (nxF NX c)))), (2, .int (iI (nxF NX c))), (0, .ref (q 0)), (1, .int (iI c))]) hx hb d_CS_upperOf_73 hl (k := 2) rfl (iI_add _ _) (by decide) rfl (fun ls hl => ?_)
                        refine lv_goto (tgt := 21) hx hb d_CS_upperOf_76 (by decide) ?_
                        refine lv_iload hx hb d_CS_upperOf_21 (lv_at hl 0 rfl) ?_
                        refine lv_iconst (v := iI 3) hx hb d_CS_upperOf_23 rfl ?_
                        refine ix_icmp_ge (tgt := 79) hx hb d_CS_upperOf_24 (by decide) (by omega) (fun c_24 => ?_) (fun c_24 => ?_)
                        · refine lv_iload_n hx hb d_CS_upperOf_79 rfl (lv_at hl 3 rfl) ?_
                          subst hQ
                          exact W.iret (v := iI (nxF NX c)) hx hb hr (fun t h9 hW => ⟨_, rfl, by first | (exfalso; omega) | exact congrArg iI (by unfold upC uq; dsimp only; repeat (first | rw [if_pos (by omega)] | rw [if_neg (by omega)])), h9⟩) (fun _ h9 => by cases h9) d_CS_upperOf_80
                        · exact absurd c_24 (by decide)
                      · refine lv_iload_n hx hb d_CS_upperOf_71 rfl (lv_at hl 1 rfl) ?_
                        refine lv_istore_n (lv' := [(2, .int (iI (nxF NX (nxF NX c)))), (5, .int (iI 1)), (3, .int (iI (nxF NX (nxF NX c)))), (4, .int (iI 2)), (0, .ref (q 0)), (1, .int (iI c))]) hx hb d_CS_upperOf_72 rfl hl (by decide) rfl (fun ls hl => ?_)
                        refine lv_iinc (v := iI 3) (lv' := [(4, .int (iI 3)), (2, .int (iI (nxF NX (nxF NX c)))), (5, .int (iI 1)), (3, .int (iI (nxF NX (nxF NX c)))), (0, .ref (q 0)), (1, .int (iI c))]) hx hb d_CS_upperOf_73 hl (k := 3) rfl (iI_add _ _) (by decide) rfl (fun ls hl => ?_)
                        refine lv_goto (tgt := 21) hx hb d_CS_upperOf_76 (by decide) ?_
                        refine lv_iload hx hb d_CS_upperOf_21 (lv_at hl 0 rfl) ?_
                        refine lv_iconst (v := iI 3) hx hb d_CS_upperOf_23 rfl ?_
                        refine ix_icmp_ge (tgt := 79) hx hb d_CS_upperOf_24 (by decide) (by omega) (fun c_24 => ?_) (fun c_24 => ?_)
                        · refine lv_iload_n hx hb d_CS_upperOf_79 rfl (lv_at hl 1 rfl) ?_
                          subst hQ
                          exact W.iret (v := iI (nxF NX (nxF NX c))) hx hb hr (fun t h9 hW => ⟨_, rfl, by first | (exfalso; omega) | exact congrArg iI (by unfold upC uq; dsimp only; repeat (first | rw [if_pos (by omega)] | rw [if_neg (by omega)])), h9⟩) (fun _ h9 => by cases h9) d_CS_upperOf_80
                        · exact absurd c_24 (by decide)
  · refine lv_iload_n hx hb d_CS_upperOf_12 rfl (lv_at hl 1 rfl) ?_
    subst hQ
    exact W.iret (v := iI c) hx hb hr (fun t h9 hW => ⟨_, rfl, congrArg iI (by unfold upC; rw [if_neg (by omega)]), h9⟩) (fun _ h9 => by cases h9) d_CS_upperOf_13
set_option maxHeartbeats 4000000 in
set_option maxRecDepth 100000 in
theorem c_CS_lowerOf (l : Launch) (g : zG) (q : Nat → Nat) (u la : Int) (NX : Nat → Int) (n : Nat → Nat) (es : Nat → Nat → Int) (c : Int) (hc : 0 ≤ c ∧ c ≤ 1114111) (hNX : ∀ j, j < 1122 → 0 ≤ NX j ∧ NX j ≤ 1114111)  : Met l y_CS_lowerOf w_CS_lowerOf (zr 2 44) (zP g [.ref (q 0), .int (iI c)] (cw g q u la NX n es)) (vp_Si (fun z => z = iI (loC NX c))) 0 0 (fun _ => False) := by
  refine Met.ofW (cc := b_CS_lowerOf) (maxL := 5) (ret := (some .int)) (by decide) rfl ?_
  intro p e s m args below meth cd s₁ B hml hv
  obtain ⟨hargs, hP, hK, hZ⟩ := hv
  have hx := B.exec
  have hb := B.bytes
  have hr := B.returns
  have ht : ∀ w ∈ lw_ok, w.before args s = true := fun w h => atoms_spec (ws := w_CS_lowerOf) B.pre w (List.mem_cons_of_mem _ h)
  have hown : s.vm.findClass R_CS = some m.cls := findClass_of_methodNamed B.named
  have hlocks := B.notSynchronized
  have hS : va_S (fun _ => False) s.heap s.heap [] := va_S.rf
  generalize hQ : MQ below _ args s 0 0 _ = Q
  have hl := lv_entry ([.ref (q 0), .int (iI c)]) (n := 5) (Nat.le_of_ble_eq_true rfl)
  rw [show entryFrame m args 5 = entryFrame m ([.ref (q 0), .int (iI c)] : List Value).toArray 5 by rw [hargs], lg_entry_eq]
  generalize (lg_sl ([.ref (q 0), .int (iI c)]) ++ List.replicate (5 - (lg_sl ([.ref (q 0), .int (iI c)])).length) Slot.unset).toArray = ls at hl ⊢
  have hl : lv_has ls 5 [(0, .ref (q 0)), (1, .int (iI c))] := hl
  refine lv_aload_n hx hb d_CS_lowerOf_0 rfl (lv_at hl 0 rfl) ?_
  refine va_get (D := g.1) (ci := 0) (v := .ref (q 1)) (C := R_CS) (T := F_CS) (N := 6) hx hb ht i_CS hown hK hP 0 rfl rfl 2 (by decide) (ht _ k_103) (fun _ h9 => h9) rfl d_CS_lowerOf_1 ?_
  refine lv_iload_n hx hb d_CS_lowerOf_4 rfl (lv_at hl 1 rfl) ?_
  refine zcV (ci := 2) (q0 := 0) (As := [.int (iI c)]) (rest := []) ⟨hx, hb, hml, hown, ht⟩ v_CS_111 (c_TB_categoryOf l g (q 1) (q 2) (q 3) (q 4) c (by omega)) ⟨Nat.le_of_ble_eq_true rfl, Nat.le_of_ble_eq_true rfl⟩ ⟨Nat.zero_le _, Nat.zero_le _⟩ hK hZ hS (cw_tb hP) rfl rfl rfl rfl hl.1 rfl (Nat.le_of_ble_eq_true rfl) d_CS_lowerOf_5 (fun r_5 h_5 => ?_)
  obtain ⟨i5, hi5, j1_5, j2_5, rfl⟩ := h_5
  rw [cat_at hi5 j1_5 j2_5]
  have q_5 := catF_bd c (by omega)
  refine lv_bipush (v := iI 6) hx hb d_CS_lowerOf_8 (by decide) ?_
  refine ix_icmp_eq (tgt := 15) hx hb d_CS_lowerOf_10 (by decide) (by omega) (fun c_10 => ?_) (fun c_10 => ?_)
  · refine lv_iload_n hx hb d_CS_lowerOf_15 rfl (lv_at hl 1 rfl) ?_
    refine lv_istore_n (lv' := [(2, .int (iI c)), (0, .ref (q 0)), (1, .int (iI c))]) hx hb d_CS_lowerOf_16 rfl hl (by decide) rfl (fun ls hl => ?_)
    refine lv_iconst (v := iI 1) hx hb d_CS_lowerOf_17 rfl ?_
    refine lv_istore_n (lv' := [(3, .int (iI 1)), (2, .int (iI c)), (0, .ref (q 0)), (1, .int (iI c))]) hx hb d_CS_lowerOf_18 rfl hl (by decide) rfl (fun ls hl => ?_)
    refine lv_iload_n hx hb d_CS_lowerOf_19 rfl (lv_at hl 0 rfl) ?_
    refine lv_iconst (v := iI 3) hx hb d_CS_lowerOf_20 rfl ?_
    refine ix_icmp_ge (tgt := 86) hx hb d_CS_lowerOf_21 (by decide) (by omega) (fun c_21 => ?_) (fun c_21 => ?_)
    · exact absurd c_21 (by decide)
    · refine lv_aload_n hx hb d_CS_lowerOf_24 rfl (lv_at hl 2 rfl) ?_
      refine va_get (D := g.1) (ci := 0) (v := .ref (q 5)) (C := R_CS) (T := F_CS) (N := 6) hx hb ht i_CS hown hK hP 0 rfl rfl 3 (by decide) (ht _ k_104) (fun _ h9 => h9) rfl d_CS_lowerOf_25 ?_
      refine lv_iload_n hx hb d_CS_lowerOf_28 rfl (lv_at hl 1 rfl) ?_
      refine zcV (ci := 3) (q0 := 0) (As := [.int (iI c)]) (rest := []) ⟨hx, hb, hml, hown, ht⟩ v_CS_123 (c_CR_nextOf l g (q 5) (q 6) la NX c (by omega)) ⟨Nat.le_of_ble_eq_true rfl, Nat.le_of_ble_eq_true rfl⟩ ⟨Nat.zero_le _, Nat.zero_le _⟩ hK hZ hS (cw_rn hP) rfl rfl rfl rfl hl.1 rfl (Nat.le_of_ble_eq_true rfl) d_CS_lowerOf_29 (fun r_29 h_29 => ?_)
      subst h_29
      have b_29 := nxF_bd hNX (c := c) (by omega)
      refine lv_istore_n (lv' := [(2, .int (iI (nxF NX c))), (3, .int (iI 1)), (0, .ref (q 0)), (1, .int (iI c))]) hx hb d_CS_lowerOf_32 rfl hl (by decide) rfl (fun ls hl => ?_)
      refine lv_iload_n hx hb d_CS_lowerOf_33 rfl (lv_at hl 0 rfl) ?_
      refine lv_sipush (v := iI 383) hx hb d_CS_lowerOf_34 (by decide) ?_
      refine ix_icmp_eq (tgt := 54) hx hb d_CS_lowerOf_37 (by decide) (by omega) (fun c_37 => ?_) (fun c_37 => ?_)
      · refine lv_iconst (v := iI 1) hx hb d_CS_lowerOf_54 rfl ?_
        refine lv_goto (tgt := 59) hx hb d_CS_lowerOf_55 (by decide) ?_
        refine lv_istore (lv' := [(4, .int (iI 1)), (2, .int (iI (nxF NX c))), (3, .int (iI 1)), (0, .ref (q 0)), (1, .int (iI c))]) hx hb d_CS_lowerOf_59 hl (by decide) rfl (fun ls hl => ?_)
        refine lv_iload hx hb d_CS_lowerOf_61 (lv_at hl 0 rfl) ?_
        refine ix_if_ne (tgt := 80) hx hb d_CS_lowerOf_63 (by decide) (by omega) (fun c_63 => ?_) (fun c_63 => ?_)
        · refine lv_iinc (v := iI 2) (lv' := [(3, .int (iI 2)), (4, .int (iI 1)), (2, .int (iI (nxF NX c))), (0, .ref (q 0)), (1, .int (iI c))]) hx hb d_CS_lowerOf_80 hl (k := 2) rfl (iI_add _ _) (by decide) rfl (fun ls hl => ?_)
          refine lv_goto (tgt := 19) hx hb d_CS_lowerOf_83 (by decide) ?_
          refine lv_iload_n hx hb d_CS_lowerOf_19 rfl (lv_at hl 0 rfl) ?_
          refine lv_iconst (v := iI 3) hx hb d_CS_lowerOf_20 rfl ?_
          refine ix_icmp_ge (tgt := 86) hx hb d_CS_lowerOf_21 (by decide) (by omega) (fun c_21 => ?_) (fun c_21 => ?_)
          · exact absurd c_21 (by decide)
          · refine lv_aload_n hx hb d_CS_lowerOf_24 rfl (lv_at hl 3 rfl) ?_
            refine va_get (D := g.1) (ci := 0) (v := .ref (q 5)) (C := R_CS) (T := F_CS) (N := 6) hx hb ht i_CS hown hK hP 0 rfl rfl 3 (by decide) (ht _ k_104) (fun _ h9 => h9) rfl d_CS_lowerOf_25 ?_
            refine lv_iload_n hx hb d_CS_lowerOf_28 rfl (lv_at hl 2 rfl) ?_
            refine zcV (ci := 3) (q0 := 0) (As := [.int (iI (nxF NX c))]) (rest := []) ⟨hx, hb, hml, hown, ht⟩ v_CS_123 (c_CR_nextOf l g (q 5) (q 6) la NX (nxF NX c) (by omega)) ⟨Nat.le_of_ble_eq_true rfl, Nat.le_of_ble_eq_true rfl⟩ ⟨Nat.zero_le _, Nat.zero_le _⟩ hK hZ hS (cw_rn hP) rfl rfl rfl rfl hl.1 rfl (Nat.le_of_ble_eq_true rfl) d_CS_lowerOf_29 (fun r_29 h_29 => ?_)
            subst h_29
            have b_29 := nxF_bd hNX (c := (nxF NX c)) (by omega)
            refine lv_istore_n (lv' := [(2, .int (iI (nxF NX (nxF NX c)))), (3, .int (iI 2)), (4, .int (iI 1)), (0, .ref (q 0)), (1, .int (iI c))]) hx hb d_CS_lowerOf_32 rfl hl (by decide) rfl (fun ls hl => ?_)
            refine lv_iload_n hx hb d_CS_lowerOf_33 rfl (lv_at hl 0 rfl) ?_
            refine lv_sipush (v := iI 383) hx hb d_CS_lowerOf_34 (by decide) ?_
            refine ix_icmp_eq (tgt := 54) hx hb d_CS_lowerOf_37 (by decide) (by omega) (fun c_37 => ?_) (fun c_37 => ?_)
            · refine lv_iconst (v := iI 1) hx hb d_CS_lowerOf_54 rfl ?_
              refine lv_goto (tgt := 59) hx hb d_CS_lowerOf_55 (by decide) ?_
              refine lv_istore (lv' := [(4, .int (iI 1)), (2, .int (iI (nxF NX (nxF NX c)))), (3, .int (iI 2)), (0, .ref (q 0)), (1, .int (iI c))]) hx hb d_CS_lowerOf_59 hl (by decide) rfl (fun ls hl => ?_)
              refine lv_iload hx hb d_CS_lowerOf_61 (lv_at hl 0 rfl) ?_
              refine ix_if_ne (tgt := 80) hx hb d_CS_lowerOf_63 (by decide) (by omega) (fun c_63 => ?_) (fun c_63 => ?_)
              · refine lv_iinc (v := iI 3) (lv' := [(3, .int (iI 3)), (4, .int (iI 1)), (2, .int (iI (nxF NX (nxF NX c)))), (0, .ref (q 0)), (1, .int (iI c))]) hx hb d_CS_lowerOf_80 hl (k := 2) rfl (iI_add _ _) (by decide) rfl (fun ls hl => ?_)
                refine lv_goto (tgt := 19) hx hb d_CS_lowerOf_83 (by decide) ?_
                refine lv_iload_n hx hb d_CS_lowerOf_19 rfl (lv_at hl 0 rfl) ?_
                refine lv_iconst (v := iI 3) hx hb d_CS_lowerOf_20 rfl ?_
                refine ix_icmp_ge (tgt := 86) hx hb d_CS_lowerOf_21 (by decide) (by omega) (fun c_21 => ?_) (fun c_21 => ?_)
                · refine lv_iload_n hx hb d_CS_lowerOf_86 rfl (lv_at hl 4 rfl) ?_
                  subst hQ
                  exact W.iret (v := iI c) hx hb hr (fun t h9 hW => ⟨_, rfl, by first | (exfalso; omega) | exact congrArg iI (by unfold loC; repeat (first | rw [if_pos (by omega)] | rw [if_neg (by omega)])), h9⟩) (fun _ h9 => by cases h9) d_CS_lowerOf_87
                · exact absurd c_21 (by decide)
              · exact absurd c_63 (by decide)
            · refine lv_iload_n hx hb d_CS_lowerOf_40 rfl (lv_at hl 0 rfl) ?_
              refine lv_sipush (v := iI 181) hx hb d_CS_lowerOf_41 (by decide) ?_
              refine ix_icmp_eq (tgt := 54) hx hb d_CS_lowerOf_44 (by decide) (by omega) (fun c_44 => ?_) (fun c_44 => ?_)
              · refine lv_iconst (v := iI 1) hx hb d_CS_lowerOf_54 rfl ?_
                refine lv_goto (tgt := 59) hx hb d_CS_lowerOf_55 (by decide) ?_
                refine lv_istore (lv' := [(4, .int (iI 1)), (2, .int (iI (nxF NX (nxF NX c)))), (3, .int (iI 2)), (0, .ref (q 0)), (1, .int (iI c))]) hx hb d_CS_lowerOf_59 hl (by decide) rfl (fun ls hl => ?_)
                refine lv_iload hx hb d_CS_lowerOf_61 (lv_at hl 0 rfl) ?_
                refine ix_if_ne (tgt := 80) hx hb d_CS_lowerOf_63 (by decide) (by omega) (fun c_63 => ?_) (fun c_63 => ?_)
                · refine lv_iinc (v := iI 3) (lv' := [(3, .int (iI 3)), (4, .int (iI 1)), (2, .int (iI (nxF NX (nxF NX c)))), (0, .ref (q 0)), (1, .int (iI c))]) hx hb d_CS_lowerOf_80 hl (k := 2) rfl (iI_add _ _) (by decide) rfl (fun ls hl => ?_)
                  refine lv_goto (tgt := 19) hx hb d_CS_lowerOf_83 (by decide) ?_
                  refine lv_iload_n hx hb d_CS_lowerOf_19 rfl (lv_at hl 0 rfl) ?_
                  refine lv_iconst (v := iI 3) hx hb d_CS_lowerOf_20 rfl ?_
                  refine ix_icmp_ge (tgt := 86) hx hb d_CS_lowerOf_21 (by decide) (by omega) (fun c_21 => ?_) (fun c_21 => ?_)
                  · refine lv_iload_n hx hb d_CS_lowerOf_86 rfl (lv_at hl 4 rfl) ?_
                    subst hQ
                    exact W.iret (v := iI c) hx hb hr (fun t h9 hW => ⟨_, rfl, by first | (exfalso; omega) | exact congrArg iI (by unfold loC; repeat (first | rw [if_pos (by omega)] | rw [if_neg (by omega)])), h9⟩) (fun _ h9 => by cases h9) d_CS_lowerOf_87
                  · exact absurd c_21 (by decide)
                · exact absurd c_63 (by decide)
              · refine lv_iload_n hx hb d_CS_lowerOf_47 rfl (lv_at hl 0 rfl) ?_
                refine lv_sipush (v := iI 962) hx hb d_CS_lowerOf_48 (by decide) ?_
                refine ix_icmp_ne (tgt := 58) hx hb d_CS_lowerOf_51 (by decide) (by omega) (fun c_51 => ?_) (fun c_51 => ?_)
                · refine lv_iconst (v := iI 0) hx hb d_CS_lowerOf_58 rfl ?_
                  refine lv_istore (lv' := [(4, .int (iI 0)), (2, .int (iI (nxF NX (nxF NX c)))), (3, .int (iI 2)), (0, .ref (q 0)), (1, .int (iI c))]) hx hb d_CS_lowerOf_59 hl (by decide) rfl (fun ls hl => ?_)
                  refine lv_iload hx hb d_CS_lowerOf_61 (lv_at hl 0 rfl) ?_
                  refine ix_if_ne (tgt := 80) hx hb d_CS_lowerOf_63 (by decide) (by omega) (fun c_63 => ?_) (fun c_63 => ?_)
                  · exact absurd c_63 (by decide)
                  · refine lv_aload_n hx hb d_CS_lowerOf_66 rfl (lv_at hl 3 rfl) ?_
                    refine va_get (D := g.1) (ci := 0) (v := .ref (q 1)) (C := R_CS) (T := F_CS) (N := 6) hx hb ht i_CS hown hK hP 0 rfl rfl 2 (by decide) (ht _ k_103) (fun _ h9 => h9) rfl d_CS_lowerOf_67 ?_
                    refine lv_iload_n hx hb d_CS_lowerOf_70 rfl (lv_at hl 1 rfl) ?_
                    refine zcV (ci := 2) (q0 := 0) (As := [.int (iI (nxF NX (nxF NX c)))]) (rest := []) ⟨hx, hb, hml, hown, ht⟩ v_CS_111 (c_TB_categoryOf l g (q 1) (q 2) (q 3) (q 4) (nxF NX (nxF NX c)) (by omega)) ⟨Nat.le_of_ble_eq_true rfl, Nat.le_of_ble_eq_true rfl⟩ ⟨Nat.zero_le _, Nat.zero_le _⟩ hK hZ hS (cw_tb hP) rfl rfl rfl rfl hl.1 rfl (Nat.le_of_ble_eq_true rfl) d_CS_lowerOf_71 (fun r_71 h_71 => ?_)
                    obtain ⟨i71, hi71, j1_71, j2_71, rfl⟩ := h_71
                    rw [cat_at hi71 j1_71 j2_71]
                    have q_71 := catF_bd (nxF NX (nxF NX c)) (by omega)
                    refine lv_iconst (v := iI 4) hx hb d_CS_lowerOf_74 rfl ?_
                    refine ix_icmp_ne (tgt := 80) hx hb d_CS_lowerOf_75 (by decide) (by omega) (fun c_75 => ?_) (fun c_75 => ?_)
                    · refine lv_iinc (v := iI 3) (lv' := [(3, .int (iI 3)), (4, .int (iI 0)), (2, .int (iI (nxF NX (nxF NX c)))), (0, .ref (q 0)), (1, .int (iI c))]) hx hb d_CS_lowerOf_80 hl (k := 2) rfl (iI_add _ _) (by decide) rfl (fun ls hl => ?_)
                      refine lv_goto (tgt := 19) hx hb d_CS_lowerOf_83 (by decide) ?_
                      refine lv_iload_n hx hb d_CS_lowerOf_19 rfl (lv_at hl 0 rfl) ?_
                      refine lv_iconst (v := iI 3) hx hb d_CS_lowerOf_20 rfl ?_
                      refine ix_icmp_ge (tgt := 86) hx hb d_CS_lowerOf_21 (by decide) (by omega) (fun c_21 => ?_) (fun c_21 => ?_)
                      · refine lv_iload_n hx hb d_CS_lowerOf_86 rfl (lv_at hl 4 rfl) ?_
                        subst hQ
                        exact W.iret (v := iI c) hx hb hr (fun t h9 hW => ⟨_, rfl, by first | (exfalso; omega) | exact congrArg iI (by unfold loC; repeat (first | rw [if_pos (by omega)] | rw [if_neg (by omega)])), h9⟩) (fun _ h9 => by cases h9) d_CS_lowerOf_87
                      · exact absurd c_21 (by decide)
                    · refine lv_iload_n hx hb d_CS_lowerOf_78 rfl (lv_at hl 1 rfl) ?_
                      subst hQ
                      exact W.iret (v := iI (nxF NX (nxF NX c))) hx hb hr (fun t h9 hW => ⟨_, rfl, by first | (exfalso; omega) | exact congrArg iI (by unfold loC; repeat (first | rw [if_pos (by omega)] | rw [if_neg (by omega)])), h9⟩) (fun _ h9 => by cases h9) d_CS_lowerOf_79
                · refine lv_iconst (v := iI 1) hx hb d_CS_lowerOf_54 rfl ?_
                  refine lv_goto (tgt := 59) hx hb d_CS_lowerOf_55 (by decide) ?_
                  refine lv_istore (lv' := [(4, .int (iI 1)), (2, .int (iI (nxF NX (nxF NX c)))), (3, .int (iI 2)), (0, .ref (q 0)), (1, .int (iI c))]) hx hb d_CS_lowerOf_59 hl (by decide) rfl (fun ls hl => ?_)
                  refine lv_iload hx hb d_CS_lowerOf_61 (lv_at hl 0 rfl) ?_
                  refine ix_if_ne (tgt := 80) hx hb d_CS_lowerOf_63 (by decide) (by omega) (fun c_63 => ?_) (fun c_63 => ?_)
                  · refine lv_iinc (v := iI 3) (lv' := [(3, .int (iI 3)), (4, .int (iI 1)), (2, .int (iI (nxF NX (nxF NX c)))), (0, .ref (q 0)), (1, .int (iI c))]) hx hb d_CS_lowerOf_80 hl (k := 2) rfl (iI_add _ _) (by decide) rfl (fun ls hl => ?_)
                    refine lv_goto (tgt := 19) hx hb d_CS_lowerOf_83 (by decide) ?_
                    refine lv_iload_n hx hb d_CS_lowerOf_19 rfl (lv_at hl 0 rfl) ?_
                    refine lv_iconst (v := iI 3) hx hb d_CS_lowerOf_20 rfl ?_
                    refine ix_icmp_ge (tgt := 86) hx hb d_CS_lowerOf_21 (by decide) (by omega) (fun c_21 => ?_) (fun c_21 => ?_)
                    · refine lv_iload_n hx hb d_CS_lowerOf_86 rfl (lv_at hl 4 rfl) ?_
                      subst hQ
                      exact W.iret (v := iI c) hx hb hr (fun t h9 hW => ⟨_, rfl, by first | (exfalso; omega) | exact congrArg iI (by unfold loC; repeat (first | rw [if_pos (by omega)] | rw [if_neg (by omega)])), h9⟩) (fun _ h9 => by cases h9) d_CS_lowerOf_87
                    · exact absurd c_21 (by decide)
                  · exact absurd c_63 (by decide)
        · exact absurd c_63 (by decide)
      · refine lv_iload_n hx hb d_CS_lowerOf_40 rfl (lv_at hl 0 rfl) ?_
        refine lv_sipush (v := iI 181) hx hb d_CS_lowerOf_41 (by decide) ?_
        refine ix_icmp_eq (tgt := 54) hx hb d_CS_lowerOf_44 (by decide) (by omega) (fun c_44 => ?_) (fun c_44 => ?_)
        · refine lv_iconst (v := iI 1) hx hb d_CS_lowerOf_54 rfl ?_
          refine lv_goto (tgt := 59) hx hb d_CS_lowerOf_55 (by decide) ?_
          refine lv_istore (lv' := [(4, .int (iI 1)), (2, .int (iI (nxF NX c))), (3, .int (iI 1)), (0, .ref (q 0)), (1, .int (iI c))]) hx hb d_CS_lowerOf_59 hl (by decide) rfl (fun ls hl => ?_)
          refine lv_iload hx hb d_CS_lowerOf_61 (lv_at hl 0 rfl) ?_
          refine ix_if_ne (tgt := 80) hx hb d_CS_lowerOf_63 (by decide) (by omega) (fun c_63 => ?_) (fun c_63 => ?_)
          · refine lv_iinc (v := iI 2) (lv' := [(3, .int (iI 2)), (4, .int (iI 1)), (2, .int (iI (nxF NX c))), (0, .ref (q 0)), (1, .int (iI c))]) hx hb d_CS_lowerOf_80 hl (k := 2) rfl (iI_add _ _) (by decide) rfl (fun ls hl => ?_)
            refine lv_goto (tgt := 19) hx hb d_CS_lowerOf_83 (by decide) ?_
            refine lv_iload_n hx hb d_CS_lowerOf_19 rfl (lv_at hl 0 rfl) ?_
            refine lv_iconst (v := iI 3) hx hb d_CS_lowerOf_20 rfl ?_
            refine ix_icmp_ge (tgt := 86) hx hb d_CS_lowerOf_21 (by decide) (by omega) (fun c_21 => ?_) (fun c_21 => ?_)
            · exact absurd c_21 (by decide)
            · refine lv_aload_n hx hb d_CS_lowerOf_24 rfl (lv_at hl 3 rfl) ?_
              refine va_get (D := g.1) (ci := 0) (v := .ref (q 5)) (C := R_CS) (T := F_CS) (N := 6) hx hb ht i_CS hown hK hP 0 rfl rfl 3 (by decide) (ht _ k_104) (fun _ h9 => h9) rfl d_CS_lowerOf_25 ?_
              refine lv_iload_n hx hb d_CS_lowerOf_28 rfl (lv_at hl 2 rfl) ?_
              refine zcV (ci := 3) (q0 := 0) (As := [.int (iI (nxF NX c))]) (rest := []) ⟨hx, hb, hml, hown, ht⟩ v_CS_123 (c_CR_nextOf l g (q 5) (q 6) la NX (nxF NX c) (by omega)) ⟨Nat.le_of_ble_eq_true rfl, Nat.le_of_ble_eq_true rfl⟩ ⟨Nat.zero_le _, Nat.zero_le _⟩ hK hZ hS (cw_rn hP) rfl rfl rfl rfl hl.1 rfl (Nat.le_of_ble_eq_true rfl) d_CS_lowerOf_29 (fun r_29 h_29 => ?_)
              subst h_29
              have b_29 := nxF_bd hNX (c := (nxF NX c)) (by omega)
              refine lv_istore_n (lv' := [(2, .int (iI (nxF NX (nxF NX c)))), (3, .int (iI 2)), (4, .int (iI 1)), (0, .ref (q 0)), (1, .int (iI c))]) hx hb d_CS_lowerOf_32 rfl hl (by decide) rfl (fun ls hl => ?_)
              refine lv_iload_n hx hb d_CS_lowerOf_33 rfl (lv_at hl 0 rfl) ?_
              refine lv_sipush (v := iI 383) hx hb d_CS_lowerOf_34 (by decide) ?_
              refine ix_icmp_eq (tgt := 54) hx hb d_CS_lowerOf_37 (by decide) (by omega) (fun c_37 => ?_) (fun c_37 => ?_)
              · refine lv_iconst (v := iI 1) hx hb d_CS_lowerOf_54 rfl ?_
                refine lv_goto (tgt := 59) hx hb d_CS_lowerOf_55 (by decide) ?_
                refine lv_istore (lv' := [(4, .int (iI 1)), (2, .int (iI (nxF NX (nxF NX c)))), (3, .int (iI 2)), (0, .ref (q 0)), (1, .int (iI c))]) hx hb d_CS_lowerOf_59 hl (by decide) rfl (fun ls hl => ?_)
                refine lv_iload hx hb d_CS_lowerOf_61 (lv_at hl 0 rfl) ?_
                refine ix_if_ne (tgt := 80) hx hb d_CS_lowerOf_63 (by decide) (by omega) (fun c_63 => ?_) (fun c_63 => ?_)
                · refine lv_iinc (v := iI 3) (lv' := [(3, .int (iI 3)), (4, .int (iI 1)), (2, .int (iI (nxF NX (nxF NX c)))), (0, .ref (q 0)), (1, .int (iI c))]) hx hb d_CS_lowerOf_80 hl (k := 2) rfl (iI_add _ _) (by decide) rfl (fun ls hl => ?_)
                  refine lv_goto (tgt := 19) hx hb d_CS_lowerOf_83 (by decide) ?_
                  refine lv_iload_n hx hb d_CS_lowerOf_19 rfl (lv_at hl 0 rfl) ?_
                  refine lv_iconst (v := iI 3) hx hb d_CS_lowerOf_20 rfl ?_
                  refine ix_icmp_ge (tgt := 86) hx hb d_CS_lowerOf_21 (by decide) (by omega) (fun c_21 => ?_) (fun c_21 => ?_)
                  · refine lv_iload_n hx hb d_CS_lowerOf_86 rfl (lv_at hl 4 rfl) ?_
                    subst hQ
                    exact W.iret (v := iI c) hx hb hr (fun t h9 hW => ⟨_, rfl, by first | (exfalso; omega) | exact congrArg iI (by unfold loC; repeat (first | rw [if_pos (by omega)] | rw [if_neg (by omega)])), h9⟩) (fun _ h9 => by cases h9) d_CS_lowerOf_87
                  · exact absurd c_21 (by decide)
                · exact absurd c_63 (by decide)
              · refine lv_iload_n hx hb d_CS_lowerOf_40 rfl (lv_at hl 0 rfl) ?_
                refine lv_sipush (v := iI 181) hx hb d_CS_lowerOf_41 (by decide) ?_
                refine ix_icmp_eq (tgt := 54) hx hb d_CS_lowerOf_44 (by decide) (by omega) (fun c_44 => ?_) (fun c_44 => ?_)
                · refine lv_iconst (v := iI 1) hx hb d_CS_lowerOf_54 rfl ?_
                  refine lv_goto (tgt := 59) hx hb d_CS_lowerOf_55 (by decide) ?_
                  refine lv_istore (lv' := [(4, .int (iI 1)), (2, .int (iI (nxF NX (nxF NX c)))), (3, .int (iI 2)), (0, .ref (q 0)), (1, .int (iI c))]) hx hb d_CS_lowerOf_59 hl (by decide) rfl (fun ls hl => ?_)
                  refine lv_iload hx hb d_CS_lowerOf_61 (lv_at hl 0 rfl) ?_
                  refine ix_if_ne (tgt := 80) hx hb d_CS_lowerOf_63 (by decide) (by omega) (fun c_63 => ?_) (fun c_63 => ?_)
                  · refine lv_iinc (v := iI 3) (lv' := [(3, .int (iI 3)), (4, .int (iI 1)), (2, .int (iI (nxF NX (nxF NX c)))), (0, .ref (q 0)), (1, .int (iI c))]) hx hb d_CS_lowerOf_80 hl (k := 2) rfl (iI_add _ _) (by decide) rfl (fun ls hl => ?_)
                    refine lv_goto (tgt := 19) hx hb d_CS_lowerOf_83 (by decide) ?_
                    refine lv_iload_n hx hb d_CS_lowerOf_19 rfl (lv_at hl 0 rfl) ?_
                    refine lv_iconst (v := iI 3) hx hb d_CS_lowerOf_20 rfl ?_
                    refine ix_icmp_ge (tgt := 86) hx hb d_CS_lowerOf_21 (by decide) (by omega) (fun c_21 => ?_) (fun c_21 => ?_)
                    · refine lv_iload_n hx hb d_CS_lowerOf_86 rfl (lv_at hl 4 rfl) ?_
                      subst hQ
                      exact W.iret (v := iI c) hx hb hr (fun t h9 hW => ⟨_, rfl, by first | (exfalso; omega) | exact congrArg iI (by unfold loC; repeat (first | rw [if_pos (by omega)] | rw [if_neg (by omega)])), h9⟩) (fun _ h9 => by cases h9) d_CS_lowerOf_87
                    · exact absurd c_21 (by decide)
                  · exact absurd c_63 (by decide)
                · refine lv_iload_n hx hb d_CS_lowerOf_47 rfl (lv_at hl 0 rfl) ?_
                  refine lv_sipush (v := iI 962) hx hb d_CS_lowerOf_48 (by decide) ?_
                  refine ix_icmp_ne (tgt := 58) hx hb d_CS_lowerOf_51 (by decide) (by omega) (fun c_51 => ?_) (fun c_51 => ?_)
                  · refine lv_iconst (v := iI 0) hx hb d_CS_lowerOf_58 rfl ?_
                    refine lv_istore (lv' := [(4, .int (iI 0)), (2, .int (iI (nxF NX (nxF NX c)))), (3, .int (iI 2)), (0, .ref (q 0)), (1, .int (iI c))]) hx hb d_CS_lowerOf_59 hl (by decide) rfl (fun ls hl => ?_)
                    refine lv_iload hx hb d_CS_lowerOf_61 (lv_at hl 0 rfl) ?_
                    refine ix_if_ne (tgt := 80) hx hb d_CS_lowerOf_63 (by decide) (by omega) (fun c_63 => ?_) (fun c_63 => ?_)
                    · exact absurd c_63 (by decide)
                    · refine lv_aload_n hx hb d_CS_lowerOf_66 rfl (lv_at hl 3 rfl) ?_
                      refine va_get (D := g.1) (ci := 0) (v := .ref (q 1)) (C := R_CS) (T := F_CS) (N := 6) hx hb ht i_CS hown hK hP 0 rfl rfl 2 (by decide) (ht _ k_103) (fun _ h9 => h9) rfl d_CS_lowerOf_67 ?_
                      refine lv_iload_n hx hb d_CS_lowerOf_70 rfl (lv_at hl 1 rfl) ?_
                      refine zcV (ci := 2) (q0 := 0) (As := [.int (iI (nxF NX (nxF NX c)))]) (rest := []) ⟨hx, hb, hml, hown, ht⟩ v_CS_111 (c_TB_categoryOf l g (q 1) (q 2) (q 3) (q 4) (nxF NX (nxF NX c)) (by omega)) ⟨Nat.le_of_ble_eq_true rfl, Nat.le_of_ble_eq_true rfl⟩ ⟨Nat.zero_le _, Nat.zero_le _⟩ hK hZ hS (cw_tb hP) rfl rfl rfl rfl hl.1 rfl (Nat.le_of_ble_eq_true rfl) d_CS_lowerOf_71 (fun r_71 h_71 => ?_)
                      obtain ⟨i71, hi71, j1_71, j2_71, rfl⟩ := h_71
                      rw [cat_at hi71 j1_71 j2_71]
                      have q_71 := catF_bd (nxF NX (nxF NX c)) (by omega)
                      refine lv_iconst (v := iI 4) hx hb d_CS_lowerOf_74 rfl ?_
                      refine ix_icmp_ne (tgt := 80) hx hb d_CS_lowerOf_75 (by decide) (by omega) (fun c_75 => ?_) (fun c_75 => ?_)
                      · refine lv_iinc (v := iI 3) (lv' := [(3, .int (iI 3)), (4, .int (iI 0)), (2, .int (iI (nxF NX (nxF NX c)))), (0, .ref (q 0)), (1, .int (iI c))]) hx hb d_CS_lowerOf_80 hl (k := 2) rfl (iI_add _ _) (by decide) rfl (fun ls hl => ?_)
                        refine lv_goto (tgt := 19) hx hb d_CS_lowerOf_83 (by decide) ?_
                        refine lv_iload_n hx hb d_CS_lowerOf_19 rfl (lv_at hl 0 rfl) ?_
                        refine lv_iconst (v := iI 3) hx hb d_CS_lowerOf_20 rfl ?_
                        refine ix_icmp_ge (tgt := 86) hx hb d_CS_lowerOf_21 (by decide) (by omega) (fun c_21 => ?_) (fun c_21 => ?_)
                        · refine lv_iload_n hx hb d_CS_lowerOf_86 rfl (lv_at hl 4 rfl) ?_
                          subst hQ
                          exact W.iret (v := iI c) hx hb hr (fun t h9 hW => ⟨_, rfl, by first | (exfalso; omega) | exact congrArg iI (by unfold loC; repeat (first | rw [if_pos (by omega)] | rw [if_neg (by omega)])), h9⟩) (fun _ h9 => by cases h9) d_CS_lowerOf_87
                        · exact absurd c_21 (by decide)
                      · refine lv_iload_n hx hb d_CS_lowerOf_78 rfl (lv_at hl 1 rfl) ?_
                        subst hQ
                        exact W.iret (v := iI (nxF NX (nxF NX c))) hx hb hr (fun t h9 hW => ⟨_, rfl, by first | (exfalso; omega) | exact congrArg iI (by unfold loC; repeat (first | rw [if_pos (by omega)] | rw [if_neg (by omega)])), h9⟩) (fun _ h9 => by cases h9) d_CS_lowerOf_79
                  · refine lv_iconst (v := iI 1) hx hb d_CS_lowerOf_54 rfl ?_
                    refine lv_goto (tgt := 59) hx hb d_CS_lowerOf_55 (by decide) ?_
                    refine lv_istore (lv' := [(4, .int (iI 1)), (2, .int (iI (nxF NX (nxF NX c)))), (3, .int (iI 2)), (0, .ref (q 0)), (1, .int (iI c))]) hx hb d_CS_lowerOf_59 hl (by decide) rfl (fun ls hl => ?_)
                    refine lv_iload hx hb d_CS_lowerOf_61 (lv_at hl 0 rfl) ?_
                    refine ix_if_ne (tgt := 80) hx hb d_CS_lowerOf_63 (by decide) (by omega) (fun c_63 => ?_) (fun c_63 => ?_)
                    · refine lv_iinc (v := iI 3) (lv' := [(3, .int (iI 3)), (4, .int (iI 1)), (2, .int (iI (nxF NX (nxF NX c)))), (0, .ref (q 0)), (1, .int (iI c))]) hx hb d_CS_lowerOf_80 hl (k := 2) rfl (iI_add _ _) (by decide) rfl (fun ls hl => ?_)
                      refine lv_goto (tgt := 19) hx hb d_CS_lowerOf_83 (by decide) ?_
                      refine lv_iload_n hx hb d_CS_lowerOf_19 rfl (lv_at hl 0 rfl) ?_
                      refine lv_iconst (v := iI 3) hx hb d_CS_lowerOf_20 rfl ?_
                      refine ix_icmp_ge (tgt := 86) hx hb d_CS_lowerOf_21 (by decide) (by omega) (fun c_21 => ?_) (fun c_21 => ?_)
                      · refine lv_iload_n hx hb d_CS_lowerOf_86 rfl (lv_at hl 4 rfl) ?_
                        subst hQ
                        exact W.iret (v := iI c) hx hb hr (fun t h9 hW => ⟨_, rfl, by first | (exfalso; omega) | exact congrArg iI (by unfold loC; repeat (first | rw [if_pos (by omega)] | rw [if_neg (by omega)])), h9⟩) (fun _ h9 => by cases h9) d_CS_lowerOf_87
                      · exact absurd c_21 (by decide)
                    · exact absurd c_63 (by decide)
          · exact absurd c_63 (by decide)
        · refine lv_iload_n hx hb d_CS_lowerOf_47 rfl (lv_at hl 0 rfl) ?_
          refine lv_sipush (v := iI 962) hx hb d_CS_lowerOf_48 (by decide) ?_
          refine ix_icmp_ne (tgt := 58) hx hb d_CS_lowerOf_51 (by decide) (by omega) (fun c_51 => ?_) (fun c_51 => ?_)
          · refine lv_iconst (v := iI 0) hx hb d_CS_lowerOf_58 rfl ?_
            refine lv_istore (lv' := [(4, .int (iI 0)), (2, .int (iI (nxF NX c))), (3, .int (iI 1)), (0, .ref (q 0)), (1, .int (iI c))]) hx hb d_CS_lowerOf_59 hl (by decide) rfl (fun ls hl => ?_)
            refine lv_iload hx hb d_CS_lowerOf_61 (lv_at hl 0 rfl) ?_
            refine ix_if_ne (tgt := 80) hx hb d_CS_lowerOf_63 (by decide) (by omega) (fun c_63 => ?_) (fun c_63 => ?_)
            · exact absurd c_63 (by decide)
            · refine lv_aload_n hx hb d_CS_lowerOf_66 rfl (lv_at hl 3 rfl) ?_
              refine va_get (D := g.1) (ci := 0) (v := .ref (q 1)) (C := R_CS) (T := F_CS) (N := 6) hx hb ht i_CS hown hK hP 0 rfl rfl 2 (by decide) (ht _ k_103) (fun _ h9 => h9) rfl d_CS_lowerOf_67 ?_
              refine lv_iload_n hx hb d_CS_lowerOf_70 rfl (lv_at hl 1 rfl) ?_
              refine zcV (ci := 2) (q0 := 0) (As := [.int (iI (nxF NX c))]) (rest := []) ⟨hx, hb, hml, hown, ht⟩ v_CS_111 (c_TB_categoryOf l g (q 1) (q 2) (q 3) (q 4) (nxF NX c) (by omega)) ⟨Nat.le_of_ble_eq_true rfl, Nat.le_of_ble_eq_true rfl⟩ ⟨Nat.zero_le _, Nat.zero_le _⟩ hK hZ hS (cw_tb hP) rfl rfl rfl rfl hl.1 rfl (Nat.le_of_ble_eq_true rfl) d_CS_lowerOf_71 (fun r_71 h_71 => ?_)
              obtain ⟨i71, hi71, j1_71, j2_71, rfl⟩ := h_71
              rw [cat_at hi71 j1_71 j2_71]
              have q_71 := catF_bd (nxF NX c) (by omega)
              refine lv_iconst (v := iI 4) hx hb d_CS_lowerOf_74 rfl ?_
              refine ix_icmp_ne (tgt := 80) hx hb d_CS_lowerOf_75 (by decide) (by omega) (fun c_75 => ?_) (fun c_75 => ?_)
              · refine lv_iinc (v := iI 2) (lv' := [(3, .int (iI 2)), (4, .int (iI 0)), (2, .int (iI (nxF NX c))), (0, .ref (q 0)), (1, .int (iI c))]) hx hb d_CS_lowerOf_80 hl (k := 2) rfl (iI_add _ _) (by decide) rfl (fun ls hl => ?_)
                refine lv_goto (tgt := 19) hx hb d_CS_lowerOf_83 (by decide) ?_
                refine lv_iload_n hx hb d_CS_lowerOf_19 rfl (lv_at hl 0 rfl) ?_
                refine lv_iconst (v := iI 3) hx hb d_CS_lowerOf_20 rfl ?_
                refine ix_icmp_ge (tgt := 86) hx hb d_CS_lowerOf_21 (by decide) (by omega) (fun c_21 => ?_) (fun c_21 => ?_)
                · exact absurd c_21 (by decide)
                · refine lv_aload_n hx hb d_CS_lowerOf_24 rfl (lv_at hl 3 rfl) ?_
                  refine va_get (D := g.1) (ci := 0) (v := .ref (q 5)) (C := R_CS) (T := F_CS) (N := 6) hx hb ht i_CS hown hK hP 0 rfl rfl 3 (by decide) (ht _ k_104) (fun _ h9 => h9) rfl d_CS_lowerOf_25 ?_
                  refine lv_iload_n hx hb d_CS_lowerOf_28 rfl (lv_at hl 2 rfl) ?_
                  refine zcV (ci := 3) (q0 := 0) (As := [.int (iI (nxF NX c))]) (rest := []) ⟨hx, hb, hml, hown, ht⟩ v_CS_123 (c_CR_nextOf l g (q 5) (q 6) la NX (nxF NX c) (by omega)) ⟨Nat.le_of_ble_eq_true rfl, Nat.le_of_ble_eq_true rfl⟩ ⟨Nat.zero_le _, Nat.zero_le _⟩ hK hZ hS (cw_rn hP) rfl rfl rfl rfl hl.1 rfl (Nat.le_of_ble_eq_true rfl) d_CS_lowerOf_29 (fun r_29 h_29 => ?_)
                  subst h_29
                  have b_29 := nxF_bd hNX (c := (nxF NX c)) (by omega)
                  refine lv_istore_n (lv' := [(2, .int (iI (nxF NX (nxF NX c)))), (3, .int (iI 2)), (4, .int (iI 0)), (0, .ref (q 0)), (1, .int (iI c))]) hx hb d_CS_lowerOf_32 rfl hl (by decide) rfl (fun ls hl => ?_)
                  refine lv_iload_n hx hb d_CS_lowerOf_33 rfl (lv_at hl 0 rfl) ?_
                  refine lv_sipush (v := iI 383) hx hb d_CS_lowerOf_34 (by decide) ?_
                  refine ix_icmp_eq (tgt := 54) hx hb d_CS_lowerOf_37 (by decide) (by omega) (fun c_37 => ?_) (fun c_37 => ?_)
                  · refine lv_iconst (v := iI 1) hx hb d_CS_lowerOf_54 rfl ?_
                    refine lv_goto (tgt := 59) hx hb d_CS_lowerOf_55 (by decide) ?_
                    refine lv_istore (lv' := [(4, .int (iI 1)), (2, .int (iI (nxF NX (nxF NX c)))), (3, .int (iI 2)), (0, .ref (q 0)), (1, .int (iI c))]) hx hb d_CS_lowerOf_59 hl (by decide) rfl (fun ls hl => ?_)
                    refine lv_iload hx hb d_CS_lowerOf_61 (lv_at hl 0 rfl) ?_
                    refine ix_if_ne (tgt := 80) hx hb d_CS_lowerOf_63 (by decide) (by omega) (fun c_63 => ?_) (fun c_63 => ?_)
                    · refine lv_iinc (v := iI 3) (lv' := [(3, .int (iI 3)), (4, .int (iI 1)), (2, .int (iI (nxF NX (nxF NX c)))), (0, .ref (q 0)), (1, .int (iI c))]) hx hb d_CS_lowerOf_80 hl (k := 2) rfl (iI_add _ _) (by decide) rfl (fun ls hl => ?_)
                      refine lv_goto (tgt := 19) hx hb d_CS_lowerOf_83 (by decide) ?_
                      refine lv_iload_n hx hb d_CS_lowerOf_19 rfl (lv_at hl 0 rfl) ?_
                      refine lv_iconst (v := iI 3) hx hb d_CS_lowerOf_20 rfl ?_
                      refine ix_icmp_ge (tgt := 86) hx hb d_CS_lowerOf_21 (by decide) (by omega) (fun c_21 => ?_) (fun c_21 => ?_)
                      · refine lv_iload_n hx hb d_CS_lowerOf_86 rfl (lv_at hl 4 rfl) ?_
                        subst hQ
                        exact W.iret (v := iI c) hx hb hr (fun t h9 hW => ⟨_, rfl, by first | (exfalso; omega) | exact congrArg iI (by unfold loC; repeat (first | rw [if_pos (by omega)] | rw [if_neg (by omega)])), h9⟩) (fun _ h9 => by cases h9) d_CS_lowerOf_87
                      · exact absurd c_21 (by decide)
                    · exact absurd c_63 (by decide)
                  · refine lv_iload_n hx hb d_CS_lowerOf_40 rfl (lv_at hl 0 rfl) ?_
                    refine lv_sipush (v := iI 181) hx hb d_CS_lowerOf_41 (by decide) ?_
                    refine ix_icmp_eq (tgt := 54) hx hb d_CS_lowerOf_44 (by decide) (by omega) (fun c_44 => ?_) (fun c_44 => ?_)
                    · refine lv_iconst (v := iI 1) hx hb d_CS_lowerOf_54 rfl ?_
                      refine lv_goto (tgt := 59) hx hb d_CS_lowerOf_55 (by decide) ?_
                      refine lv_istore (lv' := [(4, .int (iI 1)), (2, .int (iI (nxF NX (nxF NX c)))), (3, .int (iI 2)), (0, .ref (q 0)), (1, .int (iI c))]) hx hb d_CS_lowerOf_59 hl (by decide) rfl (fun ls hl => ?_)
                      refine lv_iload hx hb d_CS_lowerOf_61 (lv_at hl 0 rfl) ?_
                      refine ix_if_ne (tgt := 80) hx hb d_CS_lowerOf_63 (by decide) (by omega) (fun c_63 => ?_) (fun c_63 => ?_)
                      · refine lv_iinc (v := iI 3) (lv' := [(3, .int (iI 3)), (4, .int (iI 1)), (2, .int (iI (nxF NX (nxF NX c)))), (0, .ref (q 0)), (1, .int (iI c))]) hx hb d_CS_lowerOf_80 hl (k := 2) rfl (iI_add _ _) (by decide) rfl (fun ls hl => ?_)
                        refine lv_goto (tgt := 19) hx hb d_CS_lowerOf_83 (by decide) ?_
                        refine lv_iload_n hx hb d_CS_lowerOf_19 rfl (lv_at hl 0 rfl) ?_
                        refine lv_iconst (v := iI 3) hx hb d_CS_lowerOf_20 rfl ?_
                        refine ix_icmp_ge (tgt := 86) hx hb d_CS_lowerOf_21 (by decide) (by omega) (fun c_21 => ?_) (fun c_21 => ?_)
                        · refine lv_iload_n hx hb d_CS_lowerOf_86 rfl (lv_at hl 4 rfl) ?_
                          subst hQ
                          exact W.iret (v := iI c) hx hb hr (fun t h9 hW => ⟨_, rfl, by first | (exfalso; omega) | exact congrArg iI (by unfold loC; repeat (first | rw [if_pos (by omega)] | rw [if_neg (by omega)])), h9⟩) (fun _ h9 => by cases h9) d_CS_lowerOf_87
                        · exact absurd c_21 (by decide)
                      · exact absurd c_63 (by decide)
                    · refine lv_iload_n hx hb d_CS_lowerOf_47 rfl (lv_at hl 0 rfl) ?_
                      refine lv_sipush (v := iI 962) hx hb d_CS_lowerOf_48 (by decide) ?_
                      refine ix_icmp_ne (tgt := 58) hx hb d_CS_lowerOf_51 (by decide) (by omega) (fun c_51 => ?_) (fun c_51 => ?_)
                      · refine lv_iconst (v := iI 0) hx hb d_CS_lowerOf_58 rfl ?_
                        refine lv_istore (lv' := [(4, .int (iI 0)), (2, .int (iI (nxF NX (nxF NX c)))), (3, .int (iI 2)), (0, .ref (q 0)), (1, .int (iI c))]) hx hb d_CS_lowerOf_59 hl (by decide) rfl (fun ls hl => ?_)
                        refine lv_iload hx hb d_CS_lowerOf_61 (lv_at hl 0 rfl) ?_
                        refine ix_if_ne (tgt := 80) hx hb d_CS_lowerOf_63 (by decide) (by omega) (fun c_63 => ?_) (fun c_63 => ?_)
                        · exact absurd c_63 (by decide)
                        · refine lv_aload_n hx hb d_CS_lowerOf_66 rfl (lv_at hl 3 rfl) ?_
                          refine va_get (D := g.1) (ci := 0) (v := .ref (q 1)) (C := R_CS) (T := F_CS) (N := 6) hx hb ht i_CS hown hK hP 0 rfl rfl 2 (by decide) (ht _ k_103) (fun _ h9 => h9) rfl d_CS_lowerOf_67 ?_
                          refine lv_iload_n hx hb d_CS_lowerOf_70 rfl (lv_at hl 1 rfl) ?_
                          refine zcV (ci := 2) (q0 := 0) (As := [.int (iI (nxF NX (nxF NX c)))]) (rest := []) ⟨hx, hb, hml, hown, ht⟩ v_CS_111 (c_TB_categoryOf l g (q 1) (q 2) (q 3) (q 4) (nxF NX (nxF NX c)) (by omega)) ⟨Nat.le_of_ble_eq_true rfl, Nat.le_of_ble_eq_true rfl⟩ ⟨Nat.zero_le _, Nat.zero_le _⟩ hK hZ hS (cw_tb hP) rfl rfl rfl rfl hl.1 rfl (Nat.le_of_ble_eq_true rfl) d_CS_lowerOf_71 (fun r_71 h_71 => ?_)
                          obtain ⟨i71, hi71, j1_71, j2_71, rfl⟩ := h_71
                          rw [cat_at hi71 j1_71 j2_71]
                          have q_71 := catF_bd (nxF NX (nxF NX c)) (by omega)
                          refine lv_iconst (v := iI 4) hx hb d_CS_lowerOf_74 rfl ?_
                          refine ix_icmp_ne (tgt := 80) hx hb d_CS_lowerOf_75 (by decide) (by omega) (fun c_75 => ?_) (fun c_75 => ?_)
                          · refine lv_iinc (v := iI 3) (lv' := [(3, .int (iI 3)), (4, .int (iI 0)), (2, .int (iI (nxF NX (nxF NX c)))), (0, .ref (q 0)), (1, .int (iI c))]) hx hb d_CS_lowerOf_80 hl (k := 2) rfl (iI_add _ _) (by decide) rfl (fun ls hl => ?_)
                            refine lv_goto (tgt := 19) hx hb d_CS_lowerOf_83 (by decide) ?_
                            refine lv_iload_n hx hb d_CS_lowerOf_19 rfl (lv_at hl 0 rfl) ?_
                            refine lv_iconst (v := iI 3) hx hb d_CS_lowerOf_20 rfl ?_
                            refine ix_icmp_ge (tgt := 86) hx hb d_CS_lowerOf_21 (by decide) (by omega) (fun c_21 => ?_) (fun c_21 => ?_)
                            · refine lv_iload_n hx hb d_CS_lowerOf_86 rfl (lv_at hl 4 rfl) ?_
                              subst hQ
                              exact W.iret (v := iI c) hx hb hr (fun t h9 hW => ⟨_, rfl, by first | (exfalso; omega) | exact congrArg iI (by unfold loC; repeat (first | rw [if_pos (by omega)] | rw [if_neg (by omega)])), h9⟩) (fun _ h9 => by cases h9) d_CS_lowerOf_87
                            · exact absurd c_21 (by decide)
                          · refine lv_iload_n hx hb d_CS_lowerOf_78 rfl (lv_at hl 1 rfl) ?_
                            subst hQ
                            exact W.iret (v := iI (nxF NX (nxF NX c))) hx hb hr (fun t h9 hW => ⟨_, rfl, by first | (exfalso; omega) | exact congrArg iI (by unfold loC; repeat (first | rw [if_pos (by omega)] | rw [if_neg (by omega)])), h9⟩) (fun _ h9 => by cases h9) d_CS_lowerOf_79
                      · refine lv_iconst (v := iI 1) hx hb d_CS_lowerOf_54 rfl ?_
                        refine lv_goto (tgt := 59) hx hb d_CS_lowerOf_55 (by decide) ?_
                        refine lv_istore (lv' := [(4, .int (iI 1)), (2, .int (iI (nxF NX (nxF NX c)))), (3, .int (iI 2)), (0, .ref (q 0)), (1, .int (iI c))]) hx hb d_CS_lowerOf_59 hl (by decide) rfl (fun ls hl => ?_)
                        refine lv_iload hx hb d_CS_lowerOf_61 (lv_at hl 0 rfl) ?_
                        refine ix_if_ne (tgt := 80) hx hb d_CS_lowerOf_63 (by decide) (by omega) (fun c_63 => ?_) (fun c_63 => ?_)
                        · refine lv_iinc (v := iI 3) (lv' := [(3, .int (iI 3)), (4, .int (iI 1)), (2, .int (iI (nxF NX (nxF NX c)))), (0, .ref (q 0)), (1, .int (iI c))]) hx hb d_CS_lowerOf_80 hl (k := 2) rfl (iI_add _ _) (by decide) rfl (fun ls hl => ?_)
                          refine lv_goto (tgt := 19) hx hb d_CS_lowerOf_83 (by decide) ?_
                          refine lv_iload_n hx hb d_CS_lowerOf_19 rfl (lv_at hl 0 rfl) ?_
                          refine lv_iconst (v := iI 3) hx hb d_CS_lowerOf_20 rfl ?_
                          refine ix_icmp_ge (tgt := 86) hx hb d_CS_lowerOf_21 (by decide) (by omega) (fun c_21 => ?_) (fun c_21 => ?_)
                          · refine lv_iload_n hx hb d_CS_lowerOf_86 rfl (lv_at hl 4 rfl) ?_
                            subst hQ
                            exact W.iret (v := iI c) hx hb hr (fun t h9 hW => ⟨_, rfl, by first | (exfalso; omega) | exact congrArg iI (by unfold loC; repeat (first | rw [if_pos (by omega)] | rw [if_neg (by omega)])), h9⟩) (fun _ h9 => by cases h9) d_CS_lowerOf_87
                          · exact absurd c_21 (by decide)
                        · exact absurd c_63 (by decide)
              · refine lv_iload_n hx hb d_CS_lowerOf_78 rfl (lv_at hl 1 rfl) ?_
                subst hQ
                exact W.iret (v := iI (nxF NX c)) hx hb hr (fun t h9 hW => ⟨_, rfl, by first | (exfalso; omega) | exact congrArg iI (by unfold loC; repeat (first | rw [if_pos (by omega)] | rw [if_neg (by omega)])), h9⟩) (fun _ h9 => by cases h9) d_CS_lowerOf_79
          · refine lv_iconst (v := iI 1) hx hb d_CS_lowerOf_54 rfl ?_
            refine lv_goto (tgt := 59) hx hb d_CS_lowerOf_55 (by decide) ?_
            refine lv_istore (lv' := [(4, .int (iI 1)), (2, .int (iI (nxF NX c))), (3, .int (iI 1)), (0, .ref (q 0)), (1, .int (iI c))]) hx hb d_CS_lowerOf_59 hl (by decide) rfl (fun ls hl => ?_)
            refine lv_iload hx hb d_CS_lowerOf_61 (lv_at hl 0 rfl) ?_
            refine ix_if_ne (tgt := 80) hx hb d_CS_lowerOf_63 (by decide) (by omega) (fun c_63 => ?_) (fun c_63 => ?_)
            · refine lv_iinc (v := iI 2) (lv' := [(3, .int (iI 2)), (4, .int (iI 1)), (2, .int (iI (nxF NX c))), (0, .ref (q 0)), (1, .int (iI c))]) hx hb d_CS_lowerOf_80 hl (k := 2) rfl (iI_add _ _) (by decide) rfl (fun ls hl => ?_)
              refine lv_goto (tgt := 19) hx hb d_CS_lowerOf_83 (by decide) ?_
              refine lv_iload_n hx hb d_CS_lowerOf_19 rfl (lv_at hl 0 rfl) ?_
              refine lv_iconst (v := iI 3) hx hb d_CS_lowerOf_20 rfl ?_
              refine ix_icmp_ge (tgt := 86) hx hb d_CS_lowerOf_21 (by decide) (by omega) (fun c_21 => ?_) (fun c_21 => ?_)
              · exact absurd c_21 (by decide)
              · refine lv_aload_n hx hb d_CS_lowerOf_24 rfl (lv_at hl 3 rfl) ?_
                refine va_get (D := g.1) (ci := 0) (v := .ref (q 5)) (C := R_CS) (T := F_CS) (N := 6) hx hb ht i_CS hown hK hP 0 rfl rfl 3 (by decide) (ht _ k_104) (fun _ h9 => h9) rfl d_CS_lowerOf_25 ?_
                refine lv_iload_n hx hb d_CS_lowerOf_28 rfl (lv_at hl 2 rfl) ?_
                refine zcV (ci := 3) (q0 := 0) (As := [.int (iI (nxF NX c))]) (rest := []) ⟨hx, hb, hml, hown, ht⟩ v_CS_123 (c_CR_nextOf l g (q 5) (q 6) la NX (nxF NX c) (by omega)) ⟨Nat.le_of_ble_eq_true rfl, Nat.le_of_ble_eq_true rfl⟩ ⟨Nat.zero_le _, Nat.zero_le _⟩ hK hZ hS (cw_rn hP) rfl rfl rfl rfl hl.1 rfl (Nat.le_of_ble_eq_true rfl) d_CS_lowerOf_29 (fun r_29 h_29 => ?_)
                subst h_29
                have b_29 := nxF_bd hNX (c := (nxF NX c)) (by omega)
                refine lv_istore_n (lv' := [(2, .int (iI (nxF NX (nxF NX c)))), (3, .int (iI 2)), (4, .int (iI 1)), (0, .ref (q 0)), (1, .int (iI c))]) hx hb d_CS_lowerOf_32 rfl hl (by decide) rfl (fun ls hl => ?_)
                refine lv_iload_n hx hb d_CS_lowerOf_33 rfl (lv_at hl 0 rfl) ?_
                refine lv_sipush (v := iI 383) hx hb d_CS_lowerOf_34 (by decide) ?_
                refine ix_icmp_eq (tgt := 54) hx hb d_CS_lowerOf_37 (by decide) (by omega) (fun c_37 => ?_) (fun c_37 => ?_)
                · refine lv_iconst (v := iI 1) hx hb d_CS_lowerOf_54 rfl ?_
                  refine lv_goto (tgt := 59) hx hb d_CS_lowerOf_55 (by decide) ?_
                  refine lv_istore (lv' := [(4, .int (iI 1)), (2, .int (iI (nxF NX (nxF NX c)))), (3, .int (iI 2)), (0, .ref (q 0)), (1, .int (iI c))]) hx hb d_CS_lowerOf_59 hl (by decide) rfl (fun ls hl => ?_)
                  refine lv_iload hx hb d_CS_lowerOf_61 (lv_at hl 0 rfl) ?_
                  refine ix_if_ne (tgt := 80) hx hb d_CS_lowerOf_63 (by decide) (by omega) (fun c_63 => ?_) (fun c_63 => ?_)
                  · refine lv_iinc (v := iI 3) (lv' := [(3, .int (iI 3)), (4, .int (iI 1)), (2, .int (iI (nxF NX (nxF NX c)))), (0, .ref (q 0)), (1, .int (iI c))]) hx hb d_CS_lowerOf_80 hl (k := 2) rfl (iI_add _ _) (by decide) rfl (fun ls hl => ?_)
                    refine lv_goto (tgt := 19) hx hb d_CS_lowerOf_83 (by decide) ?_
                    refine lv_iload_n hx hb d_CS_lowerOf_19 rfl (lv_at hl 0 rfl) ?_
                    refine lv_iconst (v := iI 3) hx hb d_CS_lowerOf_20 rfl ?_
                    refine ix_icmp_ge (tgt := 86) hx hb d_CS_lowerOf_21 (by decide) (by omega) (fun c_21 => ?_) (fun c_21 => ?_)
                    · refine lv_iload_n hx hb d_CS_lowerOf_86 rfl (lv_at hl 4 rfl) ?_
                      subst hQ
                      exact W.iret (v := iI c) hx hb hr (fun t h9 hW => ⟨_, rfl, by first | (exfalso; omega) | exact congrArg iI (by unfold loC; repeat (first | rw [if_pos (by omega)] | rw [if_neg (by omega)])), h9⟩) (fun _ h9 => by cases h9) d_CS_lowerOf_87
                    · exact absurd c_21 (by decide)
                  · exact absurd c_63 (by decide)
                · refine lv_iload_n hx hb d_CS_lowerOf_40 rfl (lv_at hl 0 rfl) ?_
                  refine lv_sipush (v := iI 181) hx hb d_CS_lowerOf_41 (by decide) ?_
                  refine ix_icmp_eq (tgt := 54) hx hb d_CS_lowerOf_44 (by decide) (by omega) (fun c_44 => ?_) (fun c_44 => ?_)
                  · refine lv_iconst (v := iI 1) hx hb d_CS_lowerOf_54 rfl ?_
                    refine lv_goto (tgt := 59) hx hb d_CS_lowerOf_55 (by decide) ?_
                    refine lv_istore (lv' := [(4, .int (iI 1)), (2, .int (iI (nxF NX (nxF NX c)))), (3, .int (iI 2)), (0, .ref (q 0)), (1, .int (iI c))]) hx hb d_CS_lowerOf_59 hl (by decide) rfl (fun ls hl => ?_)
                    refine lv_iload hx hb d_CS_lowerOf_61 (lv_at hl 0 rfl) ?_
                    refine ix_if_ne (tgt := 80) hx hb d_CS_lowerOf_63 (by decide) (by omega) (fun c_63 => ?_) (fun c_63 => ?_)
                    · refine lv_iinc (v := iI 3) (lv' := [(3, .int (iI 3)), (4, .int (iI 1)), (2, .int (iI (nxF NX (nxF NX c)))), (0, .ref (q 0)), (1, .int (iI c))]) hx hb d_CS_lowerOf_80 hl (k := 2) rfl (iI_add _ _) (by decide) rfl (fun ls hl => ?_)
                      refine lv_goto (tgt := 19) hx hb d_CS_lowerOf_83 (by decide) ?_
                      refine lv_iload_n hx hb d_CS_lowerOf_19 rfl (lv_at hl 0 rfl) ?_
                      refine lv_iconst (v := iI 3) hx hb d_CS_lowerOf_20 rfl ?_
                      refine ix_icmp_ge (tgt := 86) hx hb d_CS_lowerOf_21 (by decide) (by omega) (fun c_21 => ?_) (fun c_21 => ?_)
                      · refine lv_iload_n hx hb d_CS_lowerOf_86 rfl (lv_at hl 4 rfl) ?_
                        subst hQ
                        exact W.iret (v := iI c) hx hb hr (fun t h9 hW => ⟨_, rfl, by first | (exfalso; omega) | exact congrArg iI (by unfold loC; repeat (first | rw [if_pos (by omega)] | rw [if_neg (by omega)])), h9⟩) (fun _ h9 => by cases h9) d_CS_lowerOf_87
                      · exact absurd c_21 (by decide)
                    · exact absurd c_63 (by decide)
                  · refine lv_iload_n hx hb d_CS_lowerOf_47 rfl (lv_at hl 0 rfl) ?_
                    refine lv_sipush (v := iI 962) hx hb d_CS_lowerOf_48 (by decide) ?_
                    refine ix_icmp_ne (tgt := 58) hx hb d_CS_lowerOf_51 (by decide) (by omega) (fun c_51 => ?_) (fun c_51 => ?_)
                    · refine lv_iconst (v := iI 0) hx hb d_CS_lowerOf_58 rfl ?_
                      refine lv_istore (lv' := [(4, .int (iI 0)), (2, .int (iI (nxF NX (nxF NX c)))), (3, .int (iI 2)), (0, .ref (q 0)), (1, .int (iI c))]) hx hb d_CS_lowerOf_59 hl (by decide) rfl (fun ls hl => ?_)
                      refine lv_iload hx hb d_CS_lowerOf_61 (lv_at hl 0 rfl) ?_
                      refine ix_if_ne (tgt := 80) hx hb d_CS_lowerOf_63 (by decide) (by omega) (fun c_63 => ?_) (fun c_63 => ?_)
                      · exact absurd c_63 (by decide)
                      · refine lv_aload_n hx hb d_CS_lowerOf_66 rfl (lv_at hl 3 rfl) ?_
                        refine va_get (D := g.1) (ci := 0) (v := .ref (q 1)) (C := R_CS) (T := F_CS) (N := 6) hx hb ht i_CS hown hK hP 0 rfl rfl 2 (by decide) (ht _ k_103) (fun _ h9 => h9) rfl d_CS_lowerOf_67 ?_
                        refine lv_iload_n hx hb d_CS_lowerOf_70 rfl (lv_at hl 1 rfl) ?_
                        refine zcV (ci := 2) (q0 := 0) (As := [.int (iI (nxF NX (nxF NX c)))]) (rest := []) ⟨hx, hb, hml, hown, ht⟩ v_CS_111 (c_TB_categoryOf l g (q 1) (q 2) (q 3) (q 4) (nxF NX (nxF NX c)) (by omega)) ⟨Nat.le_of_ble_eq_true rfl, Nat.le_of_ble_eq_true rfl⟩ ⟨Nat.zero_le _, Nat.zero_le _⟩ hK hZ hS (cw_tb hP) rfl rfl rfl rfl hl.1 rfl (Nat.le_of_ble_eq_true rfl) d_CS_lowerOf_71 (fun r_71 h_71 => ?_)
                        obtain ⟨i71, hi71, j1_71, j2_71, rfl⟩ := h_71
                        rw [cat_at hi71 j1_71 j2_71]
                        have q_71 := catF_bd (nxF NX (nxF NX c)) (by omega)
                        refine lv_iconst (v := iI 4) hx hb d_CS_lowerOf_74 rfl ?_
                        refine ix_icmp_ne (tgt := 80) hx hb d_CS_lowerOf_75 (by decide) (by omega) (fun c_75 => ?_) (fun c_75 => ?_)
                        · refine lv_iinc (v := iI 3) (lv' := [(3, .int (iI 3)), (4, .int (iI 0)), (2, .int (iI (nxF NX (nxF NX c)))), (0, .ref (q 0)), (1, .int (iI c))]) hx hb d_CS_lowerOf_80 hl (k := 2) rfl (iI_add _ _) (by decide) rfl (fun ls hl => ?_)
                          refine lv_goto (tgt := 19) hx hb d_CS_lowerOf_83 (by decide) ?_
                          refine lv_iload_n hx hb d_CS_lowerOf_19 rfl (lv_at hl 0 rfl) ?_
                          refine lv_iconst (v := iI 3) hx hb d_CS_lowerOf_20 rfl ?_
                          refine ix_icmp_ge (tgt := 86) hx hb d_CS_lowerOf_21 (by decide) (by omega) (fun c_21 => ?_) (fun c_21 => ?_)
                          · refine lv_iload_n hx hb d_CS_lowerOf_86 rfl (lv_at hl 4 rfl) ?_
                            subst hQ
                            exact W.iret (v := iI c) hx hb hr (fun t h9 hW => ⟨_, rfl, by first | (exfalso; omega) | exact congrArg iI (by unfold loC; repeat (first | rw [if_pos (by omega)] | rw [if_neg (by omega)])), h9⟩) (fun _ h9 => by cases h9) d_CS_lowerOf_87
                          · exact absurd c_21 (by decide)
                        · refine lv_iload_n hx hb d_CS_lowerOf_78 rfl (lv_at hl 1 rfl) ?_
                          subst hQ
                          exact W.iret (v := iI (nxF NX (nxF NX c))) hx hb hr (fun t h9 hW => ⟨_, rfl, by first | (exfalso; omega) | exact congrArg iI (by unfold loC; repeat (first | rw [if_pos (by omega)] | rw [if_neg (by omega)])), h9⟩) (fun _ h9 => by cases h9) d_CS_lowerOf_79
                    · refine lv_iconst (v := iI 1) hx hb d_CS_lowerOf_54 rfl ?_
                      refine lv_goto (tgt := 59) hx hb d_CS_lowerOf_55 (by decide) ?_
                      refine lv_istore (lv' := [(4, .int (iI 1)), (2, .int (iI (nxF NX (nxF NX c)))), (3, .int (iI 2)), (0, .ref (q 0)), (1, .int (iI c))]) hx hb d_CS_lowerOf_59 hl (by decide) rfl (fun ls hl => ?_)
                      refine lv_iload hx hb d_CS_lowerOf_61 (lv_at hl 0 rfl) ?_
                      refine ix_if_ne (tgt := 80) hx hb d_CS_lowerOf_63 (by decide) (by omega) (fun c_63 => ?_) (fun c_63 => ?_)
                      · refine lv_iinc (v := iI 3) (lv' := [(3, .int (iI 3)), (4, .int (iI 1)), (2, .int (iI (nxF NX (nxF NX c)))), (0, .ref (q 0)), (1, .int (iI c))]) hx hb d_CS_lowerOf_80 hl (k := 2) rfl (iI_add _ _) (by decide) rfl (fun ls hl => ?_)
                        refine lv_goto (tgt := 19) hx hb d_CS_lowerOf_83 (by decide) ?_
                        refine lv_iload_n hx hb d_CS_lowerOf_19 rfl (lv_at hl 0 rfl) ?_
                        refine lv_iconst (v := iI 3) hx hb d_CS_lowerOf_20 rfl ?_
                        refine ix_icmp_ge (tgt := 86) hx hb d_CS_lowerOf_21 (by decide) (by omega) (fun c_21 => ?_) (fun c_21 => ?_)
                        · refine lv_iload_n hx hb d_CS_lowerOf_86 rfl (lv_at hl 4 rfl) ?_
                          subst hQ
                          exact W.iret (v := iI c) hx hb hr (fun t h9 hW => ⟨_, rfl, by first | (exfalso; omega) | exact congrArg iI (by unfold loC; repeat (first | rw [if_pos (by omega)] | rw [if_neg (by omega)])), h9⟩) (fun _ h9 => by cases h9) d_CS_lowerOf_87
                        · exact absurd c_21 (by decide)
                      · exact absurd c_63 (by decide)
            · exact absurd c_63 (by decide)
  · refine lv_iload_n hx hb d_CS_lowerOf_13 rfl (lv_at hl 1 rfl) ?_
    subst hQ
    exact W.iret (v := iI c) hx hb hr (fun t h9 hW => ⟨_, rfl, congrArg iI (by unfold loC; rw [if_neg (by omega)]), h9⟩) (fun _ h9 => by cases h9) d_CS_lowerOf_14
set_option maxHeartbeats 4000000 in
set_option maxRecDepth 100000 in
theorem c_CS_about (l : Launch) (g : zG) (q : Nat → Nat) (u la : Int) (NX : Nat → Int) (n : Nat → Nat) (es : Nat → Nat → Int) (c w9 : Int) (hc : -2147483648 ≤ c ∧ c ≤ 2147483647) (hw9 : -2147483648 ≤ w9 ∧ w9 ≤ 2147483647) (hla : 0 ≤ la ∧ la ≤ 1114111) (hNX : ∀ j, j < 1122 → 0 ≤ NX j ∧ NX j ≤ 1114111)  : Met l y_CS_about w_CS_about (zr 3 69) (zP g [.ref (q 0), .int (iI c), .int (iI w9)] (cw g q u la NX n es)) (vp_Si (fun z => z = iI (abC NX la c w9))) 0 0 (fun _ => False) := by
  refine Met.ofW (cc := b_CS_about) (maxL := 3) (ret := (some .int)) (by decide) rfl ?_
  intro p e s m args below meth cd s₁ B hml hv
  obtain ⟨hargs, hP, hK, hZ⟩ := hv
  have hx := B.exec
  have hb := B.bytes
  have hr := B.returns
  have ht : ∀ w ∈ lw_ok, w.before args s = true := fun w h => atoms_spec (ws := w_CS_about) B.pre w (List.mem_cons_of_mem _ h)
  have hown : s.vm.findClass R_CS = some m.cls := findClass_of_methodNamed B.named
  have hlocks := B.notSynchronized
  have hS : va_S (fun _ => False) s.heap s.heap [] := va_S.rf
  generalize hQ : MQ below _ args s 0 0 _ = Q
  have hl := lv_entry ([.ref (q 0), .int (iI c), .int (iI w9)]) (n := 3) (Nat.le_of_ble_eq_true rfl)
  rw [show entryFrame m args 3 = entryFrame m ([.ref (q 0), .int (iI c), .int (iI w9)] : List Value).toArray 3 by rw [hargs], lg_entry_eq]
  generalize (lg_sl ([.ref (q 0), .int (iI c), .int (iI w9)]) ++ List.replicate (3 - (lg_sl ([.ref (q 0), .int (iI c), .int (iI w9)])).length) Slot.unset).toArray = ls at hl ⊢
  have hl : lv_has ls 3 [(0, .ref (q 0)), (1, .int (iI c)), (2, .int (iI w9))] := hl
  refine lv_iload_n hx hb d_CS_about_0 rfl (lv_at hl 1 rfl) ?_
  refine ix_if_lt (tgt := 19) hx hb d_CS_about_1 (by decide) (by omega) (fun c_1 => ?_) (fun c_1 => ?_)
  · refine lv_bipush (v := iI (-2)) hx hb d_CS_about_19 (by decide) ?_
    subst hQ
    exact W.iret (v := iI ((-2))) hx hb hr (fun t h9 hW => ⟨_, rfl, by first | (exfalso; omega) | exact congrArg iI (by unfold abC; first | (rw [if_pos (show c < 0 ∨ 1114111 < c ∨ w9 < 0 ∨ 4 < w9 by omega)]) | (rw [if_neg (show ¬ (c < 0 ∨ 1114111 < c ∨ w9 < 0 ∨ 4 < w9) by omega)]; repeat (first | rw [if_pos (by omega)] | rw [if_neg (by omega)]))), h9⟩) (fun _ h9 => by cases h9) d_CS_about_21
  · refine lv_iload_n hx hb d_CS_about_4 rfl (lv_at hl 1 rfl) ?_
    refine lv_ldc (v := iI 1114111) hx hb hown (ht _ k_16) d_CS_about_5 ?_
    refine ix_icmp_gt (tgt := 19) hx hb d_CS_about_7 (by decide) (by omega) (fun c_7 => ?_) (fun c_7 => ?_)
    · refine lv_bipush (v := iI (-2)) hx hb d_CS_about_19 (by decide) ?_
      subst hQ
      exact W.iret (v := iI ((-2))) hx hb hr (fun t h9 hW => ⟨_, rfl, by first | (exfalso; omega) | exact congrArg iI (by unfold abC; first | (rw [if_pos (show c < 0 ∨ 1114111 < c ∨ w9 < 0 ∨ 4 < w9 by omega)]) | (rw [if_neg (show ¬ (c < 0 ∨ 1114111 < c ∨ w9 < 0 ∨ 4 < w9) by omega)]; repeat (first | rw [if_pos (by omega)] | rw [if_neg (by omega)]))), h9⟩) (fun _ h9 => by cases h9) d_CS_about_21
    · refine lv_iload_n hx hb d_CS_about_10 rfl (lv_at hl 2 rfl) ?_
      refine ix_if_lt (tgt := 19) hx hb d_CS_about_11 (by decide) (by omega) (fun c_11 => ?_) (fun c_11 => ?_)
      · refine lv_bipush (v := iI (-2)) hx hb d_CS_about_19 (by decide) ?_
        subst hQ
        exact W.iret (v := iI ((-2))) hx hb hr (fun t h9 hW => ⟨_, rfl, by first | (exfalso; omega) | exact congrArg iI (by unfold abC; first | (rw [if_pos (show c < 0 ∨ 1114111 < c ∨ w9 < 0 ∨ 4 < w9 by omega)]) | (rw [if_neg (show ¬ (c < 0 ∨ 1114111 < c ∨ w9 < 0 ∨ 4 < w9) by omega)]; repeat (first | rw [if_pos (by omega)] | rw [if_neg (by omega)]))), h9⟩) (fun _ h9 => by cases h9) d_CS_about_21
      · refine lv_iload_n hx hb d_CS_about_14 rfl (lv_at hl 2 rfl) ?_
        refine lv_iconst (v := iI 4) hx hb d_CS_about_15 rfl ?_
        refine ix_icmp_le (tgt := 22) hx hb d_CS_about_16 (by decide) (by omega) (fun c_16 => ?_) (fun c_16 => ?_)
        · refine lv_iload_n hx hb d_CS_about_22 rfl (lv_at hl 2 rfl) ?_
          refine ix_if_ne (tgt := 35) hx hb d_CS_about_23 (by decide) (by omega) (fun c_23 => ?_) (fun c_23 => ?_)
          · refine lv_iload_n hx hb d_CS_about_35 rfl (lv_at hl 2 rfl) ?_
            refine lv_iconst (v := iI 1) hx hb d_CS_about_36 rfl ?_
            refine ix_icmp_ne (tgt := 49) hx hb d_CS_about_37 (by decide) (by omega) (fun c_37 => ?_) (fun c_37 => ?_)
            · refine lv_aload_n hx hb d_CS_about_49 rfl (lv_at hl 0 rfl) ?_
              refine lv_iload_n hx hb d_CS_about_50 rfl (lv_at hl 1 rfl) ?_
              refine zcV (ci := 0) (q0 := 0) (As := [.int (iI c)]) (rest := []) ⟨hx, hb, hml, hown, ht⟩ v_CS_52 (c_CS_isThere l g q u la NX n es c (by omega) hla) ⟨Nat.le_of_ble_eq_true rfl, Nat.le_of_ble_eq_true rfl⟩ ⟨Nat.zero_le _, Nat.zero_le _⟩ hK hZ hS hP rfl rfl rfl rfl hl.1 rfl (Nat.le_of_ble_eq_true rfl) d_CS_about_51 (fun r_51 h_51 => ?_)
              rcases h_51 with ⟨h_51, rfl⟩ | ⟨h_51, rfl⟩
              · refine ix_if_ne (tgt := 60) hx hb d_CS_about_54 (by decide) (by omega) (fun c_54 => ?_) (fun c_54 => ?_)
                · refine lv_iload_n hx hb d_CS_about_60 rfl (lv_at hl 2 rfl) ?_
                  refine lv_iconst (v := iI 2) hx hb d_CS_about_61 rfl ?_
                  refine ix_icmp_ne (tgt := 71) hx hb d_CS_about_62 (by decide) (by omega) (fun c_62 => ?_) (fun c_62 => ?_)
                  · refine lv_iload_n hx hb d_CS_about_71 rfl (lv_at hl 2 rfl) ?_
                    refine lv_iconst (v := iI 3) hx hb d_CS_about_72 rfl ?_
                    refine ix_icmp_ne (tgt := 84) hx hb d_CS_about_73 (by decide) (by omega) (fun c_73 => ?_) (fun c_73 => ?_)
                    · refine lv_aload_n hx hb d_CS_about_84 rfl (lv_at hl 0 rfl) ?_
                      refine va_get (D := g.1) (ci := 0) (v := .ref (q 5)) (C := R_CS) (T := F_CS) (N := 6) hx hb ht i_CS hown hK hP 0 rfl rfl 3 (by decide) (ht _ k_104) (fun _ h9 => h9) rfl d_CS_about_85 ?_
                      refine lv_iload_n hx hb d_CS_about_88 rfl (lv_at hl 1 rfl) ?_
                      refine zcV (ci := 3) (q0 := 0) (As := [.int (iI c)]) (rest := []) ⟨hx, hb, hml, hown, ht⟩ v_CS_123 (c_CR_nextOf l g (q 5) (q 6) la NX c (by omega)) ⟨Nat.le_of_ble_eq_true rfl, Nat.le_of_ble_eq_true rfl⟩ ⟨Nat.zero_le _, Nat.zero_le _⟩ hK hZ hS (cw_rn hP) rfl rfl rfl rfl hl.1 rfl (Nat.le_of_ble_eq_true rfl) d_CS_about_89 (fun r_89 h_89 => ?_)
                      subst h_89
                      have b_89 := nxF_bd hNX (c := c) (by omega)
                      subst hQ
                      exact W.iret (v := iI (nxF NX c)) hx hb hr (fun t h9 hW => ⟨_, rfl, by first | (exfalso; omega) | exact congrArg iI (by unfold abC; first | (rw [if_pos (show c < 0 ∨ 1114111 < c ∨ w9 < 0 ∨ 4 < w9 by omega)]) | (rw [if_neg (show ¬ (c < 0 ∨ 1114111 < c ∨ w9 < 0 ∨ 4 < w9) by omega)]; repeat (first | rw [if_pos (by omega)] | rw [if_neg (by omega)]))), h9⟩) (fun _ h9 => by cases h9) d_CS_about_92
                    · refine lv_aload_n hx hb d_CS_about_76 rfl (lv_at hl 0 rfl) ?_
                      refine lv_iload_n hx hb d_CS_about_77 rfl (lv_at hl 1 rfl) ?_
                      refine zcV (ci := 0) (q0 := 0) (As := [.int (iI c)]) (rest := []) ⟨hx, hb, hml, hown, ht⟩ v_CS_120 (c_CS_lowerOf l g q u la NX n es c (by omega) hNX) ⟨Nat.le_of_ble_eq_true rfl, Nat.le_of_ble_eq_true rfl⟩ ⟨Nat.zero_le _, Nat.zero_le _⟩ hK hZ hS hP rfl rfl rfl rfl hl.1 rfl (Nat.le_of_ble_eq_true rfl) d_CS_about_78 (fun r_78 h_78 => ?_)
                      subst h_78
                      refine lv_goto (tgt := 92) hx hb d_CS_about_81 (by decide) ?_
                      subst hQ
                      exact W.iret (v := iI (loC NX c)) hx hb hr (fun t h9 hW => ⟨_, rfl, by first | (exfalso; omega) | exact congrArg iI (by unfold abC; first | (rw [if_pos (show c < 0 ∨ 1114111 < c ∨ w9 < 0 ∨ 4 < w9 by omega)]) | (rw [if_neg (show ¬ (c < 0 ∨ 1114111 < c ∨ w9 < 0 ∨ 4 < w9) by omega)]; repeat (first | rw [if_pos (by omega)] | rw [if_neg (by omega)]))), h9⟩) (fun _ h9 => by cases h9) d_CS_about_92
                  · refine lv_aload_n hx hb d_CS_about_65 rfl (lv_at hl 0 rfl) ?_
                    refine lv_iload_n hx hb d_CS_about_66 rfl (lv_at hl 1 rfl) ?_
                    refine zcV (ci := 0) (q0 := 0) (As := [.int (iI c)]) (rest := []) ⟨hx, hb, hml, hown, ht⟩ v_CS_117 (c_CS_upperOf l g q u la NX n es c (by omega) hNX) ⟨Nat.le_of_ble_eq_true rfl, Nat.le_of_ble_eq_true rfl⟩ ⟨Nat.zero_le _, Nat.zero_le _⟩ hK hZ hS hP rfl rfl rfl rfl hl.1 rfl (Nat.le_of_ble_eq_true rfl) d_CS_about_67 (fun r_67 h_67 => ?_)
                    subst h_67
                    subst hQ
                    exact W.iret (v := iI (upC NX c)) hx hb hr (fun t h9 hW => ⟨_, rfl, by first | (exfalso; omega) | exact congrArg iI (by unfold abC; first | (rw [if_pos (show c < 0 ∨ 1114111 < c ∨ w9 < 0 ∨ 4 < w9 by omega)]) | (rw [if_neg (show ¬ (c < 0 ∨ 1114111 < c ∨ w9 < 0 ∨ 4 < w9) by omega)]; repeat (first | rw [if_pos (by omega)] | rw [if_neg (by omega)]))), h9⟩) (fun _ h9 => by cases h9) d_CS_about_70
                · exact absurd c_54 (by decide)
              · refine ix_if_ne (tgt := 60) hx hb d_CS_about_54 (by decide) (by omega) (fun c_54 => ?_) (fun c_54 => ?_)
                · exact absurd c_54 (by decide)
                · refine lv_bipush (v := iI (-2)) hx hb d_CS_about_57 (by decide) ?_
                  subst hQ
                  exact W.iret (v := iI ((-2))) hx hb hr (fun t h9 hW => ⟨_, rfl, by first | (exfalso; omega) | exact congrArg iI (by unfold abC; first | (rw [if_pos (show c < 0 ∨ 1114111 < c ∨ w9 < 0 ∨ 4 < w9 by omega)]) | (rw [if_neg (show ¬ (c < 0 ∨ 1114111 < c ∨ w9 < 0 ∨ 4 < w9) by omega)]; repeat (first | rw [if_pos (by omega)] | rw [if_neg (by omega)]))), h9⟩) (fun _ h9 => by cases h9) d_CS_about_59
            · refine lv_aload_n hx hb d_CS_about_40 rfl (lv_at hl 0 rfl) ?_
              refine va_get (D := g.1) (ci := 0) (v := .ref (q 1)) (C := R_CS) (T := F_CS) (N := 6) hx hb ht i_CS hown hK hP 0 rfl rfl 2 (by decide) (ht _ k_103) (fun _ h9 => h9) rfl d_CS_about_41 ?_
              refine lv_iload_n hx hb d_CS_about_44 rfl (lv_at hl 1 rfl) ?_
              refine zcV (ci := 2) (q0 := 0) (As := [.int (iI c)]) (rest := []) ⟨hx, hb, hml, hown, ht⟩ v_CS_114 (c_TB_scriptOf l g (q 1) (q 2) (q 3) (q 4) c (by omega)) ⟨Nat.le_of_ble_eq_true rfl, Nat.le_of_ble_eq_true rfl⟩ ⟨Nat.zero_le _, Nat.zero_le _⟩ hK hZ hS (cw_tb hP) rfl rfl rfl rfl hl.1 rfl (Nat.le_of_ble_eq_true rfl) d_CS_about_45 (fun r_45 h_45 => ?_)
              obtain ⟨i45, hi45, j1_45, j2_45, rfl⟩ := h_45
              rw [scr_at hi45 j1_45 j2_45]
              subst hQ
              exact W.iret (v := iI (scrF c)) hx hb hr (fun t h9 hW => ⟨_, rfl, by first | (exfalso; omega) | exact congrArg iI (by unfold abC; first | (rw [if_pos (show c < 0 ∨ 1114111 < c ∨ w9 < 0 ∨ 4 < w9 by omega)]) | (rw [if_neg (show ¬ (c < 0 ∨ 1114111 < c ∨ w9 < 0 ∨ 4 < w9) by omega)]; repeat (first | rw [if_pos (by omega)] | rw [if_neg (by omega)]))), h9⟩) (fun _ h9 => by cases h9) d_CS_about_48
          · refine lv_aload_n hx hb d_CS_about_26 rfl (lv_at hl 0 rfl) ?_
            refine va_get (D := g.1) (ci := 0) (v := .ref (q 1)) (C := R_CS) (T := F_CS) (N := 6) hx hb ht i_CS hown hK hP 0 rfl rfl 2 (by decide) (ht _ k_103) (fun _ h9 => h9) rfl d_CS_about_27 ?_
            refine lv_iload_n hx hb d_CS_about_30 rfl (lv_at hl 1 rfl) ?_
            refine zcV (ci := 2) (q0 := 0) (As := [.int (iI c)]) (rest := []) ⟨hx, hb, hml, hown, ht⟩ v_CS_111 (c_TB_categoryOf l g (q 1) (q 2) (q 3) (q 4) c (by omega)) ⟨Nat.le_of_ble_eq_true rfl, Nat.le_of_ble_eq_true rfl⟩ ⟨Nat.zero_le _, Nat.zero_le _⟩ hK hZ hS (cw_tb hP) rfl rfl rfl rfl hl.1 rfl (Nat.le_of_ble_eq_true rfl) d_CS_about_31 (fun r_31 h_31 => ?_)
            obtain ⟨i31, hi31, j1_31, j2_31, rfl⟩ := h_31
            rw [cat_at hi31 j1_31 j2_31]
            have q_31 := catF_bd c (by omega)
            subst hQ
            exact W.iret (v := iI (catF c)) hx hb hr (fun t h9 hW => ⟨_, rfl, by first | (exfalso; omega) | exact congrArg iI (by unfold abC; first | (rw [if_pos (show c < 0 ∨ 1114111 < c ∨ w9 < 0 ∨ 4 < w9 by omega)]) | (rw [if_neg (show ¬ (c < 0 ∨ 1114111 < c ∨ w9 < 0 ∨ 4 < w9) by omega)]; repeat (first | rw [if_pos (by omega)] | rw [if_neg (by omega)]))), h9⟩) (fun _ h9 => by cases h9) d_CS_about_34
        · refine lv_bipush (v := iI (-2)) hx hb d_CS_about_19 (by decide) ?_
          subst hQ
          exact W.iret (v := iI ((-2))) hx hb hr (fun t h9 hW => ⟨_, rfl, by first | (exfalso; omega) | exact congrArg iI (by unfold abC; first | (rw [if_pos (show c < 0 ∨ 1114111 < c ∨ w9 < 0 ∨ 4 < w9 by omega)]) | (rw [if_neg (show ¬ (c < 0 ∨ 1114111 < c ∨ w9 < 0 ∨ 4 < w9) by omega)]; repeat (first | rw [if_pos (by omega)] | rw [if_neg (by omega)]))), h9⟩) (fun _ h9 => by cases h9) d_CS_about_21
