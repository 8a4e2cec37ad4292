set_option maxHeartbeats 4000000 in
set_option maxRecDepth 100000 in
theorem c_TB_findScript (l : Launch) (g : zG) (c k : Int) (hc : 0 ≤ c ∧ c ≤ 1114112) (hk : 0 ≤ k ∧ k ≤ 24) : Met l y_TB_findScript w_TB_findScript (zr 0 0) (zP g [.int (iI c), .int (iI k)] ([])) (vp_Si (fun z => z = iI (fsF c k))) 0 0 (fun _ => False) := by
  refine Met.ofW (cc := b_TB_findScript) (maxL := 3) (ret := (some .int)) (by decide) rfl ?_
  intro p e s m args below meth cd s₁ B hml hv
  obtain ⟨hargs, hP, hK, hZ⟩ := hv
  have hx := B.exec
  have hb := B.bytes
  have hr := B.returns
  have ht : ∀ w ∈ lw_ok, w.before args s = true := fun w h => atoms_spec (ws := w_TB_findScript) B.pre w (List.mem_cons_of_mem _ h)
  have hown : s.vm.findClass R_TB = some m.cls := findClass_of_methodNamed B.named
  have hlocks := B.notSynchronized
  have hS : va_S (fun _ => False) s.heap s.heap [] := va_S.rf
  generalize hQ : MQ below _ args s 0 0 _ = Q
  have hl := lv_entry ([.int (iI c), .int (iI k)]) (n := 3) (Nat.le_of_ble_eq_true rfl)
  rw [show entryFrame m args 3 = entryFrame m ([.int (iI c), .int (iI k)] : List Value).toArray 3 by rw [hargs], lg_entry_eq]
  generalize (lg_sl ([.int (iI c), .int (iI k)]) ++ List.replicate (3 - (lg_sl ([.int (iI c), .int (iI k)])).length) Slot.unset).toArray = ls at hl ⊢
  have hl : lv_has ls 3 [(0, .int (iI c)), (1, .int (iI k))] := hl
  have J44 : ∀ fu : Nat, ∀ (i f : Nat) (ls : Array Slot), f < fu → lv_has ls 3 [(0, .int (iI c)), (1, .int (iI k)), (2, .int (iI (((3 * i : Nat) : Int))))] → (¬ (k = 0 ∨ k = 3)) → (¬ ((k = 6 ∨ k = 4) ∧ c < 384)) → (f + i = 13) → (fsT c 13 0 = fsT c f i) → W p l e (headSpec w_TB_findScript (zr 0 0)).room s m args below meth cd s.heap [] 0 0 Q (F0 m 44 ls []) := by
    intro fu
    induction fu with
    | zero => exact fun _ _ _ hfu _ _ _ _ _ => absurd hfu (Nat.not_lt_zero _)
    | succ fu ih =>
      intro i f ls hfu hl hn1 hn2 hfi hT
      refine lv_iload_n hx hb d_TB_findScript_44 rfl (lv_at hl 2 rfl) ?_
      refine lv_iconst (v := iI 2) hx hb d_TB_findScript_45 rfl ?_
      refine ix_iadd hx hb d_TB_findScript_46 ?_
      refine ix_gets hx hb hZ 19 (by decide) hS hown (ht _ k_32) d_TB_findScript_47 ?_
      refine ix_tlen hx hb hZ 19 (by decide) hS 39 rfl d_TB_findScript_50 ?_
      refine ix_icmp_ge (tgt := 88) hx hb d_TB_findScript_51 (by decide) (by omega) (fun c_51 => ?_) (fun c_51 => ?_)
      · obtain rfl : f = 0 := by omega
        refine lv_iconst (v := iI 1) hx hb d_TB_findScript_88 rfl ?_
        subst hQ
        exact W.iret (v := iI 1) hx hb hr (fun t h9 hW => ⟨_, rfl, by unfold fsF; rw [if_neg hn1, if_neg hn2, hT]; rfl, h9⟩) (fun _ h9 => by cases h9) d_TB_findScript_89
      · obtain ⟨f0, rfl⟩ : ∃ f0, f = f0 + 1 := ⟨f - 1, by omega⟩
        have f1 := sr_bd (3 * i) (by omega)
        have f2 := sr_bd (3 * i + 1) (by omega)
        have f3 := sr_bd (3 * i + 2) (by omega)
        refine lv_iload_n hx hb d_TB_findScript_54 rfl (lv_at hl 0 rfl) ?_
        refine ix_gets hx hb hZ 19 (by decide) hS hown (ht _ k_32) d_TB_findScript_55 ?_
        refine lv_iload_n hx hb d_TB_findScript_58 rfl (lv_at hl 2 rfl) ?_
        refine ix_tald hx hb hZ 19 (by decide) hS (z := (((3 * i : Nat) : Int))) (3 * i) (by refine ⟨by omega, ?_, by omega⟩; show _ < (stE 19).length; simp only [stE, List.length_cons, List.length_nil]; omega) d_TB_findScript_59 ?_
        refine ix_icmp_lt (tgt := 82) hx hb d_TB_findScript_60 (by decide) (by omega) (fun c_60 => ?_) (fun c_60 => ?_)
        · refine lv_iinc (v := iI ((((3 * i : Nat) : Int)) + 3)) (lv' := [(2, .int (iI ((((3 * i : Nat) : Int)) + 3))), (0, .int (iI c)), (1, .int (iI k))]) hx hb d_TB_findScript_82 hl (k := 2) rfl (iI_add _ _) (by decide) rfl (fun ls hl => ?_)
          refine lv_goto (tgt := 44) hx hb d_TB_findScript_85 (by decide) ?_
          exact ih (i + 1) f0 ls (by omega) (lv_sub hl [1, 2, 0] rfl) (by omega) (by omega) (by omega) (by rw [hT]; exact if_neg (by omega))
        · refine lv_iload_n hx hb d_TB_findScript_63 rfl (lv_at hl 0 rfl) ?_
          refine ix_gets hx hb hZ 19 (by decide) hS hown (ht _ k_32) d_TB_findScript_64 ?_
          refine lv_iload_n hx hb d_TB_findScript_67 rfl (lv_at hl 2 rfl) ?_
          refine lv_iconst (v := iI 1) hx hb d_TB_findScript_68 rfl ?_
          refine ix_iadd hx hb d_TB_findScript_69 ?_
          refine ix_tald hx hb hZ 19 (by decide) hS (z := ((((3 * i : Nat) : Int)) + 1)) ((3 * i) + 1) (by refine ⟨by omega, ?_, by omega⟩; show _ < (stE 19).length; simp only [stE, List.length_cons, List.length_nil]; omega) d_TB_findScript_70 ?_
          refine ix_icmp_gt (tgt := 82) hx hb d_TB_findScript_71 (by decide) (by omega) (fun c_71 => ?_) (fun c_71 => ?_)
          · refine lv_iinc (v := iI ((((3 * i : Nat) : Int)) + 3)) (lv' := [(2, .int (iI ((((3 * i : Nat) : Int)) + 3))), (0, .int (iI c)), (1, .int (iI k))]) hx hb d_TB_findScript_82 hl (k := 2) rfl (iI_add _ _) (by decide) rfl (fun ls hl => ?_)
            refine lv_goto (tgt := 44) hx hb d_TB_findScript_85 (by decide) ?_
            exact ih (i + 1) f0 ls (by omega) (lv_sub hl [1, 2, 0] rfl) (by omega) (by omega) (by omega) (by rw [hT]; exact if_neg (by omega))
          · refine ix_gets hx hb hZ 19 (by decide) hS hown (ht _ k_32) d_TB_findScript_74 ?_
            refine lv_iload_n hx hb d_TB_findScript_77 rfl (lv_at hl 2 rfl) ?_
            refine lv_iconst (v := iI 2) hx hb d_TB_findScript_78 rfl ?_
            refine ix_iadd hx hb d_TB_findScript_79 ?_
            refine ix_tald hx hb hZ 19 (by decide) hS (z := ((((3 * i : Nat) : Int)) + 2)) ((3 * i) + 2) (by refine ⟨by omega, ?_, by omega⟩; show _ < (stE 19).length; simp only [stE, List.length_cons, List.length_nil]; omega) d_TB_findScript_80 ?_
            subst hQ
            exact W.iret (v := iI ((stE 19).getD ((3 * i) + 2) 0)) hx hb hr (fun t h9 hW => ⟨_, rfl, by unfold fsF; rw [if_neg hn1, if_neg hn2, hT]; exact congrArg iI (if_pos (by omega)).symm, h9⟩) (fun _ h9 => by cases h9) d_TB_findScript_81
  refine lv_iload_n hx hb d_TB_findScript_0 rfl (lv_at hl 1 rfl) ?_
  refine ix_if_eq (tgt := 9) hx hb d_TB_findScript_1 (by decide) (by omega) (fun c_1 => ?_) (fun c_1 => ?_)
  · refine lv_iconst (v := iI 0) hx hb d_TB_findScript_9 rfl ?_
    subst hQ
    exact W.iret (v := iI 0) hx hb hr (fun t h9 hW => ⟨_, rfl, by first | (exfalso; omega) | (unfold fsF; repeat (first | rw [if_pos (by omega)] | rw [if_neg (by omega)])), h9⟩) (fun _ h9 => by cases h9) d_TB_findScript_10
  · refine lv_iload_n hx hb d_TB_findScript_4 rfl (lv_at hl 1 rfl) ?_
    refine lv_iconst (v := iI 3) hx hb d_TB_findScript_5 rfl ?_
    refine ix_icmp_ne (tgt := 11) hx hb d_TB_findScript_6 (by decide) (by omega) (fun c_6 => ?_) (fun c_6 => ?_)
    · refine lv_iload_n hx hb d_TB_findScript_11 rfl (lv_at hl 1 rfl) ?_
      refine lv_bipush (v := iI 6) hx hb d_TB_findScript_12 (by decide) ?_
      refine ix_icmp_eq (tgt := 22) hx hb d_TB_findScript_14 (by decide) (by omega) (fun c_14 => ?_) (fun c_14 => ?_)
      · refine lv_iload_n hx hb d_TB_findScript_22 rfl (lv_at hl 0 rfl) ?_
        refine lv_sipush (v := iI 384) hx hb d_TB_findScript_23 (by decide) ?_
        refine ix_icmp_ge (tgt := 42) hx hb d_TB_findScript_26 (by decide) (by omega) (fun c_26 => ?_) (fun c_26 => ?_)
        · refine lv_iconst (v := iI 0) hx hb d_TB_findScript_42 rfl ?_
          refine lv_istore_n (lv' := [(2, .int (iI 0)), (0, .int (iI c)), (1, .int (iI k))]) hx hb d_TB_findScript_43 rfl hl (by decide) rfl (fun ls hl => ?_)
          exact J44 (_ + 1) 0 13 ls (Nat.lt_succ_self _) (lv_sub hl [1, 2, 0] rfl) (by omega) (by omega) (by omega) (by rfl)
        · refine lv_iload_n hx hb d_TB_findScript_29 rfl (lv_at hl 0 rfl) ?_
          refine lv_sipush (v := iI 181) hx hb d_TB_findScript_30 (by decide) ?_
          refine ix_icmp_ne (tgt := 40) hx hb d_TB_findScript_33 (by decide) (by omega) (fun c_33 => ?_) (fun c_33 => ?_)
          · refine lv_iconst (v := iI 2) hx hb d_TB_findScript_40 rfl ?_
            subst hQ
            exact W.iret (v := iI 2) hx hb hr (fun t h9 hW => ⟨_, rfl, by first | (exfalso; omega) | (unfold fsF; repeat (first | rw [if_pos (by omega)] | rw [if_neg (by omega)])), h9⟩) (fun _ h9 => by cases h9) d_TB_findScript_41
          · refine lv_iconst (v := iI 1) hx hb d_TB_findScript_36 rfl ?_
            refine lv_goto (tgt := 41) hx hb d_TB_findScript_37 (by decide) ?_
            subst hQ
            exact W.iret (v := iI 1) hx hb hr (fun t h9 hW => ⟨_, rfl, by first | (exfalso; omega) | (unfold fsF; repeat (first | rw [if_pos (by omega)] | rw [if_neg (by omega)])), h9⟩) (fun _ h9 => by cases h9) d_TB_findScript_41
      · refine lv_iload_n hx hb d_TB_findScript_17 rfl (lv_at hl 1 rfl) ?_
        refine lv_iconst (v := iI 4) hx hb d_TB_findScript_18 rfl ?_
        refine ix_icmp_ne (tgt := 42) hx hb d_TB_findScript_19 (by decide) (by omega) (fun c_19 => ?_) (fun c_19 => ?_)
        · refine lv_iconst (v := iI 0) hx hb d_TB_findScript_42 rfl ?_
          refine lv_istore_n (lv' := [(2, .int (iI 0)), (0, .int (iI c)), (1, .int (iI k))]) hx hb d_TB_findScript_43 rfl hl (by decide) rfl (fun ls hl => ?_)
          exact J44 (_ + 1) 0 13 ls (Nat.lt_succ_self _) (lv_sub hl [1, 2, 0] rfl) (by omega) (by omega) (by omega) (by rfl)
        · refine lv_iload_n hx hb d_TB_findScript_22 rfl (lv_at hl 0 rfl) ?_
          refine lv_sipush (v := iI 384) hx hb d_TB_findScript_23 (by decide) ?_
          refine ix_icmp_ge (tgt := 42) hx hb d_TB_findScript_26 (by decide) (by omega) (fun c_26 => ?_) (fun c_26 => ?_)
          · refine lv_iconst (v := iI 0) hx hb d_TB_findScript_42 rfl ?_
            refine lv_istore_n (lv' := [(2, .int (iI 0)), (0, .int (iI c)), (1, .int (iI k))]) hx hb d_TB_findScript_43 rfl hl (by decide) rfl (fun ls hl => ?_)
            exact J44 (_ + 1) 0 13 ls (Nat.lt_succ_self _) (lv_sub hl [1, 2, 0] rfl) (by omega) (by omega) (by omega) (by rfl)
          · refine lv_iload_n hx hb d_TB_findScript_29 rfl (lv_at hl 0 rfl) ?_
            refine lv_sipush (v := iI 181) hx hb d_TB_findScript_30 (by decide) ?_
            refine ix_icmp_ne (tgt := 40) hx hb d_TB_findScript_33 (by decide) (by omega) (fun c_33 => ?_) (fun c_33 => ?_)
            · refine lv_iconst (v := iI 2) hx hb d_TB_findScript_40 rfl ?_
              subst hQ
              exact W.iret (v := iI 2) hx hb hr (fun t h9 hW => ⟨_, rfl, by first | (exfalso; omega) | (unfold fsF; repeat (first | rw [if_pos (by omega)] | rw [if_neg (by omega)])), h9⟩) (fun _ h9 => by cases h9) d_TB_findScript_41
            · refine lv_iconst (v := iI 1) hx hb d_TB_findScript_36 rfl ?_
              refine lv_goto (tgt := 41) hx hb d_TB_findScript_37 (by decide) ?_
              subst hQ
              exact W.iret (v := iI 1) hx hb hr (fun t h9 hW => ⟨_, rfl, by first | (exfalso; omega) | (unfold fsF; repeat (first | rw [if_pos (by omega)] | rw [if_neg (by omega)])), h9⟩) (fun _ h9 => by cases h9) d_TB_findScript_41
    · refine lv_iconst (v := iI 0) hx hb d_TB_findScript_9 rfl ?_
      subst hQ
      exact W.iret (v := iI 0) hx hb hr (fun t h9 hW => ⟨_, rfl, by first | (exfalso; omega) | (unfold fsF; repeat (first | rw [if_pos (by omega)] | rw [if_neg (by omega)])), h9⟩) (fun _ h9 => by cases h9) d_TB_findScript_10
set_option maxHeartbeats 4000000 in
set_option maxRecDepth 100000 in
theorem c_TB_addPiece (l : Launch) (g : zG) (sz : Nat) (h p1 p2 p3 : Nat) (n : Nat) (hn : n < 253) : Met l y_TB_addPiece w_TB_addPiece { frames := 1, cells := 0, slots := 0, locals := 22 } (zPw g [.ref h, .int (iI (LOf n)), .int (iI (CAf n))] ([(h, .inr (2, [.ref p1, .ref p2, .ref p3, .int (iI (((n : Nat) : Int)))])), (p1, .inl (zI g, 512, .inl (ai (pcf LOf n)))), (p2, .inl (zI g, 512, .inl (ai (pcf CAf n)))), (p3, .inl (zI g, 512, .inl (ai (pcf SCf n))))]) [] sz) (va_Qv (fun w => w = [(h, .inr (2, [.ref p1, .ref p2, .ref p3, .int (iI (((n + 1 : Nat) : Int)))])), (p1, .inl (zI g, 512, .inl (ai (pcf LOf (n + 1))))), (p2, .inl (zI g, 512, .inl (ai (pcf CAf (n + 1))))), (p3, .inl (zI g, 512, .inl (ai (pcf SCf (n + 1)))))]) (zB g (va_A ([(h, .inr (2, [.ref p1, .ref p2, .ref p3, .int (iI (((n : Nat) : Int)))])), (p1, .inl (zI g, 512, .inl (ai (pcf LOf n)))), (p2, .inl (zI g, 512, .inl (ai (pcf CAf n)))), (p3, .inl (zI g, 512, .inl (ai (pcf SCf n))))]) sz)) (va_A ([(h, .inr (2, [.ref p1, .ref p2, .ref p3, .int (iI (((n : Nat) : Int)))])), (p1, .inl (zI g, 512, .inl (ai (pcf LOf n)))), (p2, .inl (zI g, 512, .inl (ai (pcf CAf n)))), (p3, .inl (zI g, 512, .inl (ai (pcf SCf n))))]) sz)) 0 0 (va_A ([(h, .inr (2, [.ref p1, .ref p2, .ref p3, .int (iI (((n : Nat) : Int)))])), (p1, .inl (zI g, 512, .inl (ai (pcf LOf n)))), (p2, .inl (zI g, 512, .inl (ai (pcf CAf n)))), (p3, .inl (zI g, 512, .inl (ai (pcf SCf n))))]) sz) := by
  refine Met.ofW (cc := b_TB_addPiece) (maxL := 3) (ret := none) (by decide) rfl ?_
  intro p e s m args below meth cd s₁ B hml hv
  obtain ⟨hargs, hsz, hP, hK, hD0, hZ, hO0, hAp⟩ := hv
  have hx := B.exec
  have hb := B.bytes
  have hr := B.returns
  have ht : ∀ w ∈ lw_ok, w.before args s = true := fun w h => atoms_spec (ws := w_TB_addPiece) B.pre w (List.mem_cons_of_mem _ h)
  have hown : s.vm.findClass R_TB = some m.cls := findClass_of_methodNamed B.named
  have hlocks := B.notSynchronized
  subst hsz
  have hD := hD0.self (sz := s.heap.size)
  generalize hAe : va_A ([(h, .inr (2, [.ref p1, .ref p2, .ref p3, .int (iI (((n : Nat) : Int)))])), (p1, .inl (zI g, 512, .inl (ai (pcf LOf n)))), (p2, .inl (zI g, 512, .inl (ai (pcf CAf n)))), (p3, .inl (zI g, 512, .inl (ai (pcf SCf n))))]) s.heap.size = A at hD hZ hAp ⊢
  have hA : ∀ q : Nat, s.heap.size ≤ q → A q := fun q h => by rw [← hAe]; exact Or.inr h
  have hS : va_S A s.heap s.heap [] := va_S.rf
  generalize hQ : MQ below _ args s 0 0 _ = Q
  have hl := lv_entry ([.ref h, .int (iI (LOf n)), .int (iI (CAf n))]) (n := 3) (Nat.le_of_ble_eq_true rfl)
  rw [show entryFrame m args 3 = entryFrame m ([.ref h, .int (iI (LOf n)), .int (iI (CAf n))] : List Value).toArray 3 by rw [hargs], lg_entry_eq]
  generalize (lg_sl ([.ref h, .int (iI (LOf n)), .int (iI (CAf n))]) ++ List.replicate (3 - (lg_sl ([.ref h, .int (iI (LOf n)), .int (iI (CAf n))])).length) Slot.unset).toArray = ls at hl ⊢
  have hl : lv_has ls 3 [(0, .ref h), (1, .int (iI (LOf n))), (2, .int (iI (CAf n)))] := hl
  obtain ⟨H, locs, hHe, hLe⟩ : ∃ (H : Heap) (locs : List Loc), H = s.heap ∧ locs = [] := ⟨_, _, rfl, rfl⟩
  rw [show W p l e _ s m args below meth cd s.heap [] 0 0 Q = W p l e _ s m args below meth cd H locs 0 0 Q by rw [hHe, hLe]]
  rw [← hHe] at hP
  have hS : va_S A s.heap H locs := by rw [hHe, hLe]; exact hS
  have hpn := PL_in n hn
  refine lv_aload_n hx hb d_TB_addPiece_0 rfl (lv_at hl 0 rfl) ?_
  refine va_get (D := g.1) (ci := 2) (v := .int (iI (((n : Nat) : Int)))) (C := R_TB) (T := F_TB) (N := 4) hx hb ht i_TB hown hK hP 0 rfl rfl 3 (by decide) (ht _ k_41) (fun _ h9 => h9) rfl d_TB_addPiece_1 ?_
  refine lv_sipush (v := iI 512) hx hb d_TB_addPiece_4 (by decide) ?_
  refine ix_icmp_lt (tgt := 11) hx hb d_TB_addPiece_7 (by decide) (by omega) (fun c_7 => ?_) (fun c_7 => ?_)
  · refine lv_aload_n hx hb d_TB_addPiece_11 rfl (lv_at hl 0 rfl) ?_
    refine va_get (D := g.1) (ci := 2) (v := .ref p1) (C := R_TB) (T := F_TB) (N := 4) hx hb ht i_TB hown hK hP 0 rfl rfl 0 (by decide) (ht _ k_38) (fun _ h9 => h9) rfl d_TB_addPiece_12 ?_
    refine lv_aload_n hx hb d_TB_addPiece_15 rfl (lv_at hl 0 rfl) ?_
    refine va_get (D := g.1) (ci := 2) (v := .int (iI (((n : Nat) : Int)))) (C := R_TB) (T := F_TB) (N := 4) hx hb ht i_TB hown hK hP 0 rfl rfl 3 (by decide) (ht _ k_41) (fun _ h9 => h9) rfl d_TB_addPiece_16 ?_
    refine lv_iload_n hx hb d_TB_addPiece_19 rfl (lv_at hl 1 rfl) ?_
    refine ix_iast hx hb hK hP hD hS 1 0 rfl rfl (i := (((n : Nat) : Int))) n (by omega) d_TB_addPiece_20 (fun H locs hP hD hS => ?_)
    have hP : va_P g.1 classes [(h, .inr (2, [.ref p1, .ref p2, .ref p3, .int (iI (((n : Nat) : Int)))])), (p1, .inl (zI g, 512, .inl (ai (va_up (pcf LOf n) n (LOf n))))), (p2, .inl (zI g, 512, .inl (ai (pcf CAf n)))), (p3, .inl (zI g, 512, .inl (ai (pcf SCf n))))] H := hP
    have hD : va_D A [(h, .inr (2, [.ref p1, .ref p2, .ref p3, .int (iI (((n : Nat) : Int)))])), (p1, .inl (zI g, 512, .inl (ai (va_up (pcf LOf n) n (LOf n))))), (p2, .inl (zI g, 512, .inl (ai (pcf CAf n)))), (p3, .inl (zI g, 512, .inl (ai (pcf SCf n))))] := hD
    refine lv_aload_n hx hb d_TB_addPiece_21 rfl (lv_at hl 0 rfl) ?_
    refine va_get (D := g.1) (ci := 2) (v := .ref p2) (C := R_TB) (T := F_TB) (N := 4) hx hb ht i_TB hown hK hP 0 rfl rfl 1 (by decide) (ht _ k_39) (fun _ h9 => h9) rfl d_TB_addPiece_22 ?_
    refine lv_aload_n hx hb d_TB_addPiece_25 rfl (lv_at hl 0 rfl) ?_
    refine va_get (D := g.1) (ci := 2) (v := .int (iI (((n : Nat) : Int)))) (C := R_TB) (T := F_TB) (N := 4) hx hb ht i_TB hown hK hP 0 rfl rfl 3 (by decide) (ht _ k_41) (fun _ h9 => h9) rfl d_TB_addPiece_26 ?_
    refine lv_iload_n hx hb d_TB_addPiece_29 rfl (lv_at hl 2 rfl) ?_
    refine ix_iast hx hb hK hP hD hS 2 0 rfl rfl (i := (((n : Nat) : Int))) n (by omega) d_TB_addPiece_30 (fun H locs hP hD hS => ?_)
    have hP : va_P g.1 classes [(h, .inr (2, [.ref p1, .ref p2, .ref p3, .int (iI (((n : Nat) : Int)))])), (p1, .inl (zI g, 512, .inl (ai (va_up (pcf LOf n) n (LOf n))))), (p2, .inl (zI g, 512, .inl (ai (va_up (pcf CAf n) n (CAf n))))), (p3, .inl (zI g, 512, .inl (ai (pcf SCf n))))] H := hP
    have hD : va_D A [(h, .inr (2, [.ref p1, .ref p2, .ref p3, .int (iI (((n : Nat) : Int)))])), (p1, .inl (zI g, 512, .inl (ai (va_up (pcf LOf n) n (LOf n))))), (p2, .inl (zI g, 512, .inl (ai (va_up (pcf CAf n) n (CAf n))))), (p3, .inl (zI g, 512, .inl (ai (pcf SCf n))))] := hD
    refine lv_aload_n hx hb d_TB_addPiece_31 rfl (lv_at hl 0 rfl) ?_
    refine va_get (D := g.1) (ci := 2) (v := .ref p3) (C := R_TB) (T := F_TB) (N := 4) hx hb ht i_TB hown hK hP 0 rfl rfl 2 (by decide) (ht _ k_40) (fun _ h9 => h9) rfl d_TB_addPiece_32 ?_
    refine lv_aload_n hx hb d_TB_addPiece_35 rfl (lv_at hl 0 rfl) ?_
    refine va_get (D := g.1) (ci := 2) (v := .int (iI (((n : Nat) : Int)))) (C := R_TB) (T := F_TB) (N := 4) hx hb ht i_TB hown hK hP 0 rfl rfl 3 (by decide) (ht _ k_41) (fun _ h9 => h9) rfl d_TB_addPiece_36 ?_
    refine lv_iload_n hx hb d_TB_addPiece_39 rfl (lv_at hl 1 rfl) ?_
    refine lv_iload_n hx hb d_TB_addPiece_40 rfl (lv_at hl 2 rfl) ?_
    refine zcS (As := [.int (iI (LOf n)), .int (iI (CAf n))]) (rest := [.int (iI (((n : Nat) : Int))), .ref p3]) ⟨hx, hb, hml, hown, ht⟩ t_TB_41 (c_TB_findScript l g (LOf n) (CAf n) (by omega) (by omega)) ⟨Nat.le_of_ble_eq_true rfl, Nat.le_of_ble_eq_true rfl⟩ ⟨Nat.zero_le _, Nat.zero_le _⟩ hK hZ hS zP_nil rfl hl.1 rfl (Nat.le_of_ble_eq_true rfl) d_TB_addPiece_41 (fun r_41 h_41 => ?_)
    subst h_41
    refine ix_iast hx hb hK hP hD hS 3 0 rfl rfl (i := (((n : Nat) : Int))) n (by omega) d_TB_addPiece_44 (fun H locs hP hD hS => ?_)
    have hP : va_P g.1 classes [(h, .inr (2, [.ref p1, .ref p2, .ref p3, .int (iI (((n : Nat) : Int)))])), (p1, .inl (zI g, 512, .inl (ai (va_up (pcf LOf n) n (LOf n))))), (p2, .inl (zI g, 512, .inl (ai (va_up (pcf CAf n) n (CAf n))))), (p3, .inl (zI g, 512, .inl (ai (va_up (pcf SCf n) n (fsF (LOf n) (CAf n))))))] H := hP
    have hD : va_D A [(h, .inr (2, [.ref p1, .ref p2, .ref p3, .int (iI (((n : Nat) : Int)))])), (p1, .inl (zI g, 512, .inl (ai (va_up (pcf LOf n) n (LOf n))))), (p2, .inl (zI g, 512, .inl (ai (va_up (pcf CAf n) n (CAf n))))), (p3, .inl (zI g, 512, .inl (ai (va_up (pcf SCf n) n (fsF (LOf n) (CAf n))))))] := hD
    refine lv_aload_n hx hb d_TB_addPiece_45 rfl (lv_at hl 0 rfl) ?_
    refine lv_dup hx hb d_TB_addPiece_46 rfl ?_
    refine va_get (D := g.1) (ci := 2) (v := .int (iI (((n : Nat) : Int)))) (C := R_TB) (T := F_TB) (N := 4) hx hb ht i_TB hown hK hP 0 rfl rfl 3 (by decide) (ht _ k_41) (fun _ h9 => h9) rfl d_TB_addPiece_47 ?_
    refine lv_iconst (v := iI 1) hx hb d_TB_addPiece_50 rfl ?_
    refine ix_iadd hx hb d_TB_addPiece_51 ?_
    refine va_put (D := g.1) (ci := 2) (v := .int (iI ((((n : Nat) : Int)) + 1))) (ty := .int) (C := R_TB) (T := F_TB) (N := 4) hx hb ht i_TB t_TB t_TB_ok n_TB hown hK hP hD hS 0 rfl rfl 3 (by decide) (ht _ k_41) (fun _ h9 => h9) rfl (by decide +kernel) rfl rfl (Nat.le_of_ble_eq_true rfl) d_TB_addPiece_52 (fun H locs hP hD hS => ?_)
    have hP : va_P g.1 classes [(h, .inr (2, [.ref p1, .ref p2, .ref p3, .int (iI ((((n : Nat) : Int)) + 1))])), (p1, .inl (zI g, 512, .inl (ai (va_up (pcf LOf n) n (LOf n))))), (p2, .inl (zI g, 512, .inl (ai (va_up (pcf CAf n) n (CAf n))))), (p3, .inl (zI g, 512, .inl (ai (va_up (pcf SCf n) n (fsF (LOf n) (CAf n))))))] H := hP
    have hD : va_D A [(h, .inr (2, [.ref p1, .ref p2, .ref p3, .int (iI ((((n : Nat) : Int)) + 1))])), (p1, .inl (zI g, 512, .inl (ai (va_up (pcf LOf n) n (LOf n))))), (p2, .inl (zI g, 512, .inl (ai (va_up (pcf CAf n) n (CAf n))))), (p3, .inl (zI g, 512, .inl (ai (va_up (pcf SCf n) n (fsF (LOf n) (CAf n))))))] := hD
    subst hQ
    exact W.vret hx hb hr (fun t h9 hW => ⟨⟨_, rfl, by rw [pcf_s, pcf_s, fs_ok n hn, pcf_s] <;> rfl, by rw [h9]; exact hP, va_K.moved hW.alike hK, hD⟩, hS.F h9⟩) hS.2.2 d_TB_addPiece_55
  · exact absurd c_7 (by omega)
set_option maxHeartbeats 4000000 in
set_option maxRecDepth 100000 in
theorem c_TB_addRow (l : Launch) (g : zG) (sz : Nat) (h p1 p2 p3 : Nat) (n n2 : Nat) (low beh ct : Int) (hb0 : 0 ≤ low ∧ low ≤ 1000000 ∧ 0 ≤ beh ∧ beh ≤ 1000000 ∧ 0 ≤ ct ∧ ct ≤ 25) (h1 : ¬ ct = 25 → low = LOf n ∧ ct = CAf n ∧ n2 = n + 1 ∧ n < 253) (h2 : ct = 25 → n ≤ n2 ∧ n2 ≤ 253 ∧ beh = low + ((n2 - n : Nat) : Int) ∧ ∀ j, j < n2 - n → LOf (n + j) = low + ((j : Nat) : Int) ∧ CAf (n + j) = if j % 2 = 0 then 6 else 4) : Met l y_TB_addRow w_TB_addRow { frames := 2, cells := 0, slots := 0, locals := 44 } (zPw g [.ref h, .int (iI low), .int (iI beh), .int (iI ct)] ([(h, .inr (2, [.ref p1, .ref p2, .ref p3, .int (iI (((n : Nat) : Int)))])), (p1, .inl (zI g, 512, .inl (ai (pcf LOf n)))), (p2, .inl (zI g, 512, .inl (ai (pcf CAf n)))), (p3, .inl (zI g, 512, .inl (ai (pcf SCf n))))]) [] sz) (va_Qv (fun w => w = [(h, .inr (2, [.ref p1, .ref p2, .ref p3, .int (iI (((n2 : Nat) : Int)))])), (p1, .inl (zI g, 512, .inl (ai (pcf LOf n2)))), (p2, .inl (zI g, 512, .inl (ai (pcf CAf n2)))), (p3, .inl (zI g, 512, .inl (ai (pcf SCf n2))))]) (zB g (va_A ([(h, .inr (2, [.ref p1, .ref p2, .ref p3, .int (iI (((n : Nat) : Int)))])), (p1, .inl (zI g, 512, .inl (ai (pcf LOf n)))), (p2, .inl (zI g, 512, .inl (ai (pcf CAf n)))), (p3, .inl (zI g, 512, .inl (ai (pcf SCf n))))]) sz)) (va_A ([(h, .inr (2, [.ref p1, .ref p2, .ref p3, .int (iI (((n : Nat) : Int)))])), (p1, .inl (zI g, 512, .inl (ai (pcf LOf n)))), (p2, .inl (zI g, 512, .inl (ai (pcf CAf n)))), (p3, .inl (zI g, 512, .inl (ai (pcf SCf n))))]) sz)) 0 0 (va_A ([(h, .inr (2, [.ref p1, .ref p2, .ref p3, .int (iI (((n : Nat) : Int)))])), (p1, .inl (zI g, 512, .inl (ai (pcf LOf n)))), (p2, .inl (zI g, 512, .inl (ai (pcf CAf n)))), (p3, .inl (zI g, 512, .inl (ai (pcf SCf n))))]) sz) := by
  refine Met.ofW (cc := b_TB_addRow) (maxL := 5) (ret := none) (by decide) rfl ?_
  intro p e s m args below meth cd s₁ B hml hv
  obtain ⟨hargs, hsz, hP, hK, hD0, hZ, hO0, hAp⟩ := hv
  have hx := B.exec
  have hb := B.bytes
  have hr := B.returns
  have ht : ∀ w ∈ lw_ok, w.before args s = true := fun w h => atoms_spec (ws := w_TB_addRow) B.pre w (List.mem_cons_of_mem _ h)
  have hown : s.vm.findClass R_TB = some m.cls := findClass_of_methodNamed B.named
  have hlocks := B.notSynchronized
  subst hsz
  have hD := hD0.self (sz := s.heap.size)
  generalize hAe : va_A ([(h, .inr (2, [.ref p1, .ref p2, .ref p3, .int (iI (((n : Nat) : Int)))])), (p1, .inl (zI g, 512, .inl (ai (pcf LOf n)))), (p2, .inl (zI g, 512, .inl (ai (pcf CAf n)))), (p3, .inl (zI g, 512, .inl (ai (pcf SCf n))))]) s.heap.size = A at hD hZ hAp ⊢
  have hA : ∀ q : Nat, s.heap.size ≤ q → A q := fun q h => by rw [← hAe]; exact Or.inr h
  have hS : va_S A s.heap s.heap [] := va_S.rf
  generalize hQ : MQ below _ args s 0 0 _ = Q
  have hl := lv_entry ([.ref h, .int (iI low), .int (iI beh), .int (iI ct)]) (n := 5) (Nat.le_of_ble_eq_true rfl)
  rw [show entryFrame m args 5 = entryFrame m ([.ref h, .int (iI low), .int (iI beh), .int (iI ct)] : List Value).toArray 5 by rw [hargs], lg_entry_eq]
  generalize (lg_sl ([.ref h, .int (iI low), .int (iI beh), .int (iI ct)]) ++ List.replicate (5 - (lg_sl ([.ref h, .int (iI low), .int (iI beh), .int (iI ct)])).length) Slot.unset).toArray = ls at hl ⊢
  have hl : lv_has ls 5 [(0, .ref h), (1, .int (iI low)), (2, .int (iI beh)), (3, .int (iI ct))] := hl
  obtain ⟨H, locs, hHe, hLe⟩ : ∃ (H : Heap) (locs : List Loc), H = s.heap ∧ locs = [] := ⟨_, _, rfl, rfl⟩
  rw [show W p l e _ s m args below meth cd s.heap [] 0 0 Q = W p l e _ s m args below meth cd H locs 0 0 Q by rw [hHe, hLe]]
  rw [← hHe] at hP
  have hS : va_S A s.heap H locs := by rw [hHe, hLe]; exact hS
  have J16 : ∀ fu : Nat, ∀ (j : Nat) (H : Heap) (locs : List Loc) (ls : Array Slot), n2 - n - j < fu → lv_has ls 5 [(0, .ref h), (1, .int (iI low)), (2, .int (iI beh)), (4, .int (iI (low + ((j : Nat) : Int))))] → (ct = 25) → (n + j ≤ n2) → va_P g.1 classes ([(h, .inr (2, [.ref p1, .ref p2, .ref p3, .int (iI (((n + j : Nat) : Int)))])), (p1, .inl (zI g, 512, .inl (ai (pcf LOf (n + j))))), (p2, .inl (zI g, 512, .inl (ai (pcf CAf (n + j))))), (p3, .inl (zI g, 512, .inl (ai (pcf SCf (n + j)))))]) H → va_D A ([(h, .inr (2, [.ref p1, .ref p2, .ref p3, .int (iI (((n + j : Nat) : Int)))])), (p1, .inl (zI g, 512, .inl (ai (pcf LOf (n + j))))), (p2, .inl (zI g, 512, .inl (ai (pcf CAf (n + j))))), (p3, .inl (zI g, 512, .inl (ai (pcf SCf (n + j)))))]) → va_S A s.heap H locs → W p l e (headSpec w_TB_addRow { frames := 2, cells := 0, slots := 0, locals := 44 }).room s m args below meth cd H locs 0 0 Q (F0 m 16 ls []) := by
    intro fu
    induction fu with
    | zero => exact fun _ _ _ _ hfu _ _ _ _ _ _ => absurd hfu (Nat.not_lt_zero _)
    | succ fu ih =>
      intro j H locs ls hfu hl hc25 hj hP hD hS
      obtain ⟨g1, g2, g3, g4⟩ := h2 hc25
      refine lv_iload hx hb d_TB_addRow_16 (lv_at hl 3 rfl) ?_
      refine lv_iload_n hx hb d_TB_addRow_18 rfl (lv_at hl 2 rfl) ?_
      refine ix_icmp_ge (tgt := 49) hx hb d_TB_addRow_19 (by decide) (by omega) (fun c_19 => ?_) (fun c_19 => ?_)
      · subst hQ
        exact W.vret hx hb hr (fun t h9 hW => ⟨⟨_, rfl, by rw [show n + j = n2 by omega], by rw [h9]; exact hP, va_K.moved hW.alike hK, hD⟩, hS.F h9⟩) hS.2.2 d_TB_addRow_49
      · refine lv_aload_n hx hb d_TB_addRow_22 rfl (lv_at hl 0 rfl) ?_
        refine lv_iload hx hb d_TB_addRow_23 (lv_at hl 3 rfl) ?_
        refine lv_iload hx hb d_TB_addRow_25 (lv_at hl 3 rfl) ?_
        refine lv_iload_n hx hb d_TB_addRow_27 rfl (lv_at hl 1 rfl) ?_
        refine ix_isub hx hb d_TB_addRow_28 ?_
        refine lv_iconst (v := iI 2) hx hb d_TB_addRow_29 rfl ?_
        refine ix_irem hx hb d_TB_addRow_30 (by omega) ?_
        refine ix_if_ne (tgt := 39) hx hb d_TB_addRow_31 (by decide) (by omega) (fun c_31 => ?_) (fun c_31 => ?_)
        · refine lv_iconst (v := iI 4) hx hb d_TB_addRow_39 rfl ?_
          have h9 := c_TB_addPiece l g H.size h p1 p2 p3 (n + j) (by omega)
          have e1 := (g4 j (by omega)).1
          have e2 : CAf (n + j) = 4 := by rw [(g4 j (by omega)).2]; first | rw [if_pos (by omega)] | rw [if_neg (by omega)]
          rw [e1, e2] at h9
          have hF_40 := va_free (wc := [(h, .inr (2, [.ref p1, .ref p2, .ref p3, .int (iI (((n + j : Nat) : Int)))])), (p1, .inl (zI g, 512, .inl (ai (pcf LOf (n + j))))), (p2, .inl (zI g, 512, .inl (ai (pcf CAf (n + j))))), (p3, .inl (zI g, 512, .inl (ai (pcf SCf (n + j)))))]) hD hS hA [0, 1, 2, 3] rfl
          refine zcVv (ci := 2) (q0 := 0) (As := [.int (iI (low + ((j : Nat) : Int))), .int (iI 4)]) (rest := []) ⟨hx, hb, hml, hown, ht⟩ v_TB_28 (h9) ⟨Nat.le_of_ble_eq_true rfl, Nat.le_of_ble_eq_true rfl⟩ ⟨Nat.zero_le _, Nat.zero_le _⟩ hK hZ hS hP (hD.weaken (fun _ _ _ _ => trivial)) hF_40 zP_nil zAp_nil rfl rfl rfl rfl hl.1 rfl (Nat.le_of_ble_eq_true rfl) d_TB_addRow_40 (fun w_40 H locs h_40 pp_40 dd_40 zz_40 kk_40 hS => ?_)
          subst h_40
          have hP : va_P g.1 classes [(h, .inr (2, [.ref p1, .ref p2, .ref p3, .int (iI (((n + j + 1 : Nat) : Int)))])), (p1, .inl (zI g, 512, .inl (ai (pcf LOf (n + j + 1))))), (p2, .inl (zI g, 512, .inl (ai (pcf CAf (n + j + 1))))), (p3, .inl (zI g, 512, .inl (ai (pcf SCf (n + j + 1)))))] H := pp_40
          have hD : va_D A [(h, .inr (2, [.ref p1, .ref p2, .ref p3, .int (iI (((n + j + 1 : Nat) : Int)))])), (p1, .inl (zI g, 512, .inl (ai (pcf LOf (n + j + 1))))), (p2, .inl (zI g, 512, .inl (ai (pcf CAf (n + j + 1))))), (p3, .inl (zI g, 512, .inl (ai (pcf SCf (n + j + 1)))))] := dd_40.weaken (fun _ _ _ h9 => hF_40 _ h9)
          refine lv_iinc (v := iI ((low + ((j : Nat) : Int)) + 1)) (lv' := [(4, .int (iI ((low + ((j : Nat) : Int)) + 1))), (0, .ref h), (1, .int (iI low)), (2, .int (iI beh))]) hx hb d_TB_addRow_43 hl (k := 3) rfl (iI_add _ _) (by decide) rfl (fun ls hl => ?_)
          refine lv_goto (tgt := 16) hx hb d_TB_addRow_46 (by decide) ?_
          rw [show low + ((j : Nat) : Int) + 1 = low + ((j + 1 : Nat) : Int) by omega] at hl
          exact ih (j + 1) _ _ ls (by omega) (lv_sub hl [1, 2, 3, 0] rfl) (by exact hc25) (by omega) hP hD hS
        · refine lv_bipush (v := iI 6) hx hb d_TB_addRow_34 (by decide) ?_
          refine lv_goto (tgt := 40) hx hb d_TB_addRow_36 (by decide) ?_
          have h9 := c_TB_addPiece l g H.size h p1 p2 p3 (n + j) (by omega)
          have e1 := (g4 j (by omega)).1
          have e2 : CAf (n + j) = 6 := by rw [(g4 j (by omega)).2]; first | rw [if_pos (by omega)] | rw [if_neg (by omega)]
          rw [e1, e2] at h9
          have hF_40 := va_free (wc := [(h, .inr (2, [.ref p1, .ref p2, .ref p3, .int (iI (((n + j : Nat) : Int)))])), (p1, .inl (zI g, 512, .inl (ai (pcf LOf (n + j))))), (p2, .inl (zI g, 512, .inl (ai (pcf CAf (n + j))))), (p3, .inl (zI g, 512, .inl (ai (pcf SCf (n + j)))))]) hD hS hA [0, 1, 2, 3] rfl
          refine zcVv (ci := 2) (q0 := 0) (As := [.int (iI (low + ((j : Nat) : Int))), .int (iI 6)]) (rest := []) ⟨hx, hb, hml, hown, ht⟩ v_TB_28 (h9) ⟨Nat.le_of_ble_eq_true rfl, Nat.le_of_ble_eq_true rfl⟩ ⟨Nat.zero_le _, Nat.zero_le _⟩ hK hZ hS hP (hD.weaken (fun _ _ _ _ => trivial)) hF_40 zP_nil zAp_nil rfl rfl rfl rfl hl.1 rfl (Nat.le_of_ble_eq_true rfl) d_TB_addRow_40 (fun w_40 H locs h_40 pp_40 dd_40 zz_40 kk_40 hS => ?_)
          subst h_40
          have hP : va_P g.1 classes [(h, .inr (2, [.ref p1, .ref p2, .ref p3, .int (iI (((n + j + 1 : Nat) : Int)))])), (p1, .inl (zI g, 512, .inl (ai (pcf LOf (n + j + 1))))), (p2, .inl (zI g, 512, .inl (ai (pcf CAf (n + j + 1))))), (p3, .inl (zI g, 512, .inl (ai (pcf SCf (n + j + 1)))))] H := pp_40
          have hD : va_D A [(h, .inr (2, [.ref p1, .ref p2, .ref p3, .int (iI (((n + j + 1 : Nat) : Int)))])), (p1, .inl (zI g, 512, .inl (ai (pcf LOf (n + j + 1))))), (p2, .inl (zI g, 512, .inl (ai (pcf CAf (n + j + 1))))), (p3, .inl (zI g, 512, .inl (ai (pcf SCf (n + j + 1)))))] := dd_40.weaken (fun _ _ _ h9 => hF_40 _ h9)
          refine lv_iinc (v := iI ((low + ((j : Nat) : Int)) + 1)) (lv' := [(4, .int (iI ((low + ((j : Nat) : Int)) + 1))), (0, .ref h), (1, .int (iI low)), (2, .int (iI beh))]) hx hb d_TB_addRow_43 hl (k := 3) rfl (iI_add _ _) (by decide) rfl (fun ls hl => ?_)
          refine lv_goto (tgt := 16) hx hb d_TB_addRow_46 (by decide) ?_
          rw [show low + ((j : Nat) : Int) + 1 = low + ((j + 1 : Nat) : Int) by omega] at hl
          exact ih (j + 1) _ _ ls (by omega) (lv_sub hl [1, 2, 3, 0] rfl) (by exact hc25) (by omega) hP hD hS
  refine lv_iload_n hx hb d_TB_addRow_0 rfl (lv_at hl 3 rfl) ?_
  refine lv_bipush (v := iI 25) hx hb d_TB_addRow_1 (by decide) ?_
  refine ix_icmp_eq (tgt := 13) hx hb d_TB_addRow_3 (by decide) (by omega) (fun c_3 => ?_) (fun c_3 => ?_)
  · refine lv_iload_n hx hb d_TB_addRow_13 rfl (lv_at hl 1 rfl) ?_
    refine lv_istore (lv' := [(4, .int (iI low)), (0, .ref h), (1, .int (iI low)), (2, .int (iI beh)), (3, .int (iI ct))]) hx hb d_TB_addRow_14 hl (by decide) rfl (fun ls hl => ?_)
    obtain ⟨g1, g2, g3, g4⟩ := h2 c_3
    have el : low = low + ((0 : Nat) : Int) := by omega
    have hl : lv_has ls 5 [(4, .int (iI (low + ((0 : Nat) : Int)))), (0, .ref h), (1, .int (iI low)), (2, .int (iI beh)), (3, .int (iI ct))] := by rw [← el]; exact hl
    exact J16 (_ + 1) 0 _ _ ls (Nat.lt_succ_self _) (lv_sub hl [1, 2, 3, 0] rfl) (by exact c_3) (by omega) hP hD hS
  · have d9 := h1 c_3
    refine lv_aload_n hx hb d_TB_addRow_6 rfl (lv_at hl 0 rfl) ?_
    refine lv_iload_n hx hb d_TB_addRow_7 rfl (lv_at hl 1 rfl) ?_
    refine lv_iload_n hx hb d_TB_addRow_8 rfl (lv_at hl 3 rfl) ?_
    have h9 := c_TB_addPiece l g H.size h p1 p2 p3 n (by omega)
    obtain ⟨d1, d2, d3, d4⟩ := h1 c_3
    rw [← d1, ← d2] at h9
    have hF_9 := va_free (wc := [(h, .inr (2, [.ref p1, .ref p2, .ref p3, .int (iI (((n : Nat) : Int)))])), (p1, .inl (zI g, 512, .inl (ai (pcf LOf n)))), (p2, .inl (zI g, 512, .inl (ai (pcf CAf n)))), (p3, .inl (zI g, 512, .inl (ai (pcf SCf n))))]) hD hS hA [0, 1, 2, 3] rfl
    refine zcVv (ci := 2) (q0 := 0) (As := [.int (iI low), .int (iI ct)]) (rest := []) ⟨hx, hb, hml, hown, ht⟩ v_TB_28 (h9) ⟨Nat.le_of_ble_eq_true rfl, Nat.le_of_ble_eq_true rfl⟩ ⟨Nat.zero_le _, Nat.zero_le _⟩ hK hZ hS hP (hD.weaken (fun _ _ _ _ => trivial)) hF_9 zP_nil zAp_nil rfl rfl rfl rfl hl.1 rfl (Nat.le_of_ble_eq_true rfl) d_TB_addRow_9 (fun w_9 H locs h_9 pp_9 dd_9 zz_9 kk_9 hS => ?_)
    subst h_9
    have hP : va_P g.1 classes [(h, .inr (2, [.ref p1, .ref p2, .ref p3, .int (iI (((n + 1 : Nat) : Int)))])), (p1, .inl (zI g, 512, .inl (ai (pcf LOf (n + 1))))), (p2, .inl (zI g, 512, .inl (ai (pcf CAf (n + 1))))), (p3, .inl (zI g, 512, .inl (ai (pcf SCf (n + 1)))))] H := pp_9
    have hD : va_D A [(h, .inr (2, [.ref p1, .ref p2, .ref p3, .int (iI (((n + 1 : Nat) : Int)))])), (p1, .inl (zI g, 512, .inl (ai (pcf LOf (n + 1))))), (p2, .inl (zI g, 512, .inl (ai (pcf CAf (n + 1))))), (p3, .inl (zI g, 512, .inl (ai (pcf SCf (n + 1)))))] := dd_9.weaken (fun _ _ _ h9 => hF_9 _ h9)
    subst hQ
    exact W.vret hx hb hr (fun t h9 hW => ⟨⟨_, rfl, by rw [(h1 c_3).2.2.1], by rw [h9]; exact hP, va_K.moved hW.alike hK, hD⟩, hS.F h9⟩) hS.2.2 d_TB_addRow_12
set_option maxHeartbeats 4000000 in
set_option maxRecDepth 100000 in
theorem c_TB_init (l : Launch) (g : zG) (sz : Nat) (h : Nat) (x0 : Int)  : Met l y_TB_init w_TB_init { frames := 3, cells := 3, slots := 1536, locals := 68 } (zPw g [.ref h] ([(h, .inr (2, [.null, .null, .null, .int (iI x0)]))]) [] sz) (va_Qv (fun w => ∃ q1 q2 q3 : Nat, w = [(h, .inr (2, [.ref q1, .ref q2, .ref q3, .int (iI 253)])), (q1, .inl (zI g, 512, .inl (ai LOf))), (q2, .inl (zI g, 512, .inl (ai CAf))), (q3, .inl (zI g, 512, .inl (ai SCf)))]) (zB g (va_A ([(h, .inr (2, [.null, .null, .null, .int (iI x0)]))]) sz)) (va_A ([(h, .inr (2, [.null, .null, .null, .int (iI x0)]))]) sz)) 3 1536 (va_A ([(h, .inr (2, [.null, .null, .null, .int (iI x0)]))]) sz) := by
  refine Met.ofW (cc := b_TB_init) (maxL := 4) (ret := none) (by decide) rfl ?_
  intro p e s m args below meth cd s₁ B hml hv
  obtain ⟨hargs, hsz, hP, hK, hD0, hZ, hO0, hAp⟩ := hv
  have hx := B.exec
  have hb := B.bytes
  have hr := B.returns
  have ht : ∀ w ∈ lw_ok, w.before args s = true := fun w h => atoms_spec (ws := w_TB_init) B.pre w (List.mem_cons_of_mem _ h)
  have hown : s.vm.findClass R_TB = some m.cls := findClass_of_methodNamed B.named
  have hlocks := B.notSynchronized
  have hin : meth.name = "<init>" := (name_of_methodNamed B.named B.method).1
  subst hsz
  have hD := hD0.self (sz := s.heap.size)
  generalize hAe : va_A ([(h, .inr (2, [.null, .null, .null, .int (iI x0)]))]) s.heap.size = A at hD hZ hAp ⊢
  have hA : ∀ q : Nat, s.heap.size ≤ q → A q := fun q h => by rw [← hAe]; exact Or.inr h
  have hS : va_S A s.heap s.heap [] := va_S.rf
  generalize hQ : MQ below _ args s 3 1536 _ = Q
  have hl := lv_entry ([.ref h]) (n := 4) (Nat.le_of_ble_eq_true rfl)
  rw [show entryFrame m args 4 = entryFrame m ([.ref h] : List Value).toArray 4 by rw [hargs], lg_entry_eq]
  generalize (lg_sl ([.ref h]) ++ List.replicate (4 - (lg_sl ([.ref h])).length) Slot.unset).toArray = ls at hl ⊢
  have hl : lv_has ls 4 [(0, .ref h)] := hl
  obtain ⟨H, locs, hHe, hLe⟩ : ∃ (H : Heap) (locs : List Loc), H = s.heap ∧ locs = [] := ⟨_, _, rfl, rfl⟩
  rw [show W p l e _ s m args below meth cd s.heap [] 0 0 Q = W p l e _ s m args below meth cd H locs 0 0 Q by rw [hHe, hLe]]
  rw [← hHe] at hP
  have hS : va_S A s.heap H locs := by rw [hHe, hLe]; exact hS
  have J40 : ∀ fu : Nat, ∀ (qa qb qc r9 : Nat) (H : Heap) (locs : List Loc) (ls : Array Slot), 107 - r9 < fu → lv_has ls 4 [(0, .ref h), (1, .int (iI (((TRx r9 : Nat) : Int)))), (2, .int (iI (((3 * r9 : Nat) : Int))))] → (r9 ≤ 107) → va_P g.1 classes ([(h, .inr (2, [.ref qa, .ref qb, .ref qc, .int (iI (((TRn r9 : Nat) : Int)))])), (qa, .inl (zI g, 512, .inl (ai (pcf LOf (TRn r9))))), (qb, .inl (zI g, 512, .inl (ai (pcf CAf (TRn r9))))), (qc, .inl (zI g, 512, .inl (ai (pcf SCf (TRn r9)))))]) H → va_D A ([(h, .inr (2, [.ref qa, .ref qb, .ref qc, .int (iI (((TRn r9 : Nat) : Int)))])), (qa, .inl (zI g, 512, .inl (ai (pcf LOf (TRn r9))))), (qb, .inl (zI g, 512, .inl (ai (pcf CAf (TRn r9))))), (qc, .inl (zI g, 512, .inl (ai (pcf SCf (TRn r9)))))]) → va_S A s.heap H locs → W p l e (headSpec w_TB_init { frames := 3, cells := 3, slots := 1536, locals := 68 }).room s m args below meth cd H locs 3 1536 Q (F0 m 40 ls []) := by
    intro fu
    induction fu with
    | zero => exact fun _ _ _ _ _ _ _ hfu _ _ _ _ _ => absurd hfu (Nat.not_lt_zero _)
    | succ fu ih =>
      intro qa qb qc r9 H locs ls hfu hl hr9 hP hD hS
      have J67 : ∀ (H : Heap) (locs : List Loc) (ls : Array Slot), lv_has ls 4 [(0, .ref h), (2, .int (iI (((3 * r9 : Nat) : Int)))), (3, .int (iI (rwc r9 0)))] → (r9 < 107) → va_P g.1 classes ([(h, .inr (2, [.ref qa, .ref qb, .ref qc, .int (iI (((TRm r9 : Nat) : Int)))])), (qa, .inl (zI g, 512, .inl (ai (pcf LOf (TRm r9))))), (qb, .inl (zI g, 512, .inl (ai (pcf CAf (TRm r9))))), (qc, .inl (zI g, 512, .inl (ai (pcf SCf (TRm r9)))))]) H → va_D A ([(h, .inr (2, [.ref qa, .ref qb, .ref qc, .int (iI (((TRm r9 : Nat) : Int)))])), (qa, .inl (zI g, 512, .inl (ai (pcf LOf (TRm r9))))), (qb, .inl (zI g, 512, .inl (ai (pcf CAf (TRm r9))))), (qc, .inl (zI g, 512, .inl (ai (pcf SCf (TRm r9)))))]) → va_S A s.heap H locs → W p l e (headSpec w_TB_init { frames := 3, cells := 3, slots := 1536, locals := 68 }).room s m args below meth cd H locs 3 1536 Q (F0 m 67 ls []) := by
        intro  H locs ls hl hlt hP hD hS
        obtain ⟨⟨b1, b2, b3⟩, ⟨b4, b5, b6, b7, b8, b9, b0⟩, bg, bx, br⟩ := row_ok r9 hlt
        have k0 : (stE 18).getD (3 * r9) 0 = rwc r9 0 := rfl
        have k1 : (stE 18).getD (3 * r9 + 1) 0 = rwc r9 1 := rfl
        have k2 : (stE 18).getD (3 * r9 + 2) 0 = rwc r9 2 := rfl
        refine ix_gets hx hb hZ 18 (by decide) hS hown (ht _ k_23) d_TB_init_67 ?_
        refine lv_iload_n hx hb d_TB_init_70 rfl (lv_at hl 1 rfl) ?_
        refine lv_iconst (v := iI 1) hx hb d_TB_init_71 rfl ?_
        refine ix_iadd hx hb d_TB_init_72 ?_
        refine ix_tald hx hb hZ 18 (by decide) hS (z := ((((3 * r9 : Nat) : Int)) + 1)) ((3 * r9) + 1) (by refine ⟨by omega, ?_, by omega⟩; show _ < (stE 18).length; simp only [stE, List.length_cons, List.length_nil]; omega) d_TB_init_73 ?_
        rw [k1]
        refine lv_iconst (v := iI 1) hx hb d_TB_init_74 rfl ?_
        refine ix_iadd hx hb d_TB_init_75 ?_
        refine lv_istore_n (lv' := [(1, .int (iI ((rwc r9 1) + 1))), (0, .ref h), (2, .int (iI (((3 * r9 : Nat) : Int)))), (3, .int (iI (rwc r9 0)))]) hx hb d_TB_init_76 rfl hl (by decide) rfl (fun ls hl => ?_)
        refine lv_aload_n hx hb d_TB_init_77 rfl (lv_at hl 1 rfl) ?_
        refine lv_iload_n hx hb d_TB_init_78 rfl (lv_at hl 3 rfl) ?_
        refine lv_iload_n hx hb d_TB_init_79 rfl (lv_at hl 0 rfl) ?_
        refine ix_gets hx hb hZ 18 (by decide) hS hown (ht _ k_23) d_TB_init_80 ?_
        refine lv_iload_n hx hb d_TB_init_83 rfl (lv_at hl 2 rfl) ?_
        refine lv_iconst (v := iI 2) hx hb d_TB_init_84 rfl ?_
        refine ix_iadd hx hb d_TB_init_85 ?_
        refine ix_tald hx hb hZ 18 (by decide) hS (z := ((((3 * r9 : Nat) : Int)) + 2)) ((3 * r9) + 2) (by refine ⟨by omega, ?_, by omega⟩; show _ < (stE 18).length; simp only [stE, List.length_cons, List.length_nil]; omega) d_TB_init_86 ?_
        rw [k2]
        have hF_87 := va_free (wc := [(h, .inr (2, [.ref qa, .ref qb, .ref qc, .int (iI (((TRm r9 : Nat) : Int)))])), (qa, .inl (zI g, 512, .inl (ai (pcf LOf (TRm r9))))), (qb, .inl (zI g, 512, .inl (ai (pcf CAf (TRm r9))))), (qc, .inl (zI g, 512, .inl (ai (pcf SCf (TRm r9)))))]) hD hS hA [0, 1, 2, 3] rfl
        refine zcVv (ci := 2) (q0 := 0) (As := [.int (iI (rwc r9 0)), .int (iI ((rwc r9 1) + 1)), .int (iI (rwc r9 2))]) (rest := []) ⟨hx, hb, hml, hown, ht⟩ v_TB_32 (c_TB_addRow l g H.size h qa qb qc (TRm r9) (TRn (r9 + 1)) (rwc r9 0) (rwc r9 1 + 1) (rwc r9 2) (by omega) (fun q9 => by rcases br with ⟨_, t1, t2, t3⟩ | ⟨t0, _⟩; exact ⟨t1, t2, t3, by omega⟩; exact absurd t0 q9) (fun q9 => by rcases br with ⟨t0, _⟩ | ⟨_, t1, t2, t3⟩; exact absurd q9 t0; exact ⟨t1, by omega, t2, t3⟩)) ⟨Nat.le_of_ble_eq_true rfl, Nat.le_of_ble_eq_true rfl⟩ ⟨Nat.le_of_ble_eq_true rfl, Nat.le_of_ble_eq_true rfl⟩ hK hZ hS hP (hD.weaken (fun _ _ _ _ => trivial)) hF_87 zP_nil zAp_nil rfl rfl rfl rfl hl.1 rfl (Nat.le_of_ble_eq_true rfl) d_TB_init_87 (fun w_87 H locs h_87 pp_87 dd_87 zz_87 kk_87 hS => ?_)
        subst h_87
        have hP : va_P g.1 classes [(h, .inr (2, [.ref qa, .ref qb, .ref qc, .int (iI (((TRn (r9 + 1) : Nat) : Int)))])), (qa, .inl (zI g, 512, .inl (ai (pcf LOf (TRn (r9 + 1)))))), (qb, .inl (zI g, 512, .inl (ai (pcf CAf (TRn (r9 + 1)))))), (qc, .inl (zI g, 512, .inl (ai (pcf SCf (TRn (r9 + 1))))))] H := pp_87
        have hD : va_D A [(h, .inr (2, [.ref qa, .ref qb, .ref qc, .int (iI (((TRn (r9 + 1) : Nat) : Int)))])), (qa, .inl (zI g, 512, .inl (ai (pcf LOf (TRn (r9 + 1)))))), (qb, .inl (zI g, 512, .inl (ai (pcf CAf (TRn (r9 + 1)))))), (qc, .inl (zI g, 512, .inl (ai (pcf SCf (TRn (r9 + 1))))))] := dd_87.weaken (fun _ _ _ h9 => hF_87 _ h9)
        refine lv_iinc (v := iI ((((3 * r9 : Nat) : Int)) + 3)) (lv' := [(2, .int (iI ((((3 * r9 : Nat) : Int)) + 3))), (1, .int (iI ((rwc r9 1) + 1))), (0, .ref h), (3, .int (iI (rwc r9 0)))]) hx hb d_TB_init_90 hl (k := 2) rfl (iI_add _ _) (by decide) rfl (fun ls hl => ?_)
        refine lv_goto (tgt := 40) hx hb d_TB_init_93 (by decide) ?_
        rw [← bx] at hl
        exact ih qa qb qc (r9 + 1) _ _ ls (by omega) (lv_sub hl [2, 1, 0] rfl) (by omega) hP hD hS
      refine lv_iload_n hx hb d_TB_init_40 rfl (lv_at hl 2 rfl) ?_
      refine lv_iconst (v := iI 2) hx hb d_TB_init_41 rfl ?_
      refine ix_iadd hx hb d_TB_init_42 ?_
      refine ix_gets hx hb hZ 18 (by decide) hS hown (ht _ k_23) d_TB_init_43 ?_
      refine ix_tlen hx hb hZ 18 (by decide) hS 321 rfl d_TB_init_46 ?_
      refine ix_icmp_ge (tgt := 96) hx hb d_TB_init_47 (by decide) (by omega) (fun c_47 => ?_) (fun c_47 => ?_)
      · have he9 : TRn r9 = 252 := by rw [show r9 = 107 by omega]; decide +kernel
        have hx9 : ((TRx r9 : Nat) : Int) = 128592 := by rw [show r9 = 107 by omega]; decide +kernel
        refine lv_aload_n hx hb d_TB_init_96 rfl (lv_at hl 0 rfl) ?_
        refine lv_iload_n hx hb d_TB_init_97 rfl (lv_at hl 1 rfl) ?_
        refine lv_iconst (v := iI 0) hx hb d_TB_init_98 rfl ?_
        have h9 := c_TB_addPiece l g H.size h qa qb qc (TRn r9) (by omega)
        have hz1 : LOf (TRn r9) = ((TRx r9 : Nat) : Int) := by rw [he9, hx9]; decide +kernel
        have hz2 : CAf (TRn r9) = 0 := by rw [he9]; decide +kernel
        rw [hz1, hz2] at h9
        have hF_99 := va_free (wc := [(h, .inr (2, [.ref qa, .ref qb, .ref qc, .int (iI (((TRn r9 : Nat) : Int)))])), (qa, .inl (zI g, 512, .inl (ai (pcf LOf (TRn r9))))), (qb, .inl (zI g, 512, .inl (ai (pcf CAf (TRn r9))))), (qc, .inl (zI g, 512, .inl (ai (pcf SCf (TRn r9)))))]) hD hS hA [0, 1, 2, 3] rfl
        refine zcVv (ci := 2) (q0 := 0) (As := [.int (iI (((TRx r9 : Nat) : Int))), .int (iI 0)]) (rest := []) ⟨hx, hb, hml, hown, ht⟩ v_TB_28 (h9) ⟨Nat.le_of_ble_eq_true rfl, Nat.le_of_ble_eq_true rfl⟩ ⟨Nat.le_of_ble_eq_true rfl, Nat.le_of_ble_eq_true rfl⟩ hK hZ hS hP (hD.weaken (fun _ _ _ _ => trivial)) hF_99 zP_nil zAp_nil rfl rfl rfl rfl hl.1 rfl (Nat.le_of_ble_eq_true rfl) d_TB_init_99 (fun w_99 H locs h_99 pp_99 dd_99 zz_99 kk_99 hS => ?_)
        subst h_99
        have hP : va_P g.1 classes [(h, .inr (2, [.ref qa, .ref qb, .ref qc, .int (iI (((TRn r9 + 1 : Nat) : Int)))])), (qa, .inl (zI g, 512, .inl (ai (pcf LOf (TRn r9 + 1))))), (qb, .inl (zI g, 512, .inl (ai (pcf CAf (TRn r9 + 1))))), (qc, .inl (zI g, 512, .inl (ai (pcf SCf (TRn r9 + 1)))))] H := pp_99
        have hD : va_D A [(h, .inr (2, [.ref qa, .ref qb, .ref qc, .int (iI (((TRn r9 + 1 : Nat) : Int)))])), (qa, .inl (zI g, 512, .inl (ai (pcf LOf (TRn r9 + 1))))), (qb, .inl (zI g, 512, .inl (ai (pcf CAf (TRn r9 + 1))))), (qc, .inl (zI g, 512, .inl (ai (pcf SCf (TRn r9 + 1)))))] := dd_99.weaken (fun _ _ _ h9 => hF_99 _ h9)
        subst hQ
        exact W.vret hx hb hr (fun t h9 hW => ⟨⟨_, rfl, ⟨qa, qb, qc, by rw [show TRn r9 + 1 = 253 by omega, LO_e, CA_e, SC_e] <;> rfl⟩, by rw [h9]; exact hP, va_K.moved hW.alike hK, hD⟩, hS.F h9⟩) hS.2.2 d_TB_init_102
      · have hlt : r9 < 107 := by omega
        obtain ⟨⟨b1, b2, b3⟩, ⟨b4, b5, b6, b7, b8, b9, b0⟩, bg, bx, br⟩ := row_ok r9 hlt
        have k0 : (stE 18).getD (3 * r9) 0 = rwc r9 0 := rfl
        have k1 : (stE 18).getD (3 * r9 + 1) 0 = rwc r9 1 := rfl
        have k2 : (stE 18).getD (3 * r9 + 2) 0 = rwc r9 2 := rfl
        refine ix_gets hx hb hZ 18 (by decide) hS hown (ht _ k_23) d_TB_init_50 ?_
        refine lv_iload_n hx hb d_TB_init_53 rfl (lv_at hl 2 rfl) ?_
        refine ix_tald hx hb hZ 18 (by decide) hS (z := (((3 * r9 : Nat) : Int))) (3 * r9) (by refine ⟨by omega, ?_, by omega⟩; show _ < (stE 18).length; simp only [stE, List.length_cons, List.length_nil]; omega) d_TB_init_54 ?_
        rw [k0]
        refine lv_istore_n (lv' := [(3, .int (iI (rwc r9 0))), (0, .ref h), (1, .int (iI (((TRx r9 : Nat) : Int)))), (2, .int (iI (((3 * r9 : Nat) : Int))))]) hx hb d_TB_init_55 rfl hl (by decide) rfl (fun ls hl => ?_)
        refine lv_iload_n hx hb d_TB_init_56 rfl (lv_at hl 2 rfl) ?_
        refine lv_iload_n hx hb d_TB_init_57 rfl (lv_at hl 0 rfl) ?_
        refine ix_icmp_ge (tgt := 67) hx hb d_TB_init_58 (by decide) (by omega) (fun c_58 => ?_) (fun c_58 => ?_)
        · have c2 : TRm r9 = TRn r9 := (bg.resolve_left (fun q9 => absurd q9.1 (by omega))).2
          rw [← c2] at hP hD
          exact J67  _ _ ls (lv_sub hl [1, 3, 0] rfl) (by omega) hP hD hS
        · refine lv_aload_n hx hb d_TB_init_61 rfl (lv_at hl 1 rfl) ?_
          refine lv_iload_n hx hb d_TB_init_62 rfl (lv_at hl 2 rfl) ?_
          refine lv_iconst (v := iI 0) hx hb d_TB_init_63 rfl ?_
          have h9 := c_TB_addPiece l g H.size h qa qb qc (TRn r9) (by omega)
          obtain ⟨c1, c2, c3, c4⟩ : ((TRx r9 : Nat) : Int) < rwc r9 0 ∧ TRm r9 = TRn r9 + 1 ∧ LOf (TRn r9) = ((TRx r9 : Nat) : Int) ∧ CAf (TRn r9) = 0 := bg.resolve_right (fun q9 => q9.1 c_58)
          rw [c3, c4] at h9
          have hF_64 := va_free (wc := [(h, .inr (2, [.ref qa, .ref qb, .ref qc, .int (iI (((TRn r9 : Nat) : Int)))])), (qa, .inl (zI g, 512, .inl (ai (pcf LOf (TRn r9))))), (qb, .inl (zI g, 512, .inl (ai (pcf CAf (TRn r9))))), (qc, .inl (zI g, 512, .inl (ai (pcf SCf (TRn r9)))))]) hD hS hA [0, 1, 2, 3] rfl
          refine zcVv (ci := 2) (q0 := 0) (As := [.int (iI (((TRx r9 : Nat) : Int))), .int (iI 0)]) (rest := []) ⟨hx, hb, hml, hown, ht⟩ v_TB_28 (h9) ⟨Nat.le_of_ble_eq_true rfl, Nat.le_of_ble_eq_true rfl⟩ ⟨Nat.le_of_ble_eq_true rfl, Nat.le_of_ble_eq_true rfl⟩ hK hZ hS hP (hD.weaken (fun _ _ _ _ => trivial)) hF_64 zP_nil zAp_nil rfl rfl rfl rfl hl.1 rfl (Nat.le_of_ble_eq_true rfl) d_TB_init_64 (fun w_64 H locs h_64 pp_64 dd_64 zz_64 kk_64 hS => ?_)
          subst h_64
          have hP : va_P g.1 classes [(h, .inr (2, [.ref qa, .ref qb, .ref qc, .int (iI (((TRn r9 + 1 : Nat) : Int)))])), (qa, .inl (zI g, 512, .inl (ai (pcf LOf (TRn r9 + 1))))), (qb, .inl (zI g, 512, .inl (ai (pcf CAf (TRn r9 + 1))))), (qc, .inl (zI g, 512, .inl (ai (pcf SCf (TRn r9 + 1)))))] H := pp_64
          have hD : va_D A [(h, .inr (2, [.ref qa, .ref qb, .ref qc, .int (iI (((TRn r9 + 1 : Nat) : Int)))])), (qa, .inl (zI g, 512, .inl (ai (pcf LOf (TRn r9 + 1))))), (qb, .inl (zI g, 512, .inl (ai (pcf CAf (TRn r9 + 1))))), (qc, .inl (zI g, 512, .inl (ai (pcf SCf (TRn r9 + 1)))))] := dd_64.weaken (fun _ _ _ h9 => hF_64 _ h9)
          rw [← c2] at hP hD
          exact J67  _ _ ls (lv_sub hl [1, 3, 0] rfl) (by omega) hP hD hS
  refine lv_aload_n hx hb d_TB_init_0 rfl (lv_at hl 0 rfl) ?_
  refine W.objInit hx hb hown (ht _ k_22) (ht _ k_14) (ht _ k_15) rfl (by rw [hml]; exact hl.1) rfl d_TB_init_1 (Nat.le_of_ble_eq_true rfl) (Nat.le_of_ble_eq_true rfl) ?_
  refine W.eq (g2 := F0 m 4 ls []) rfl ?_
  refine lv_aload_n hx hb d_TB_init_4 rfl (lv_at hl 0 rfl) ?_
  refine lv_sipush (v := iI 512) hx hb d_TB_init_5 (by decide) ?_
  refine ix_newa (atype := .int) hx hb (ht _ k_51) rfl hK hP hD hS hA 0 rfl (N' := 512) (a0 := (512, .inl (fun _ => 0))) (fun _ => rfl) (by omega) (by decide) (Nat.le_of_ble_eq_true rfl) (Nat.le_of_ble_eq_true rfl) d_TB_init_8 (fun q8 H hP hD hS => ?_)
  rw [ai_0] at hP hD
  have hP : va_P g.1 classes [(h, .inr (2, [.null, .null, .null, .int (iI x0)])), (q8, .inl (zI g, 512, .inl (ai (fun _ => 0))))] H := hP
  have hD : va_D A [(h, .inr (2, [.null, .null, .null, .int (iI x0)])), (q8, .inl (zI g, 512, .inl (ai (fun _ => 0))))] := hD
  refine va_putF (D := g.1) (ci := 2) (v := .ref q8) (ty := .array .int) (C := R_TB) (T := F_TB) (N := 4) hx hb ht i_TB t_TB t_TB_ok n_TB hown hK hP hD hS 0 rfl rfl 0 (by decide) (ht _ k_38) (fun _ h9 => h9) rfl hin rfl (by decide +kernel) rfl rfl (Nat.le_of_ble_eq_true rfl) d_TB_init_10 (fun H locs hP hD hS => ?_)
  have hP : va_P g.1 classes [(h, .inr (2, [.ref q8, .null, .null, .int (iI x0)])), (q8, .inl (zI g, 512, .inl (ai (fun _ => 0))))] H := hP
  have hD : va_D A [(h, .inr (2, [.ref q8, .null, .null, .int (iI x0)])), (q8, .inl (zI g, 512, .inl (ai (fun _ => 0))))] := hD
  refine lv_aload_n hx hb d_TB_init_13 rfl (lv_at hl 0 rfl) ?_
  refine lv_sipush (v := iI 512) hx hb d_TB_init_14 (by decide) ?_
  refine ix_newa (atype := .int) hx hb (ht _ k_51) rfl hK hP hD hS hA 0 rfl (N' := 512) (a0 := (512, .inl (fun _ => 0))) (fun _ => rfl) (by omega) (by decide) (Nat.le_of_ble_eq_true rfl) (Nat.le_of_ble_eq_true rfl) d_TB_init_17 (fun q17 H hP hD hS => ?_)
  rw [ai_0] at hP hD
  have hP : va_P g.1 classes [(h, .inr (2, [.ref q8, .null, .null, .int (iI x0)])), (q8, .inl (zI g, 512, .inl (ai (fun _ => 0)))), (q17, .inl (zI g, 512, .inl (ai (fun _ => 0))))] H := hP
  have hD : va_D A [(h, .inr (2, [.ref q8, .null, .null, .int (iI x0)])), (q8, .inl (zI g, 512, .inl (ai (fun _ => 0)))), (q17, .inl (zI g, 512, .inl (ai (fun _ => 0))))] := hD
  refine va_putF (D := g.1) (ci := 2) (v := .ref q17) (ty := .array .int) (C := R_TB) (T := F_TB) (N := 4) hx hb ht i_TB t_TB t_TB_ok n_TB hown hK hP hD hS 0 rfl rfl 1 (by decide) (ht _ k_39) (fun _ h9 => h9) rfl hin rfl (by decide +kernel) rfl rfl (Nat.le_of_ble_eq_true rfl) d_TB_init_19 (fun H locs hP hD hS => ?_)
  have hP : va_P g.1 classes [(h, .inr (2, [.ref q8, .ref q17, .null, .int (iI x0)])), (q8, .inl (zI g, 512, .inl (ai (fun _ => 0)))), (q17, .inl (zI g, 512, .inl (ai (fun _ => 0))))] H := hP
  have hD : va_D A [(h, .inr (2, [.ref q8, .ref q17, .null, .int (iI x0)])), (q8, .inl (zI g, 512, .inl (ai (fun _ => 0)))), (q17, .inl (zI g, 512, .inl (ai (fun _ => 0))))] := hD
  refine lv_aload_n hx hb d_TB_init_22 rfl (lv_at hl 0 rfl) ?_
  refine lv_sipush (v := iI 512) hx hb d_TB_init_23 (by decide) ?_
  refine ix_newa (atype := .int) hx hb (ht _ k_51) rfl hK hP hD hS hA 0 rfl (N' := 512) (a0 := (512, .inl (fun _ => 0))) (fun _ => rfl) (by omega) (by decide) (Nat.le_of_ble_eq_true rfl) (Nat.le_of_ble_eq_true rfl) d_TB_init_26 (fun q26 H hP hD hS => ?_)
  rw [ai_0] at hP hD
  have hP : va_P g.1 classes [(h, .inr (2, [.ref q8, .ref q17, .null, .int (iI x0)])), (q8, .inl (zI g, 512, .inl (ai (fun _ => 0)))), (q17, .inl (zI g, 512, .inl (ai (fun _ => 0)))), (q26, .inl (zI g, 512, .inl (ai (fun _ => 0))))] H := hP
  have hD : va_D A [(h, .inr (2, [.ref q8, .ref q17, .null, .int (iI x0)])), (q8, .inl (zI g, 512, .inl (ai (fun _ => 0)))), (q17, .inl (zI g, 512, .inl (ai (fun _ => 0)))), (q26, .inl (zI g, 512, .inl (ai (fun _ => 0))))] := hD
  refine va_putF (D := g.1) (ci := 2) (v := .ref q26) (ty := .array .int) (C := R_TB) (T := F_TB) (N := 4) hx hb ht i_TB t_TB t_TB_ok n_TB hown hK hP hD hS 0 rfl rfl 2 (by decide) (ht _ k_40) (fun _ h9 => h9) rfl hin rfl (by decide +kernel) rfl rfl (Nat.le_of_ble_eq_true rfl) d_TB_init_28 (fun H locs hP hD hS => ?_)
  have hP : va_P g.1 classes [(h, .inr (2, [.ref q8, .ref q17, .ref q26, .int (iI x0)])), (q8, .inl (zI g, 512, .inl (ai (fun _ => 0)))), (q17, .inl (zI g, 512, .inl (ai (fun _ => 0)))), (q26, .inl (zI g, 512, .inl (ai (fun _ => 0))))] H := hP
  have hD : va_D A [(h, .inr (2, [.ref q8, .ref q17, .ref q26, .int (iI x0)])), (q8, .inl (zI g, 512, .inl (ai (fun _ => 0)))), (q17, .inl (zI g, 512, .inl (ai (fun _ => 0)))), (q26, .inl (zI g, 512, .inl (ai (fun _ => 0))))] := hD
  refine lv_aload_n hx hb d_TB_init_31 rfl (lv_at hl 0 rfl) ?_
  refine lv_iconst (v := iI 0) hx hb d_TB_init_32 rfl ?_
  refine va_put (D := g.1) (ci := 2) (v := .int (iI 0)) (ty := .int) (C := R_TB) (T := F_TB) (N := 4) hx hb ht i_TB t_TB t_TB_ok n_TB hown hK hP hD hS 0 rfl rfl 3 (by decide) (ht _ k_41) (fun _ h9 => h9) rfl (by decide +kernel) rfl rfl (Nat.le_of_ble_eq_true rfl) d_TB_init_33 (fun H locs hP hD hS => ?_)
  have hP : va_P g.1 classes [(h, .inr (2, [.ref q8, .ref q17, .ref q26, .int (iI 0)])), (q8, .inl (zI g, 512, .inl (ai (fun _ => 0)))), (q17, .inl (zI g, 512, .inl (ai (fun _ => 0)))), (q26, .inl (zI g, 512, .inl (ai (fun _ => 0))))] H := hP
  have hD : va_D A [(h, .inr (2, [.ref q8, .ref q17, .ref q26, .int (iI 0)])), (q8, .inl (zI g, 512, .inl (ai (fun _ => 0)))), (q17, .inl (zI g, 512, .inl (ai (fun _ => 0)))), (q26, .inl (zI g, 512, .inl (ai (fun _ => 0))))] := hD
  refine lv_iconst (v := iI 0) hx hb d_TB_init_36 rfl ?_
  refine lv_istore_n (lv' := [(1, .int (iI 0)), (0, .ref h)]) hx hb d_TB_init_37 rfl hl (by decide) rfl (fun ls hl => ?_)
  refine lv_iconst (v := iI 0) hx hb d_TB_init_38 rfl ?_
  refine lv_istore_n (lv' := [(2, .int (iI 0)), (1, .int (iI 0)), (0, .ref h)]) hx hb d_TB_init_39 rfl hl (by decide) rfl (fun ls hl => ?_)
  have hP : va_P g.1 classes [(h, .inr (2, [.ref q8, .ref q17, .ref q26, .int (iI (((0 : Nat) : Int)))])), (q8, .inl (zI g, 512, .inl (ai (pcf LOf 0)))), (q17, .inl (zI g, 512, .inl (ai (pcf CAf 0)))), (q26, .inl (zI g, 512, .inl (ai (pcf SCf 0))))] H := by rw [pcf_0 LOf, pcf_0 CAf, pcf_0 SCf]; exact hP
  have hD : va_D A [(h, .inr (2, [.ref q8, .ref q17, .ref q26, .int (iI (((0 : Nat) : Int)))])), (q8, .inl (zI g, 512, .inl (ai (pcf LOf 0)))), (q17, .inl (zI g, 512, .inl (ai (pcf CAf 0)))), (q26, .inl (zI g, 512, .inl (ai (pcf SCf 0))))] := by rw [pcf_0 LOf, pcf_0 CAf, pcf_0 SCf]; exact hD
  exact J40 (_ + 1) q8 q17 q26 0 _ _ ls (Nat.lt_succ_self _) (lv_sub hl [2, 1, 0] rfl) (by omega) hP hD hS
