set_option maxHeartbeats 4000000 in
set_option maxRecDepth 100000 in
theorem c_MO_next (l : Launch) (g : zG) (sz : Nat) (r : Nat → Nat) (ut uc la wo : Int) (bw : Nat → Nat) (mt : Nat → Int) (ms : Int) (c : Int) (hut : 0 ≤ ut ∧ ut ≤ 1) (huc : 0 ≤ uc ∧ uc ≤ 1) (hla : 0 ≤ la ∧ la ≤ 1114111) (hc : 0 ≤ c ∧ c ≤ 1114111) : Met l y_MO_next w_MO_next { frames := 4, cells := 0, slots := 0, locals := 89 } (zPw g [.ref (r 0), .int (iI c)] [(r 0, .inr (4, [.int (iI ut), .int (iI uc), .int (iI la), .int (iI wo), .ref (r 1), .ref (r 2), .ref (r 3), .int (iI ms), .ref (r 4)])), (r 1, .inl (zJ g, 139264, .inr (.inl (lA bw)))), (r 2, .inl (zBt g, 12544, .inl (ai kF))), (r 3, .inl (zI g, 4, .inl (ai mt))), (r 4, .inl (zI g, 14, .inl (ai PT)))] [] sz) (va_Qi (fun z w => ∃ (m9 : Nat → Int) (n9 : Int), w = [(r 0, .inr (4, [.int (iI ut), .int (iI uc), .int (iI la), .int (iI wo), .ref (r 1), .ref (r 2), .ref (r 3), .int (iI n9), .ref (r 4)])), (r 1, .inl (zJ g, 139264, .inr (.inl (lA bw)))), (r 2, .inl (zBt g, 12544, .inl (ai kF))), (r 3, .inl (zI g, 4, .inl (ai m9))), (r 4, .inl (zI g, 14, .inl (ai PT)))] ∧ z = iI (nxR c (kinL ut uc la c))) (zB g (va_A [(r 0, .inr (4, [.int (iI ut), .int (iI uc), .int (iI la), .int (iI wo), .ref (r 1), .ref (r 2), .ref (r 3), .int (iI ms), .ref (r 4)])), (r 1, .inl (zJ g, 139264, .inr (.inl (lA bw)))), (r 2, .inl (zBt g, 12544, .inl (ai kF))), (r 3, .inl (zI g, 4, .inl (ai mt))), (r 4, .inl (zI g, 14, .inl (ai PT)))] sz)) (va_A [(r 0, .inr (4, [.int (iI ut), .int (iI uc), .int (iI la), .int (iI wo), .ref (r 1), .ref (r 2), .ref (r 3), .int (iI ms), .ref (r 4)])), (r 1, .inl (zJ g, 139264, .inr (.inl (lA bw)))), (r 2, .inl (zBt g, 12544, .inl (ai kF))), (r 3, .inl (zI g, 4, .inl (ai mt))), (r 4, .inl (zI g, 14, .inl (ai PT)))] sz)) 0 0 (va_A [(r 0, .inr (4, [.int (iI ut), .int (iI uc), .int (iI la), .int (iI wo), .ref (r 1), .ref (r 2), .ref (r 3), .int (iI ms), .ref (r 4)])), (r 1, .inl (zJ g, 139264, .inr (.inl (lA bw)))), (r 2, .inl (zBt g, 12544, .inl (ai kF))), (r 3, .inl (zI g, 4, .inl (ai mt))), (r 4, .inl (zI g, 14, .inl (ai PT)))] sz) := by
  refine Met.ofW (cc := b_MO_next) (maxL := 5) (ret := (some .int)) (by decide) rfl ?_
  intro p e s m args below meth cd s₁ B hml hv
  obtain ⟨hargs, hsz, hP, hK, hD0, hZ, hO0, hAp⟩ := hv
  have hx := B.exec
  have hb := B.bytes
  have hr := B.returns
  have ht : ∀ w ∈ lw_ok, w.before args s = true := fun w h => atoms_spec (ws := w_MO_next) B.pre w (List.mem_cons_of_mem _ h)
  have hown : s.vm.findClass R_MO = some m.cls := findClass_of_methodNamed B.named
  have hlocks := B.notSynchronized
  subst hsz
  have hD := hD0.self (sz := s.heap.size)
  generalize hAe : va_A [(r 0, .inr (4, [.int (iI ut), .int (iI uc), .int (iI la), .int (iI wo), .ref (r 1), .ref (r 2), .ref (r 3), .int (iI ms), .ref (r 4)])), (r 1, .inl (zJ g, 139264, .inr (.inl (lA bw)))), (r 2, .inl (zBt g, 12544, .inl (ai kF))), (r 3, .inl (zI g, 4, .inl (ai mt))), (r 4, .inl (zI g, 14, .inl (ai PT)))] s.heap.size = A at hD hZ hAp ⊢
  have hA : ∀ q : Nat, s.heap.size ≤ q → A q := fun q h => by rw [← hAe]; exact Or.inr h
  have hS : va_S A s.heap s.heap [] := va_S.rf
  generalize hQ : MQ below _ args s 0 0 _ = Q
  have hl := lv_entry ([.ref (r 0), .int (iI c)]) (n := 5) (Nat.le_of_ble_eq_true rfl)
  rw [show entryFrame m args 5 = entryFrame m ([.ref (r 0), .int (iI c)] : List Value).toArray 5 by rw [hargs], lg_entry_eq]
  generalize (lg_sl ([.ref (r 0), .int (iI c)]) ++ List.replicate (5 - (lg_sl ([.ref (r 0), .int (iI c)])).length) Slot.unset).toArray = ls at hl ⊢
  have hl : lv_has ls 5 [(0, .ref (r 0)), (1, .int (iI c))] := hl
  obtain ⟨H, locs, hHe, hLe⟩ : ∃ (H : Heap) (locs : List Loc), H = s.heap ∧ locs = [] := ⟨_, _, rfl, rfl⟩
  rw [show W p l e _ s m args below meth cd s.heap [] 0 0 Q = W p l e _ s m args below meth cd H locs 0 0 Q by rw [hHe, hLe]]
  rw [← hHe] at hP
  have hS : va_S A s.heap H locs := by rw [hHe, hLe]; exact hS
  have hbk := kinL_bd ut uc la c hc
  have hkl := kinL_len ut uc la c
  have J12 : ∀ fu : Nat, ∀ (m2 : Nat → Int) (i : Nat) (be le : Int) (H : Heap) (locs : List Loc) (ls : Array Slot), (kinL ut uc la c).length - i < fu → lv_has ls 5 [(0, .ref (r 0)), (1, .int (iI c)), (2, .int (iI be)), (3, .int (iI le)), (4, .int (iI (((i : Nat) : Int))))] → (∀ i, i < (kinL ut uc la c).length → m2 i = (kinL ut uc la c).getD i 0) → (i ≤ (kinL ut uc la c).length) → (-1 ≤ be ∧ be ≤ 1114111) → (0 ≤ le ∧ le ≤ 1114111) → ((be, le) = ((kinL ut uc la c).take i).foldl (nxs c) (-1, c)) → va_P g.1 classes [(r 0, .inr (4, [.int (iI ut), .int (iI uc), .int (iI la), .int (iI wo), .ref (r 1), .ref (r 2), .ref (r 3), .int (iI ((((kinL ut uc la c).length : Nat) : Int))), .ref (r 4)])), (r 1, .inl (zJ g, 139264, .inr (.inl (lA bw)))), (r 2, .inl (zBt g, 12544, .inl (ai kF))), (r 3, .inl (zI g, 4, .inl (ai m2))), (r 4, .inl (zI g, 14, .inl (ai PT)))] H → va_D A [(r 0, .inr (4, [.int (iI ut), .int (iI uc), .int (iI la), .int (iI wo), .ref (r 1), .ref (r 2), .ref (r 3), .int (iI ((((kinL ut uc la c).length : Nat) : Int))), .ref (r 4)])), (r 1, .inl (zJ g, 139264, .inr (.inl (lA bw)))), (r 2, .inl (zBt g, 12544, .inl (ai kF))), (r 3, .inl (zI g, 4, .inl (ai m2))), (r 4, .inl (zI g, 14, .inl (ai PT)))] → va_S A s.heap H locs → W p l e (headSpec w_MO_next { frames := 4, cells := 0, slots := 0, locals := 89 }).room s m args below meth cd H locs 0 0 Q (F0 m 12 ls []) := by
    intro fu
    induction fu with
    | zero => exact fun _ _ _ _ _ _ _ hfu _ _ _ _ _ _ _ _ _ => absurd hfu (Nat.not_lt_zero _)
    | succ fu ih =>
      intro m2 i be le H locs ls hfu hl hm2 hi9 hbe hle hf hP hD hS
      refine lv_iload hx hb d_MO_next_12 (lv_at hl 4 rfl) ?_
      refine lv_aload_n hx hb d_MO_next_14 rfl (lv_at hl 0 rfl) ?_
      refine va_get (D := g.1) (ci := 4) (v := .int (iI ((((kinL ut uc la c).length : Nat) : Int)))) (C := R_MO) (T := F_MO) (N := 9) hx hb ht i_MO hown hK hP 0 rfl rfl 7 (by decide) (ht _ k_425) (fun _ h9 => h9) rfl d_MO_next_15 ?_
      refine ix_icmp_ge (tgt := 80) hx hb d_MO_next_18 (by decide) (by omega) (fun c_18 => ?_) (fun c_18 => ?_)
      · rw [List.take_of_length_le (by omega)] at hf
        refine lv_iload_n hx hb d_MO_next_80 rfl (lv_at hl 2 rfl) ?_
        refine ix_if_ge (tgt := 88) hx hb d_MO_next_81 (by decide) (by omega) (fun c_81 => ?_) (fun c_81 => ?_)
        · refine lv_iload_n hx hb d_MO_next_88 rfl (lv_at hl 2 rfl) ?_
          subst hQ
          exact W.iret (v := iI be) hx hb hr (fun t h9 hW => ⟨⟨_, _, rfl, by exact ⟨_, _, rfl, congrArg iI (by unfold nxR nxL; rw [← hf]; first | rw [if_pos (show be < 0 by omega)] | rw [if_neg (show ¬ be < 0 by omega)])⟩, by rw [h9]; exact hP, va_K.moved hW.alike hK, hD⟩, hS.F h9⟩) hS.2.2 d_MO_next_89
        · refine lv_iload_n hx hb d_MO_next_84 rfl (lv_at hl 3 rfl) ?_
          refine lv_goto (tgt := 89) hx hb d_MO_next_85 (by decide) ?_
          subst hQ
          exact W.iret (v := iI le) hx hb hr (fun t h9 hW => ⟨⟨_, _, rfl, by exact ⟨_, _, rfl, congrArg iI (by unfold nxR nxL; rw [← hf]; first | rw [if_pos (show be < 0 by omega)] | rw [if_neg (show ¬ be < 0 by omega)])⟩, by rw [h9]; exact hP, va_K.moved hW.alike hK, hD⟩, hS.F h9⟩) hS.2.2 d_MO_next_89
      · have hi8 : i < (kinL ut uc la c).length := by omega
        have hx9 := hm2 i (by omega)
        have hb9 := hbk _ (gd_in (L := kinL ut uc la c) (i := i) (by omega))
        rw [← hx9] at hb9
        refine lv_aload_n hx hb d_MO_next_21 rfl (lv_at hl 0 rfl) ?_
        refine va_get (D := g.1) (ci := 4) (v := .ref (r 3)) (C := R_MO) (T := F_MO) (N := 9) hx hb ht i_MO hown hK hP 0 rfl rfl 6 (by decide) (ht _ k_424) (fun _ h9 => h9) rfl d_MO_next_22 ?_
        refine lv_iload hx hb d_MO_next_25 (lv_at hl 4 rfl) ?_
        refine ix_iald hx hb hK hP 3 0 rfl rfl (i := (((i : Nat) : Int))) i (by omega) d_MO_next_27 ?_
        refine lv_iload_n hx hb d_MO_next_28 rfl (lv_at hl 3 rfl) ?_
        refine ix_icmp_ge (tgt := 40) hx hb d_MO_next_29 (by decide) (by omega) (fun c_29 => ?_) (fun c_29 => ?_)
        · refine lv_aload_n hx hb d_MO_next_40 rfl (lv_at hl 0 rfl) ?_
          refine va_get (D := g.1) (ci := 4) (v := .ref (r 3)) (C := R_MO) (T := F_MO) (N := 9) hx hb ht i_MO hown hK hP 0 rfl rfl 6 (by decide) (ht _ k_424) (fun _ h9 => h9) rfl d_MO_next_41 ?_
          refine lv_iload hx hb d_MO_next_44 (lv_at hl 4 rfl) ?_
          refine ix_iald hx hb hK hP 3 0 rfl rfl (i := (((i : Nat) : Int))) i (by omega) d_MO_next_46 ?_
          refine lv_iload_n hx hb d_MO_next_47 rfl (lv_at hl 1 rfl) ?_
          refine ix_icmp_le (tgt := 74) hx hb d_MO_next_48 (by decide) (by omega) (fun c_48 => ?_) (fun c_48 => ?_)
          · refine lv_iinc (v := iI ((((i : Nat) : Int)) + 1)) (lv' := [(4, .int (iI ((((i : Nat) : Int)) + 1))), (0, .ref (r 0)), (1, .int (iI c)), (2, .int (iI be)), (3, .int (iI le))]) hx hb d_MO_next_74 hl (k := 4) rfl (iI_add _ _) (by decide) rfl (fun ls hl => ?_)
            refine lv_goto (tgt := 12) hx hb d_MO_next_77 (by decide) ?_
            exact ih m2 (i + 1) be le _ _ ls (by omega) (lv_sub hl [1, 2, 3, 4, 0] rfl) (by exact hm2) (by omega) (by omega) (by omega) (by rw [fold_take _ _ hi8, ← hf, ← hx9]; unfold nxs; first | (rw [if_pos (show c < m2 i ∧ (be < 0 ∨ m2 i < be) by omega), if_pos (show m2 i < le by omega)]) | (rw [if_pos (show c < m2 i ∧ (be < 0 ∨ m2 i < be) by omega), if_neg (show ¬ (m2 i < le) by omega)]) | (rw [if_neg (show ¬ (c < m2 i ∧ (be < 0 ∨ m2 i < be)) by omega), if_pos (show m2 i < le by omega)]) | (rw [if_neg (show ¬ (c < m2 i ∧ (be < 0 ∨ m2 i < be)) by omega), if_neg (show ¬ (m2 i < le) by omega)])) hP hD hS
          · refine lv_iload_n hx hb d_MO_next_51 rfl (lv_at hl 2 rfl) ?_
            refine ix_if_lt (tgt := 66) hx hb d_MO_next_52 (by decide) (by omega) (fun c_52 => ?_) (fun c_52 => ?_)
            · refine lv_aload_n hx hb d_MO_next_66 rfl (lv_at hl 0 rfl) ?_
              refine va_get (D := g.1) (ci := 4) (v := .ref (r 3)) (C := R_MO) (T := F_MO) (N := 9) hx hb ht i_MO hown hK hP 0 rfl rfl 6 (by decide) (ht _ k_424) (fun _ h9 => h9) rfl d_MO_next_67 ?_
              refine lv_iload hx hb d_MO_next_70 (lv_at hl 4 rfl) ?_
              refine ix_iald hx hb hK hP 3 0 rfl rfl (i := (((i : Nat) : Int))) i (by omega) d_MO_next_72 ?_
              refine lv_istore_n (lv' := [(2, .int (iI (m2 i))), (0, .ref (r 0)), (1, .int (iI c)), (3, .int (iI le)), (4, .int (iI (((i : Nat) : Int))))]) hx hb d_MO_next_73 rfl hl (by decide) rfl (fun ls hl => ?_)
              refine lv_iinc (v := iI ((((i : Nat) : Int)) + 1)) (lv' := [(4, .int (iI ((((i : Nat) : Int)) + 1))), (2, .int (iI (m2 i))), (0, .ref (r 0)), (1, .int (iI c)), (3, .int (iI le))]) hx hb d_MO_next_74 hl (k := 4) rfl (iI_add _ _) (by decide) rfl (fun ls hl => ?_)
              refine lv_goto (tgt := 12) hx hb d_MO_next_77 (by decide) ?_
              exact ih m2 (i + 1) (m2 i) le _ _ ls (by omega) (lv_sub hl [2, 3, 1, 4, 0] rfl) (by exact hm2) (by omega) (by omega) (by omega) (by rw [fold_take _ _ hi8, ← hf, ← hx9]; unfold nxs; first | (rw [if_pos (show c < m2 i ∧ (be < 0 ∨ m2 i < be) by omega), if_pos (show m2 i < le by omega)]) | (rw [if_pos (show c < m2 i ∧ (be < 0 ∨ m2 i < be) by omega), if_neg (show ¬ (m2 i < le) by omega)]) | (rw [if_neg (show ¬ (c < m2 i ∧ (be < 0 ∨ m2 i < be)) by omega), if_pos (show m2 i < le by omega)]) | (rw [if_neg (show ¬ (c < m2 i ∧ (be < 0 ∨ m2 i < be)) by omega), if_neg (show ¬ (m2 i < le) by omega)])) hP hD hS
            · refine lv_aload_n hx hb d_MO_next_55 rfl (lv_at hl 0 rfl) ?_
              refine va_get (D := g.1) (ci := 4) (v := .ref (r 3)) (C := R_MO) (T := F_MO) (N := 9) hx hb ht i_MO hown hK hP 0 rfl rfl 6 (by decide) (ht _ k_424) (fun _ h9 => h9) rfl d_MO_next_56 ?_
              refine lv_iload hx hb d_MO_next_59 (lv_at hl 4 rfl) ?_
              refine ix_iald hx hb hK hP 3 0 rfl rfl (i := (((i : Nat) : Int))) i (by omega) d_MO_next_61 ?_
              refine lv_iload_n hx hb d_MO_next_62 rfl (lv_at hl 2 rfl) ?_
              refine ix_icmp_ge (tgt := 74) hx hb d_MO_next_63 (by decide) (by omega) (fun c_63 => ?_) (fun c_63 => ?_)
              · refine lv_iinc (v := iI ((((i : Nat) : Int)) + 1)) (lv' := [(4, .int (iI ((((i : Nat) : Int)) + 1))), (0, .ref (r 0)), (1, .int (iI c)), (2, .int (iI be)), (3, .int (iI le))]) hx hb d_MO_next_74 hl (k := 4) rfl (iI_add _ _) (by decide) rfl (fun ls hl => ?_)
                refine lv_goto (tgt := 12) hx hb d_MO_next_77 (by decide) ?_
                exact ih m2 (i + 1) be le _ _ ls (by omega) (lv_sub hl [1, 2, 3, 4, 0] rfl) (by exact hm2) (by omega) (by omega) (by omega) (by rw [fold_take _ _ hi8, ← hf, ← hx9]; unfold nxs; first | (rw [if_pos (show c < m2 i ∧ (be < 0 ∨ m2 i < be) by omega), if_pos (show m2 i < le by omega)]) | (rw [if_pos (show c < m2 i ∧ (be < 0 ∨ m2 i < be) by omega), if_neg (show ¬ (m2 i < le) by omega)]) | (rw [if_neg (show ¬ (c < m2 i ∧ (be < 0 ∨ m2 i < be)) by omega), if_pos (show m2 i < le by omega)]) | (rw [if_neg (show ¬ (c < m2 i ∧ (be < 0 ∨ m2 i < be)) by omega), if_neg (show ¬ (m2 i < le) by omega)])) hP hD hS
              · refine lv_aload_n hx hb d_MO_next_66 rfl (lv_at hl 0 rfl) ?_
                refine va_get (D := g.1) (ci := 4) (v := .ref (r 3)) (C := R_MO) (T := F_MO) (N := 9) hx hb ht i_MO hown hK hP 0 rfl rfl 6 (by decide) (ht _ k_424) (fun _ h9 => h9) rfl d_MO_next_67 ?_
                refine lv_iload hx hb d_MO_next_70 (lv_at hl 4 rfl) ?_
                refine ix_iald hx hb hK hP 3 0 rfl rfl (i := (((i : Nat) : Int))) i (by omega) d_MO_next_72 ?_
                refine lv_istore_n (lv' := [(2, .int (iI (m2 i))), (0, .ref (r 0)), (1, .int (iI c)), (3, .int (iI le)), (4, .int (iI (((i : Nat) : Int))))]) hx hb d_MO_next_73 rfl hl (by decide) rfl (fun ls hl => ?_)
                refine lv_iinc (v := iI ((((i : Nat) : Int)) + 1)) (lv' := [(4, .int (iI ((((i : Nat) : Int)) + 1))), (2, .int (iI (m2 i))), (0, .ref (r 0)), (1, .int (iI c)), (3, .int (iI le))]) hx hb d_MO_next_74 hl (k := 4) rfl (iI_add _ _) (by decide) rfl (fun ls hl => ?_)
                refine lv_goto (tgt := 12) hx hb d_MO_next_77 (by decide) ?_
                exact ih m2 (i + 1) (m2 i) le _ _ ls (by omega) (lv_sub hl [2, 3, 1, 4, 0] rfl) (by exact hm2) (by omega) (by omega) (by omega) (by rw [fold_take _ _ hi8, ← hf, ← hx9]; unfold nxs; first | (rw [if_pos (show c < m2 i ∧ (be < 0 ∨ m2 i < be) by omega), if_pos (show m2 i < le by omega)]) | (rw [if_pos (show c < m2 i ∧ (be < 0 ∨ m2 i < be) by omega), if_neg (show ¬ (m2 i < le) by omega)]) | (rw [if_neg (show ¬ (c < m2 i ∧ (be < 0 ∨ m2 i < be)) by omega), if_pos (show m2 i < le by omega)]) | (rw [if_neg (show ¬ (c < m2 i ∧ (be < 0 ∨ m2 i < be)) by omega), if_neg (show ¬ (m2 i < le) by omega)])) hP hD hS
        · refine lv_aload_n hx hb d_MO_next_32 rfl (lv_at hl 0 rfl) ?_
          refine va_get (D := g.1) (ci := 4) (v := .ref (r 3)) (C := R_MO) (T := F_MO) (N := 9) hx hb ht i_MO hown hK hP 0 rfl rfl 6 (by decide) (ht _ k_424) (fun _ h9 => h9) rfl d_MO_next_33 ?_
          refine lv_iload hx hb d_MO_next_36 (lv_at hl 4 rfl) ?_
          refine ix_iald hx hb hK hP 3 0 rfl rfl (i := (((i : Nat) : Int))) i (by omega) d_MO_next_38 ?_
          refine lv_istore_n (lv' := [(3, .int (iI (m2 i))), (0, .ref (r 0)), (1, .int (iI c)), (2, .int (iI be)), (4, .int (iI (((i : Nat) : Int))))]) hx hb d_MO_next_39 rfl hl (by decide) rfl (fun ls hl => ?_)
          refine lv_aload_n hx hb d_MO_next_40 rfl (lv_at hl 1 rfl) ?_
          refine va_get (D := g.1) (ci := 4) (v := .ref (r 3)) (C := R_MO) (T := F_MO) (N := 9) hx hb ht i_MO hown hK hP 0 rfl rfl 6 (by decide) (ht _ k_424) (fun _ h9 => h9) rfl d_MO_next_41 ?_
          refine lv_iload hx hb d_MO_next_44 (lv_at hl 4 rfl) ?_
          refine ix_iald hx hb hK hP 3 0 rfl rfl (i := (((i : Nat) : Int))) i (by omega) d_MO_next_46 ?_
          refine lv_iload_n hx hb d_MO_next_47 rfl (lv_at hl 2 rfl) ?_
          refine ix_icmp_le (tgt := 74) hx hb d_MO_next_48 (by decide) (by omega) (fun c_48 => ?_) (fun c_48 => ?_)
          · refine lv_iinc (v := iI ((((i : Nat) : Int)) + 1)) (lv' := [(4, .int (iI ((((i : Nat) : Int)) + 1))), (3, .int (iI (m2 i))), (0, .ref (r 0)), (1, .int (iI c)), (2, .int (iI be))]) hx hb d_MO_next_74 hl (k := 4) rfl (iI_add _ _) (by decide) rfl (fun ls hl => ?_)
            refine lv_goto (tgt := 12) hx hb d_MO_next_77 (by decide) ?_
            exact ih m2 (i + 1) be (m2 i) _ _ ls (by omega) (lv_sub hl [2, 3, 4, 1, 0] rfl) (by exact hm2) (by omega) (by omega) (by omega) (by rw [fold_take _ _ hi8, ← hf, ← hx9]; unfold nxs; first | (rw [if_pos (show c < m2 i ∧ (be < 0 ∨ m2 i < be) by omega), if_pos (show m2 i < le by omega)]) | (rw [if_pos (show c < m2 i ∧ (be < 0 ∨ m2 i < be) by omega), if_neg (show ¬ (m2 i < le) by omega)]) | (rw [if_neg (show ¬ (c < m2 i ∧ (be < 0 ∨ m2 i < be)) by omega), if_pos (show m2 i < le by omega)]) | (rw [if_neg (show ¬ (c < m2 i ∧ (be < 0 ∨ m2 i < be)) by omega), if_neg (show ¬ (m2 i < le) by omega)])) hP hD hS
          · refine lv_iload_n hx hb d_MO_next_51 rfl (lv_at hl 3 rfl) ?_
            refine ix_if_lt (tgt := 66) hx hb d_MO_next_52 (by decide) (by omega) (fun c_52 => ?_) (fun c_52 => ?_)
            · refine lv_aload_n hx hb d_MO_next_66 rfl (lv_at hl 1 rfl) ?_
              refine va_get (D := g.1) (ci := 4) (v := .ref (r 3)) (C := R_MO) (T := F_MO) (N := 9) hx hb ht i_MO hown hK hP 0 rfl rfl 6 (by decide) (ht _ k_424) (fun _ h9 => h9) rfl d_MO_next_67 ?_
              refine lv_iload hx hb d_MO_next_70 (lv_at hl 4 rfl) ?_
              refine ix_iald hx hb hK hP 3 0 rfl rfl (i := (((i : Nat) : Int))) i (by omega) d_MO_next_72 ?_
              refine lv_istore_n (lv' := [(2, .int (iI (m2 i))), (3, .int (iI (m2 i))), (0, .ref (r 0)), (1, .int (iI c)), (4, .int (iI (((i : Nat) : Int))))]) hx hb d_MO_next_73 rfl hl (by decide) rfl (fun ls hl => ?_)
              refine lv_iinc (v := iI ((((i : Nat) : Int)) + 1)) (lv' := [(4, .int (iI ((((i : Nat) : Int)) + 1))), (2, .int (iI (m2 i))), (3, .int (iI (m2 i))), (0, .ref (r 0)), (1, .int (iI c))]) hx hb d_MO_next_74 hl (k := 4) rfl (iI_add _ _) (by decide) rfl (fun ls hl => ?_)
              refine lv_goto (tgt := 12) hx hb d_MO_next_77 (by decide) ?_
              exact ih m2 (i + 1) (m2 i) (m2 i) _ _ ls (by omega) (lv_sub hl [3, 4, 1, 2, 0] rfl) (by exact hm2) (by omega) (by omega) (by omega) (by rw [fold_take _ _ hi8, ← hf, ← hx9]; unfold nxs; first | (rw [if_pos (show c < m2 i ∧ (be < 0 ∨ m2 i < be) by omega), if_pos (show m2 i < le by omega)]) | (rw [if_pos (show c < m2 i ∧ (be < 0 ∨ m2 i < be) by omega), if_neg (show ¬ (m2 i < le) by omega)]) | (rw [if_neg (show ¬ (c < m2 i ∧ (be < 0 ∨ m2 i < be)) by omega), if_pos (show m2 i < le by omega)]) | (rw [if_neg (show ¬ (c < m2 i ∧ (be < 0 ∨ m2 i < be)) by omega), if_neg (show ¬ (m2 i < le) by omega)])) hP hD hS
            · refine lv_aload_n hx hb d_MO_next_55 rfl (lv_at hl 1 rfl) ?_
              refine va_get (D := g.1) (ci := 4) (v := .ref (r 3)) (C := R_MO) (T := F_MO) (N := 9) hx hb ht i_MO hown hK hP 0 rfl rfl 6 (by decide) (ht _ k_424) (fun _ h9 => h9) rfl d_MO_next_56 ?_
              refine lv_iload hx hb d_MO_next_59 (lv_at hl 4 rfl) ?_
              refine ix_iald hx hb hK hP 3 0 rfl rfl (i := (((i : Nat) : Int))) i (by omega) d_MO_next_61 ?_
              refine lv_iload_n hx hb d_MO_next_62 rfl (lv_at hl 3 rfl) ?_
              refine ix_icmp_ge (tgt := 74) hx hb d_MO_next_63 (by decide) (by omega) (fun c_63 => ?_) (fun c_63 => ?_)
              · refine lv_iinc (v := iI ((((i : Nat) : Int)) + 1)) (lv' := [(4, .int (iI ((((i : Nat) : Int)) + 1))), (3, .int (iI (m2 i))), (0, .ref (r 0)), (1, .int (iI c)), (2, .int (iI be))]) hx hb d_MO_next_74 hl (k := 4) rfl (iI_add _ _) (by decide) rfl (fun ls hl => ?_)
                refine lv_goto (tgt := 12) hx hb d_MO_next_77 (by decide) ?_
                exact ih m2 (i + 1) be (m2 i) _ _ ls (by omega) (lv_sub hl [2, 3, 4, 1, 0] rfl) (by exact hm2) (by omega) (by omega) (by omega) (by rw [fold_take _ _ hi8, ← hf, ← hx9]; unfold nxs; first | (rw [if_pos (show c < m2 i ∧ (be < 0 ∨ m2 i < be) by omega), if_pos (show m2 i < le by omega)]) | (rw [if_pos (show c < m2 i ∧ (be < 0 ∨ m2 i < be) by omega), if_neg (show ¬ (m2 i < le) by omega)]) | (rw [if_neg (show ¬ (c < m2 i ∧ (be < 0 ∨ m2 i < be)) by omega), if_pos (show m2 i < le by omega)]) | (rw [if_neg (show ¬ (c < m2 i ∧ (be < 0 ∨ m2 i < be)) by omega), if_neg (show ¬ (m2 i < le) by omega)])) hP hD hS
              · refine lv_aload_n hx hb d_MO_next_66 rfl (lv_at hl 1 rfl) ?_
                refine va_get (D := g.1) (ci := 4) (v := .ref (r 3)) (C := R_MO) (T := F_MO) (N := 9) hx hb ht i_MO hown hK hP 0 rfl rfl 6 (by decide) (ht _ k_424) (fun _ h9 => h9) rfl d_MO_next_67 ?_
                refine lv_iload hx hb d_MO_next_70 (lv_at hl 4 rfl) ?_
                refine ix_iald hx hb hK hP 3 0 rfl rfl (i := (((i : Nat) : Int))) i (by omega) d_MO_next_72 ?_
                refine lv_istore_n (lv' := [(2, .int (iI (m2 i))), (3, .int (iI (m2 i))), (0, .ref (r 0)), (1, .int (iI c)), (4, .int (iI (((i : Nat) : Int))))]) hx hb d_MO_next_73 rfl hl (by decide) rfl (fun ls hl => ?_)
                refine lv_iinc (v := iI ((((i : Nat) : Int)) + 1)) (lv' := [(4, .int (iI ((((i : Nat) : Int)) + 1))), (2, .int (iI (m2 i))), (3, .int (iI (m2 i))), (0, .ref (r 0)), (1, .int (iI c))]) hx hb d_MO_next_74 hl (k := 4) rfl (iI_add _ _) (by decide) rfl (fun ls hl => ?_)
                refine lv_goto (tgt := 12) hx hb d_MO_next_77 (by decide) ?_
                exact ih m2 (i + 1) (m2 i) (m2 i) _ _ ls (by omega) (lv_sub hl [3, 4, 1, 2, 0] rfl) (by exact hm2) (by omega) (by omega) (by omega) (by rw [fold_take _ _ hi8, ← hf, ← hx9]; unfold nxs; first | (rw [if_pos (show c < m2 i ∧ (be < 0 ∨ m2 i < be) by omega), if_pos (show m2 i < le by omega)]) | (rw [if_pos (show c < m2 i ∧ (be < 0 ∨ m2 i < be) by omega), if_neg (show ¬ (m2 i < le) by omega)]) | (rw [if_neg (show ¬ (c < m2 i ∧ (be < 0 ∨ m2 i < be)) by omega), if_pos (show m2 i < le by omega)]) | (rw [if_neg (show ¬ (c < m2 i ∧ (be < 0 ∨ m2 i < be)) by omega), if_neg (show ¬ (m2 i < le) by omega)])) hP hD hS
  refine lv_aload_n hx hb d_MO_next_0 rfl (lv_at hl 0 rfl) ?_
  refine lv_iload_n hx hb d_MO_next_1 rfl (lv_at hl 1 rfl) ?_
  have hF_2 := va_free (wc := [(r 0, .inr (4, [.int (iI ut), .int (iI uc), .int (iI la), .int (iI wo), .ref (r 1), .ref (r 2), .ref (r 3), .int (iI ms), .ref (r 4)])), (r 1, .inl (zJ g, 139264, .inr (.inl (lA bw)))), (r 2, .inl (zBt g, 12544, .inl (ai kF))), (r 3, .inl (zI g, 4, .inl (ai mt))), (r 4, .inl (zI g, 14, .inl (ai PT)))]) hD hS hA [0, 1, 2, 3, 4] rfl
  refine zcVv (ci := 4) (q0 := 0) (As := [.int (iI c)]) (rest := []) ⟨hx, hb, hml, hown, ht⟩ v_MO_96 (c_MO_caseOf l g H.size r ut uc la wo bw mt ms c hut huc hla (by omega)) ⟨Nat.le_of_ble_eq_true rfl, Nat.le_of_ble_eq_true rfl⟩ ⟨Nat.zero_le _, Nat.zero_le _⟩ hK hZ hS hP (hD.weaken (fun _ _ _ _ => trivial)) hF_2 zP_nil zAp_nil rfl rfl rfl rfl hl.1 rfl (Nat.le_of_ble_eq_true rfl) d_MO_next_2 (fun w_2 H locs h_2 pp_2 dd_2 zz_2 kk_2 hS => ?_)
  obtain ⟨m8, rfl, hm8⟩ := h_2
  have hP : va_P g.1 classes [(r 0, .inr (4, [.int (iI ut), .int (iI uc), .int (iI la), .int (iI wo), .ref (r 1), .ref (r 2), .ref (r 3), .int (iI ((((kinL ut uc la c).length : Nat) : Int))), .ref (r 4)])), (r 1, .inl (zJ g, 139264, .inr (.inl (lA bw)))), (r 2, .inl (zBt g, 12544, .inl (ai kF))), (r 3, .inl (zI g, 4, .inl (ai m8))), (r 4, .inl (zI g, 14, .inl (ai PT)))] H := pp_2
  have hD : va_D A [(r 0, .inr (4, [.int (iI ut), .int (iI uc), .int (iI la), .int (iI wo), .ref (r 1), .ref (r 2), .ref (r 3), .int (iI ((((kinL ut uc la c).length : Nat) : Int))), .ref (r 4)])), (r 1, .inl (zJ g, 139264, .inr (.inl (lA bw)))), (r 2, .inl (zBt g, 12544, .inl (ai kF))), (r 3, .inl (zI g, 4, .inl (ai m8))), (r 4, .inl (zI g, 14, .inl (ai PT)))] := dd_2.weaken (fun _ _ _ h9 => hF_2 _ h9)
  refine lv_iconst (v := iI (-1)) hx hb d_MO_next_5 rfl ?_
  refine lv_istore_n (lv' := [(2, .int (iI ((-1)))), (0, .ref (r 0)), (1, .int (iI c))]) hx hb d_MO_next_6 rfl hl (by decide) rfl (fun ls hl => ?_)
  refine lv_iload_n hx hb d_MO_next_7 rfl (lv_at hl 2 rfl) ?_
  refine lv_istore_n (lv' := [(3, .int (iI c)), (2, .int (iI ((-1)))), (0, .ref (r 0)), (1, .int (iI c))]) hx hb d_MO_next_8 rfl hl (by decide) rfl (fun ls hl => ?_)
  refine lv_iconst (v := iI 0) hx hb d_MO_next_9 rfl ?_
  refine lv_istore (lv' := [(4, .int (iI 0)), (3, .int (iI c)), (2, .int (iI ((-1)))), (0, .ref (r 0)), (1, .int (iI c))]) hx hb d_MO_next_10 hl (by decide) rfl (fun ls hl => ?_)
  exact J12 (_ + 1) m8 0 (-1) c _ _ ls (Nat.lt_succ_self _) (lv_sub hl [3, 4, 2, 1, 0] rfl) (by exact hm8) (by omega) (by omega) (by omega) (by rfl) hP hD hS
set_option maxHeartbeats 4000000 in
set_option maxRecDepth 100000 in
theorem c_MO_upper (l : Launch) (g : zG) (sz : Nat) (r : Nat → Nat) (ut uc la wo : Int) (bw : Nat → Nat) (mt : Nat → Int) (ms : Int) (c : Int) (hut : 0 ≤ ut ∧ ut ≤ 1) (huc : 0 ≤ uc ∧ uc ≤ 1) (hla : 0 ≤ la ∧ la ≤ 1114111) (hc : 0 ≤ c ∧ c ≤ 1114111) : Met l y_MO_upper w_MO_upper { frames := 4, cells := 0, slots := 0, locals := 89 } (zPw g [.ref (r 0), .int (iI c)] [(r 0, .inr (4, [.int (iI ut), .int (iI uc), .int (iI la), .int (iI wo), .ref (r 1), .ref (r 2), .ref (r 3), .int (iI ms), .ref (r 4)])), (r 1, .inl (zJ g, 139264, .inr (.inl (lA bw)))), (r 2, .inl (zBt g, 12544, .inl (ai kF))), (r 3, .inl (zI g, 4, .inl (ai mt))), (r 4, .inl (zI g, 14, .inl (ai PT)))] [] sz) (va_Qi (fun z w => ∃ (m9 : Nat → Int) (n9 : Int), w = [(r 0, .inr (4, [.int (iI ut), .int (iI uc), .int (iI la), .int (iI wo), .ref (r 1), .ref (r 2), .ref (r 3), .int (iI n9), .ref (r 4)])), (r 1, .inl (zJ g, 139264, .inr (.inl (lA bw)))), (r 2, .inl (zBt g, 12544, .inl (ai kF))), (r 3, .inl (zI g, 4, .inl (ai m9))), (r 4, .inl (zI g, 14, .inl (ai PT)))] ∧ z = iI (upF ut uc la c)) (zB g (va_A [(r 0, .inr (4, [.int (iI ut), .int (iI uc), .int (iI la), .int (iI wo), .ref (r 1), .ref (r 2), .ref (r 3), .int (iI ms), .ref (r 4)])), (r 1, .inl (zJ g, 139264, .inr (.inl (lA bw)))), (r 2, .inl (zBt g, 12544, .inl (ai kF))), (r 3, .inl (zI g, 4, .inl (ai mt))), (r 4, .inl (zI g, 14, .inl (ai PT)))] sz)) (va_A [(r 0, .inr (4, [.int (iI ut), .int (iI uc), .int (iI la), .int (iI wo), .ref (r 1), .ref (r 2), .ref (r 3), .int (iI ms), .ref (r 4)])), (r 1, .inl (zJ g, 139264, .inr (.inl (lA bw)))), (r 2, .inl (zBt g, 12544, .inl (ai kF))), (r 3, .inl (zI g, 4, .inl (ai mt))), (r 4, .inl (zI g, 14, .inl (ai PT)))] sz)) 0 0 (va_A [(r 0, .inr (4, [.int (iI ut), .int (iI uc), .int (iI la), .int (iI wo), .ref (r 1), .ref (r 2), .ref (r 3), .int (iI ms), .ref (r 4)])), (r 1, .inl (zJ g, 139264, .inr (.inl (lA bw)))), (r 2, .inl (zBt g, 12544, .inl (ai kF))), (r 3, .inl (zI g, 4, .inl (ai mt))), (r 4, .inl (zI g, 14, .inl (ai PT)))] sz) := by
  refine Met.ofW (cc := b_MO_upper) (maxL := 4) (ret := (some .int)) (by decide) rfl ?_
  intro p e s m args below meth cd s₁ B hml hv
  obtain ⟨hargs, hsz, hP, hK, hD0, hZ, hO0, hAp⟩ := hv
  have hx := B.exec
  have hb := B.bytes
  have hr := B.returns
  have ht : ∀ w ∈ lw_ok, w.before args s = true := fun w h => atoms_spec (ws := w_MO_upper) B.pre w (List.mem_cons_of_mem _ h)
  have hown : s.vm.findClass R_MO = some m.cls := findClass_of_methodNamed B.named
  have hlocks := B.notSynchronized
  subst hsz
  have hD := hD0.self (sz := s.heap.size)
  generalize hAe : va_A [(r 0, .inr (4, [.int (iI ut), .int (iI uc), .int (iI la), .int (iI wo), .ref (r 1), .ref (r 2), .ref (r 3), .int (iI ms), .ref (r 4)])), (r 1, .inl (zJ g, 139264, .inr (.inl (lA bw)))), (r 2, .inl (zBt g, 12544, .inl (ai kF))), (r 3, .inl (zI g, 4, .inl (ai mt))), (r 4, .inl (zI g, 14, .inl (ai PT)))] s.heap.size = A at hD hZ hAp ⊢
  have hA : ∀ q : Nat, s.heap.size ≤ q → A q := fun q h => by rw [← hAe]; exact Or.inr h
  have hS : va_S A s.heap s.heap [] := va_S.rf
  generalize hQ : MQ below _ args s 0 0 _ = Q
  have hl := lv_entry ([.ref (r 0), .int (iI c)]) (n := 4) (Nat.le_of_ble_eq_true rfl)
  rw [show entryFrame m args 4 = entryFrame m ([.ref (r 0), .int (iI c)] : List Value).toArray 4 by rw [hargs], lg_entry_eq]
  generalize (lg_sl ([.ref (r 0), .int (iI c)]) ++ List.replicate (4 - (lg_sl ([.ref (r 0), .int (iI c)])).length) Slot.unset).toArray = ls at hl ⊢
  have hl : lv_has ls 4 [(0, .ref (r 0)), (1, .int (iI c))] := hl
  obtain ⟨H, locs, hHe, hLe⟩ : ∃ (H : Heap) (locs : List Loc), H = s.heap ∧ locs = [] := ⟨_, _, rfl, rfl⟩
  rw [show W p l e _ s m args below meth cd s.heap [] 0 0 Q = W p l e _ s m args below meth cd H locs 0 0 Q by rw [hHe, hLe]]
  rw [← hHe] at hP
  have hS : va_S A s.heap H locs := by rw [hHe, hLe]; exact hS
  have hbk := kinL_bd ut uc la c hc
  have hkl := kinL_len ut uc la c
  have J20 : ∀ fu : Nat, ∀ (m2 : Nat → Int) (i : Nat) (be : Int) (H : Heap) (locs : List Loc) (ls : Array Slot), (kinL ut uc la c).length - i < fu → lv_has ls 4 [(0, .ref (r 0)), (1, .int (iI c)), (2, .int (iI be)), (3, .int (iI (((i : Nat) : Int))))] → (∀ i, i < (kinL ut uc la c).length → m2 i = (kinL ut uc la c).getD i 0) → (i ≤ (kinL ut uc la c).length) → (catF c = 4) → (0 ≤ be ∧ be ≤ 1114111) → (be = ((kinL ut uc la c).take i).foldl (ups c) c) → va_P g.1 classes [(r 0, .inr (4, [.int (iI ut), .int (iI uc), .int (iI la), .int (iI wo), .ref (r 1), .ref (r 2), .ref (r 3), .int (iI ((((kinL ut uc la c).length : Nat) : Int))), .ref (r 4)])), (r 1, .inl (zJ g, 139264, .inr (.inl (lA bw)))), (r 2, .inl (zBt g, 12544, .inl (ai kF))), (r 3, .inl (zI g, 4, .inl (ai m2))), (r 4, .inl (zI g, 14, .inl (ai PT)))] H → va_D A [(r 0, .inr (4, [.int (iI ut), .int (iI uc), .int (iI la), .int (iI wo), .ref (r 1), .ref (r 2), .ref (r 3), .int (iI ((((kinL ut uc la c).length : Nat) : Int))), .ref (r 4)])), (r 1, .inl (zJ g, 139264, .inr (.inl (lA bw)))), (r 2, .inl (zBt g, 12544, .inl (ai kF))), (r 3, .inl (zI g, 4, .inl (ai m2))), (r 4, .inl (zI g, 14, .inl (ai PT)))] → va_S A s.heap H locs → W p l e (headSpec w_MO_upper { frames := 4, cells := 0, slots := 0, locals := 89 }).room s m args below meth cd H locs 0 0 Q (F0 m 20 ls []) := by
    intro fu
    induction fu with
    | zero => exact fun _ _ _ _ _ _ hfu _ _ _ _ _ _ _ _ _ => absurd hfu (Nat.not_lt_zero _)
    | succ fu ih =>
      intro m2 i be H locs ls hfu hl hm2 hi9 hc4 hbe hf hP hD hS
      refine lv_iload_n hx hb d_MO_upper_20 rfl (lv_at hl 3 rfl) ?_
      refine lv_aload_n hx hb d_MO_upper_21 rfl (lv_at hl 0 rfl) ?_
      refine va_get (D := g.1) (ci := 4) (v := .int (iI ((((kinL ut uc la c).length : Nat) : Int)))) (C := R_MO) (T := F_MO) (N := 9) hx hb ht i_MO hown hK hP 0 rfl rfl 7 (by decide) (ht _ k_425) (fun _ h9 => h9) rfl d_MO_upper_22 ?_
      refine ix_icmp_ge (tgt := 71) hx hb d_MO_upper_25 (by decide) (by omega) (fun c_25 => ?_) (fun c_25 => ?_)
      · rw [List.take_of_length_le (by omega)] at hf
        refine lv_iload_n hx hb d_MO_upper_71 rfl (lv_at hl 2 rfl) ?_
        subst hQ
        exact W.iret (v := iI be) hx hb hr (fun t h9 hW => ⟨⟨_, _, rfl, ⟨_, _, rfl, congrArg iI (by unfold upF; rw [if_pos hc4]; exact hf)⟩, by rw [h9]; exact hP, va_K.moved hW.alike hK, hD⟩, hS.F h9⟩) hS.2.2 d_MO_upper_72
      · have hi8 : i < (kinL ut uc la c).length := by omega
        have hx9 := hm2 i (by omega)
        have hb9 := hbk _ (gd_in (L := kinL ut uc la c) (i := i) (by omega))
        rw [← hx9] at hb9
        refine lv_aload_n hx hb d_MO_upper_28 rfl (lv_at hl 0 rfl) ?_
        refine lv_aload_n hx hb d_MO_upper_29 rfl (lv_at hl 0 rfl) ?_
        refine va_get (D := g.1) (ci := 4) (v := .ref (r 3)) (C := R_MO) (T := F_MO) (N := 9) hx hb ht i_MO hown hK hP 0 rfl rfl 6 (by decide) (ht _ k_424) (fun _ h9 => h9) rfl d_MO_upper_30 ?_
        refine lv_iload_n hx hb d_MO_upper_33 rfl (lv_at hl 3 rfl) ?_
        refine ix_iald hx hb hK hP 3 0 rfl rfl (i := (((i : Nat) : Int))) i (by omega) d_MO_upper_34 ?_
        refine zcV (ci := 4) (q0 := 0) (As := [.int (iI (m2 i))]) (rest := []) ⟨hx, hb, hml, hown, ht⟩ v_MO_75 (c_MO_category l g r ut uc la wo bw _ _ (m2 i) (by omega)) ⟨Nat.le_of_ble_eq_true rfl, Nat.le_of_ble_eq_true rfl⟩ ⟨Nat.zero_le _, Nat.zero_le _⟩ hK hZ hS hP rfl rfl rfl rfl hl.1 rfl (Nat.le_of_ble_eq_true rfl) d_MO_upper_35 (fun r_35 h_35 => ?_)
        subst h_35
        have q_35 := catF_bd (m2 i) (by omega)
        refine lv_bipush (v := iI 6) hx hb d_MO_upper_38 (by decide) ?_
        refine ix_icmp_ne (tgt := 65) hx hb d_MO_upper_40 (by decide) (by omega) (fun c_40 => ?_) (fun c_40 => ?_)
        · refine lv_iinc (v := iI ((((i : Nat) : Int)) + 1)) (lv' := [(3, .int (iI ((((i : Nat) : Int)) + 1))), (0, .ref (r 0)), (1, .int (iI c)), (2, .int (iI be))]) hx hb d_MO_upper_65 hl (k := 3) rfl (iI_add _ _) (by decide) rfl (fun ls hl => ?_)
          refine lv_goto (tgt := 20) hx hb d_MO_upper_68 (by decide) ?_
          exact ih m2 (i + 1) be _ _ ls (by omega) (lv_sub hl [1, 2, 3, 0] rfl) (by exact hm2) (by omega) (by omega) (by omega) (by rw [fold_take _ _ hi8, ← hf, ← hx9]; unfold ups; first | rw [if_pos (show catF (m2 i) = 6 ∧ (be = c ∨ m2 i < be) by omega)] | rw [if_neg (show ¬ (catF (m2 i) = 6 ∧ (be = c ∨ m2 i < be)) by omega)]) hP hD hS
        · refine lv_iload_n hx hb d_MO_upper_43 rfl (lv_at hl 2 rfl) ?_
          refine lv_iload_n hx hb d_MO_upper_44 rfl (lv_at hl 1 rfl) ?_
          refine ix_icmp_eq (tgt := 58) hx hb d_MO_upper_45 (by decide) (by omega) (fun c_45 => ?_) (fun c_45 => ?_)
          · refine lv_aload_n hx hb d_MO_upper_58 rfl (lv_at hl 0 rfl) ?_
            refine va_get (D := g.1) (ci := 4) (v := .ref (r 3)) (C := R_MO) (T := F_MO) (N := 9) hx hb ht i_MO hown hK hP 0 rfl rfl 6 (by decide) (ht _ k_424) (fun _ h9 => h9) rfl d_MO_upper_59 ?_
            refine lv_iload_n hx hb d_MO_upper_62 rfl (lv_at hl 3 rfl) ?_
            refine ix_iald hx hb hK hP 3 0 rfl rfl (i := (((i : Nat) : Int))) i (by omega) d_MO_upper_63 ?_
            refine lv_istore_n (lv' := [(2, .int (iI (m2 i))), (0, .ref (r 0)), (1, .int (iI c)), (3, .int (iI (((i : Nat) : Int))))]) hx hb d_MO_upper_64 rfl hl (by decide) rfl (fun ls hl => ?_)
            refine lv_iinc (v := iI ((((i : Nat) : Int)) + 1)) (lv' := [(3, .int (iI ((((i : Nat) : Int)) + 1))), (2, .int (iI (m2 i))), (0, .ref (r 0)), (1, .int (iI c))]) hx hb d_MO_upper_65 hl (k := 3) rfl (iI_add _ _) (by decide) rfl (fun ls hl => ?_)
            refine lv_goto (tgt := 20) hx hb d_MO_upper_68 (by decide) ?_
            exact ih m2 (i + 1) (m2 i) _ _ ls (by omega) (lv_sub hl [2, 3, 1, 0] rfl) (by exact hm2) (by omega) (by omega) (by omega) (by rw [fold_take _ _ hi8, ← hf, ← hx9]; unfold ups; first | rw [if_pos (show catF (m2 i) = 6 ∧ (be = c ∨ m2 i < be) by omega)] | rw [if_neg (show ¬ (catF (m2 i) = 6 ∧ (be = c ∨ m2 i < be)) by omega)]) hP hD hS
          · refine lv_aload_n hx hb d_MO_upper_48 rfl (lv_at hl 0 rfl) ?_
            refine va_get (D := g.1) (ci := 4) (v := .ref (r 3)) (C := R_MO) (T := F_MO) (N := 9) hx hb ht i_MO hown hK hP 0 rfl rfl 6 (by decide) (ht _ k_424) (fun _ h9 => h9) rfl d_MO_upper_49 ?_
            refine lv_iload_n hx hb d_MO_upper_52 rfl (lv_at hl 3 rfl) ?_
            refine ix_iald hx hb hK hP 3 0 rfl rfl (i := (((i : Nat) : Int))) i (by omega) d_MO_upper_53 ?_
            refine lv_iload_n hx hb d_MO_upper_54 rfl (lv_at hl 2 rfl) ?_
            refine ix_icmp_ge (tgt := 65) hx hb d_MO_upper_55 (by decide) (by omega) (fun c_55 => ?_) (fun c_55 => ?_)
            · refine lv_iinc (v := iI ((((i : Nat) : Int)) + 1)) (lv' := [(3, .int (iI ((((i : Nat) : Int)) + 1))), (0, .ref (r 0)), (1, .int (iI c)), (2, .int (iI be))]) hx hb d_MO_upper_65 hl (k := 3) rfl (iI_add _ _) (by decide) rfl (fun ls hl => ?_)
              refine lv_goto (tgt := 20) hx hb d_MO_upper_68 (by decide) ?_
              exact ih m2 (i + 1) be _ _ ls (by omega) (lv_sub hl [1, 2, 3, 0] rfl) (by exact hm2) (by omega) (by omega) (by omega) (by rw [fold_take _ _ hi8, ← hf, ← hx9]; unfold ups; first | rw [if_pos (show catF (m2 i) = 6 ∧ (be = c ∨ m2 i < be) by omega)] | rw [if_neg (show ¬ (catF (m2 i) = 6 ∧ (be = c ∨ m2 i < be)) by omega)]) hP hD hS
            · refine lv_aload_n hx hb d_MO_upper_58 rfl (lv_at hl 0 rfl) ?_
              refine va_get (D := g.1) (ci := 4) (v := .ref (r 3)) (C := R_MO) (T := F_MO) (N := 9) hx hb ht i_MO hown hK hP 0 rfl rfl 6 (by decide) (ht _ k_424) (fun _ h9 => h9) rfl d_MO_upper_59 ?_
              refine lv_iload_n hx hb d_MO_upper_62 rfl (lv_at hl 3 rfl) ?_
              refine ix_iald hx hb hK hP 3 0 rfl rfl (i := (((i : Nat) : Int))) i (by omega) d_MO_upper_63 ?_
              refine lv_istore_n (lv' := [(2, .int (iI (m2 i))), (0, .ref (r 0)), (1, .int (iI c)), (3, .int (iI (((i : Nat) : Int))))]) hx hb d_MO_upper_64 rfl hl (by decide) rfl (fun ls hl => ?_)
              refine lv_iinc (v := iI ((((i : Nat) : Int)) + 1)) (lv' := [(3, .int (iI ((((i : Nat) : Int)) + 1))), (2, .int (iI (m2 i))), (0, .ref (r 0)), (1, .int (iI c))]) hx hb d_MO_upper_65 hl (k := 3) rfl (iI_add _ _) (by decide) rfl (fun ls hl => ?_)
              refine lv_goto (tgt := 20) hx hb d_MO_upper_68 (by decide) ?_
              exact ih m2 (i + 1) (m2 i) _ _ ls (by omega) (lv_sub hl [2, 3, 1, 0] rfl) (by exact hm2) (by omega) (by omega) (by omega) (by rw [fold_take _ _ hi8, ← hf, ← hx9]; unfold ups; first | rw [if_pos (show catF (m2 i) = 6 ∧ (be = c ∨ m2 i < be) by omega)] | rw [if_neg (show ¬ (catF (m2 i) = 6 ∧ (be = c ∨ m2 i < be)) by omega)]) hP hD hS
  refine lv_aload_n hx hb d_MO_upper_0 rfl (lv_at hl 0 rfl) ?_
  refine lv_iload_n hx hb d_MO_upper_1 rfl (lv_at hl 1 rfl) ?_
  refine zcV (ci := 4) (q0 := 0) (As := [.int (iI c)]) (rest := []) ⟨hx, hb, hml, hown, ht⟩ v_MO_75 (c_MO_category l g r ut uc la wo bw _ _ c (by omega)) ⟨Nat.le_of_ble_eq_true rfl, Nat.le_of_ble_eq_true rfl⟩ ⟨Nat.zero_le _, Nat.zero_le _⟩ hK hZ hS hP rfl rfl rfl rfl hl.1 rfl (Nat.le_of_ble_eq_true rfl) d_MO_upper_2 (fun r_2 h_2 => ?_)
  subst h_2
  have q_2 := catF_bd c (by omega)
  refine lv_iconst (v := iI 4) hx hb d_MO_upper_5 rfl ?_
  refine ix_icmp_eq (tgt := 11) hx hb d_MO_upper_6 (by decide) (by omega) (fun c_6 => ?_) (fun c_6 => ?_)
  · refine lv_aload_n hx hb d_MO_upper_11 rfl (lv_at hl 0 rfl) ?_
    refine lv_iload_n hx hb d_MO_upper_12 rfl (lv_at hl 1 rfl) ?_
    have hF_13 := va_free (wc := [(r 0, .inr (4, [.int (iI ut), .int (iI uc), .int (iI la), .int (iI wo), .ref (r 1), .ref (r 2), .ref (r 3), .int (iI ms), .ref (r 4)])), (r 1, .inl (zJ g, 139264, .inr (.inl (lA bw)))), (r 2, .inl (zBt g, 12544, .inl (ai kF))), (r 3, .inl (zI g, 4, .inl (ai mt))), (r 4, .inl (zI g, 14, .inl (ai PT)))]) hD hS hA [0, 1, 2, 3, 4] rfl
    refine zcVv (ci := 4) (q0 := 0) (As := [.int (iI c)]) (rest := []) ⟨hx, hb, hml, hown, ht⟩ v_MO_96 (c_MO_caseOf l g H.size r ut uc la wo bw mt ms c hut huc hla (by omega)) ⟨Nat.le_of_ble_eq_true rfl, Nat.le_of_ble_eq_true rfl⟩ ⟨Nat.zero_le _, Nat.zero_le _⟩ hK hZ hS hP (hD.weaken (fun _ _ _ _ => trivial)) hF_13 zP_nil zAp_nil rfl rfl rfl rfl hl.1 rfl (Nat.le_of_ble_eq_true rfl) d_MO_upper_13 (fun w_13 H locs h_13 pp_13 dd_13 zz_13 kk_13 hS => ?_)
    obtain ⟨m8, rfl, hm8⟩ := h_13
    have hP : va_P g.1 classes [(r 0, .inr (4, [.int (iI ut), .int (iI uc), .int (iI la), .int (iI wo), .ref (r 1), .ref (r 2), .ref (r 3), .int (iI ((((kinL ut uc la c).length : Nat) : Int))), .ref (r 4)])), (r 1, .inl (zJ g, 139264, .inr (.inl (lA bw)))), (r 2, .inl (zBt g, 12544, .inl (ai kF))), (r 3, .inl (zI g, 4, .inl (ai m8))), (r 4, .inl (zI g, 14, .inl (ai PT)))] H := pp_13
    have hD : va_D A [(r 0, .inr (4, [.int (iI ut), .int (iI uc), .int (iI la), .int (iI wo), .ref (r 1), .ref (r 2), .ref (r 3), .int (iI ((((kinL ut uc la c).length : Nat) : Int))), .ref (r 4)])), (r 1, .inl (zJ g, 139264, .inr (.inl (lA bw)))), (r 2, .inl (zBt g, 12544, .inl (ai kF))), (r 3, .inl (zI g, 4, .inl (ai m8))), (r 4, .inl (zI g, 14, .inl (ai PT)))] := dd_13.weaken (fun _ _ _ h9 => hF_13 _ h9)
    refine lv_iload_n hx hb d_MO_upper_16 rfl (lv_at hl 1 rfl) ?_
    refine lv_istore_n (lv' := [(2, .int (iI c)), (0, .ref (r 0)), (1, .int (iI c))]) hx hb d_MO_upper_17 rfl hl (by decide) rfl (fun ls hl => ?_)
    refine lv_iconst (v := iI 0) hx hb d_MO_upper_18 rfl ?_
    refine lv_istore_n (lv' := [(3, .int (iI 0)), (2, .int (iI c)), (0, .ref (r 0)), (1, .int (iI c))]) hx hb d_MO_upper_19 rfl hl (by decide) rfl (fun ls hl => ?_)
    exact J20 (_ + 1) m8 0 c _ _ ls (Nat.lt_succ_self _) (lv_sub hl [2, 3, 1, 0] rfl) (by exact hm8) (by omega) (by omega) (by omega) (by rfl) hP hD hS
  · refine lv_iload_n hx hb d_MO_upper_9 rfl (lv_at hl 1 rfl) ?_
    subst hQ
    exact W.iret (v := iI c) hx hb hr (fun t h9 hW => ⟨⟨_, _, rfl, ⟨_, _, rfl, congrArg iI (by unfold upF; rw [if_neg (by omega)])⟩, by rw [h9]; exact hP, va_K.moved hW.alike hK, hD⟩, hS.F h9⟩) hS.2.2 d_MO_upper_10
set_option maxHeartbeats 4000000 in
set_option maxRecDepth 100000 in
theorem c_MO_lower (l : Launch) (g : zG) (sz : Nat) (r : Nat → Nat) (ut uc la wo : Int) (bw : Nat → Nat) (mt : Nat → Int) (ms : Int) (c : Int) (hut : 0 ≤ ut ∧ ut ≤ 1) (huc : 0 ≤ uc ∧ uc ≤ 1) (hla : 0 ≤ la ∧ la ≤ 1114111) (hc : 0 ≤ c ∧ c ≤ 1114111) : Met l y_MO_lower w_MO_lower { frames := 4, cells := 0, slots := 0, locals := 89 } (zPw g [.ref (r 0), .int (iI c)] [(r 0, .inr (4, [.int (iI ut), .int (iI uc), .int (iI la), .int (iI wo), .ref (r 1), .ref (r 2), .ref (r 3), .int (iI ms), .ref (r 4)])), (r 1, .inl (zJ g, 139264, .inr (.inl (lA bw)))), (r 2, .inl (zBt g, 12544, .inl (ai kF))), (r 3, .inl (zI g, 4, .inl (ai mt))), (r 4, .inl (zI g, 14, .inl (ai PT)))] [] sz) (va_Qi (fun z w => ∃ (m9 : Nat → Int) (n9 : Int), w = [(r 0, .inr (4, [.int (iI ut), .int (iI uc), .int (iI la), .int (iI wo), .ref (r 1), .ref (r 2), .ref (r 3), .int (iI n9), .ref (r 4)])), (r 1, .inl (zJ g, 139264, .inr (.inl (lA bw)))), (r 2, .inl (zBt g, 12544, .inl (ai kF))), (r 3, .inl (zI g, 4, .inl (ai m9))), (r 4, .inl (zI g, 14, .inl (ai PT)))] ∧ z = iI (lwF ut uc la c)) (zB g (va_A [(r 0, .inr (4, [.int (iI ut), .int (iI uc), .int (iI la), .int (iI wo), .ref (r 1), .ref (r 2), .ref (r 3), .int (iI ms), .ref (r 4)])), (r 1, .inl (zJ g, 139264, .inr (.inl (lA bw)))), (r 2, .inl (zBt g, 12544, .inl (ai kF))), (r 3, .inl (zI g, 4, .inl (ai mt))), (r 4, .inl (zI g, 14, .inl (ai PT)))] sz)) (va_A [(r 0, .inr (4, [.int (iI ut), .int (iI uc), .int (iI la), .int (iI wo), .ref (r 1), .ref (r 2), .ref (r 3), .int (iI ms), .ref (r 4)])), (r 1, .inl (zJ g, 139264, .inr (.inl (lA bw)))), (r 2, .inl (zBt g, 12544, .inl (ai kF))), (r 3, .inl (zI g, 4, .inl (ai mt))), (r 4, .inl (zI g, 14, .inl (ai PT)))] sz)) 0 0 (va_A [(r 0, .inr (4, [.int (iI ut), .int (iI uc), .int (iI la), .int (iI wo), .ref (r 1), .ref (r 2), .ref (r 3), .int (iI ms), .ref (r 4)])), (r 1, .inl (zJ g, 139264, .inr (.inl (lA bw)))), (r 2, .inl (zBt g, 12544, .inl (ai kF))), (r 3, .inl (zI g, 4, .inl (ai mt))), (r 4, .inl (zI g, 14, .inl (ai PT)))] sz) := by
  refine Met.ofW (cc := b_MO_lower) (maxL := 3) (ret := (some .int)) (by decide) rfl ?_
  intro p e s m args below meth cd s₁ B hml hv
  obtain ⟨hargs, hsz, hP, hK, hD0, hZ, hO0, hAp⟩ := hv
  have hx := B.exec
  have hb := B.bytes
  have hr := B.returns
  have ht : ∀ w ∈ lw_ok, w.before args s = true := fun w h => atoms_spec (ws := w_MO_lower) B.pre w (List.mem_cons_of_mem _ h)
  have hown : s.vm.findClass R_MO = some m.cls := findClass_of_methodNamed B.named
  have hlocks := B.notSynchronized
  subst hsz
  have hD := hD0.self (sz := s.heap.size)
  generalize hAe : va_A [(r 0, .inr (4, [.int (iI ut), .int (iI uc), .int (iI la), .int (iI wo), .ref (r 1), .ref (r 2), .ref (r 3), .int (iI ms), .ref (r 4)])), (r 1, .inl (zJ g, 139264, .inr (.inl (lA bw)))), (r 2, .inl (zBt g, 12544, .inl (ai kF))), (r 3, .inl (zI g, 4, .inl (ai mt))), (r 4, .inl (zI g, 14, .inl (ai PT)))] s.heap.size = A at hD hZ hAp ⊢
  have hA : ∀ q : Nat, s.heap.size ≤ q → A q := fun q h => by rw [← hAe]; exact Or.inr h
  have hS : va_S A s.heap s.heap [] := va_S.rf
  generalize hQ : MQ below _ args s 0 0 _ = Q
  have hl := lv_entry ([.ref (r 0), .int (iI c)]) (n := 3) (Nat.le_of_ble_eq_true rfl)
  rw [show entryFrame m args 3 = entryFrame m ([.ref (r 0), .int (iI c)] : List Value).toArray 3 by rw [hargs], lg_entry_eq]
  generalize (lg_sl ([.ref (r 0), .int (iI c)]) ++ List.replicate (3 - (lg_sl ([.ref (r 0), .int (iI c)])).length) Slot.unset).toArray = ls at hl ⊢
  have hl : lv_has ls 3 [(0, .ref (r 0)), (1, .int (iI c))] := hl
  obtain ⟨H, locs, hHe, hLe⟩ : ∃ (H : Heap) (locs : List Loc), H = s.heap ∧ locs = [] := ⟨_, _, rfl, rfl⟩
  rw [show W p l e _ s m args below meth cd s.heap [] 0 0 Q = W p l e _ s m args below meth cd H locs 0 0 Q by rw [hHe, hLe]]
  rw [← hHe] at hP
  have hS : va_S A s.heap H locs := by rw [hHe, hLe]; exact hS
  have hbk := kinL_bd ut uc la c hc
  have hkl := kinL_len ut uc la c
  have J19 : ∀ fu : Nat, ∀ (m2 : Nat → Int) (i : Nat)  (H : Heap) (locs : List Loc) (ls : Array Slot), (kinL ut uc la c).length - i < fu → lv_has ls 3 [(0, .ref (r 0)), (1, .int (iI c)), (2, .int (iI (((i : Nat) : Int))))] → (∀ i, i < (kinL ut uc la c).length → m2 i = (kinL ut uc la c).getD i 0) → (i ≤ (kinL ut uc la c).length) → (catF c = 6) → (lwR c (kinL ut uc la c) = lwR c ((kinL ut uc la c).drop i)) → va_P g.1 classes [(r 0, .inr (4, [.int (iI ut), .int (iI uc), .int (iI la), .int (iI wo), .ref (r 1), .ref (r 2), .ref (r 3), .int (iI ((((kinL ut uc la c).length : Nat) : Int))), .ref (r 4)])), (r 1, .inl (zJ g, 139264, .inr (.inl (lA bw)))), (r 2, .inl (zBt g, 12544, .inl (ai kF))), (r 3, .inl (zI g, 4, .inl (ai m2))), (r 4, .inl (zI g, 14, .inl (ai PT)))] H → va_D A [(r 0, .inr (4, [.int (iI ut), .int (iI uc), .int (iI la), .int (iI wo), .ref (r 1), .ref (r 2), .ref (r 3), .int (iI ((((kinL ut uc la c).length : Nat) : Int))), .ref (r 4)])), (r 1, .inl (zJ g, 139264, .inr (.inl (lA bw)))), (r 2, .inl (zBt g, 12544, .inl (ai kF))), (r 3, .inl (zI g, 4, .inl (ai m2))), (r 4, .inl (zI g, 14, .inl (ai PT)))] → va_S A s.heap H locs → W p l e (headSpec w_MO_lower { frames := 4, cells := 0, slots := 0, locals := 89 }).room s m args below meth cd H locs 0 0 Q (F0 m 19 ls []) := by
    intro fu
    induction fu with
    | zero => exact fun _ _ _ _ _ hfu _ _ _ _ _ _ _ _ => absurd hfu (Nat.not_lt_zero _)
    | succ fu ih =>
      intro m2 i H locs ls hfu hl hm2 hi9 hc6 hf hP hD hS
      refine lv_iload_n hx hb d_MO_lower_19 rfl (lv_at hl 2 rfl) ?_
      refine lv_aload_n hx hb d_MO_lower_20 rfl (lv_at hl 0 rfl) ?_
      refine va_get (D := g.1) (ci := 4) (v := .int (iI ((((kinL ut uc la c).length : Nat) : Int)))) (C := R_MO) (T := F_MO) (N := 9) hx hb ht i_MO hown hK hP 0 rfl rfl 7 (by decide) (ht _ k_425) (fun _ h9 => h9) rfl d_MO_lower_21 ?_
      refine ix_icmp_ge (tgt := 67) hx hb d_MO_lower_24 (by decide) (by omega) (fun c_24 => ?_) (fun c_24 => ?_)
      · rw [List.drop_of_length_le (by omega)] at hf
        refine lv_iload_n hx hb d_MO_lower_67 rfl (lv_at hl 1 rfl) ?_
        subst hQ
        exact W.iret (v := iI c) hx hb hr (fun t h9 hW => ⟨⟨_, _, rfl, ⟨_, _, rfl, congrArg iI (by unfold lwF; rw [if_pos hc6, hf]; rfl)⟩, by rw [h9]; exact hP, va_K.moved hW.alike hK, hD⟩, hS.F h9⟩) hS.2.2 d_MO_lower_68
      · have hi8 : i < (kinL ut uc la c).length := by omega
        have hx9 := hm2 i (by omega)
        have hb9 := hbk _ (gd_in (L := kinL ut uc la c) (i := i) (by omega))
        rw [← hx9] at hb9
        rw [drop_get hi8, ← hx9] at hf
        refine lv_aload_n hx hb d_MO_lower_27 rfl (lv_at hl 0 rfl) ?_
        refine lv_aload_n hx hb d_MO_lower_28 rfl (lv_at hl 0 rfl) ?_
        refine va_get (D := g.1) (ci := 4) (v := .ref (r 3)) (C := R_MO) (T := F_MO) (N := 9) hx hb ht i_MO hown hK hP 0 rfl rfl 6 (by decide) (ht _ k_424) (fun _ h9 => h9) rfl d_MO_lower_29 ?_
        refine lv_iload_n hx hb d_MO_lower_32 rfl (lv_at hl 2 rfl) ?_
        refine ix_iald hx hb hK hP 3 0 rfl rfl (i := (((i : Nat) : Int))) i (by omega) d_MO_lower_33 ?_
        refine zcV (ci := 4) (q0 := 0) (As := [.int (iI (m2 i))]) (rest := []) ⟨hx, hb, hml, hown, ht⟩ v_MO_75 (c_MO_category l g r ut uc la wo bw _ _ (m2 i) (by omega)) ⟨Nat.le_of_ble_eq_true rfl, Nat.le_of_ble_eq_true rfl⟩ ⟨Nat.zero_le _, Nat.zero_le _⟩ hK hZ hS hP rfl rfl rfl rfl hl.1 rfl (Nat.le_of_ble_eq_true rfl) d_MO_lower_34 (fun r_34 h_34 => ?_)
        subst h_34
        have q_34 := catF_bd (m2 i) (by omega)
        refine lv_iconst (v := iI 4) hx hb d_MO_lower_37 rfl ?_
        refine ix_icmp_ne (tgt := 61) hx hb d_MO_lower_38 (by decide) (by omega) (fun c_38 => ?_) (fun c_38 => ?_)
        · refine lv_iinc (v := iI ((((i : Nat) : Int)) + 1)) (lv' := [(2, .int (iI ((((i : Nat) : Int)) + 1))), (0, .ref (r 0)), (1, .int (iI c))]) hx hb d_MO_lower_61 hl (k := 2) rfl (iI_add _ _) (by decide) rfl (fun ls hl => ?_)
          refine lv_goto (tgt := 19) hx hb d_MO_lower_64 (by decide) ?_
          exact ih m2 (i + 1) _ _ ls (by omega) (lv_sub hl [1, 2, 0] rfl) (by exact hm2) (by omega) (by omega) (by rw [hf]; exact if_neg (by omega)) hP hD hS
        · refine lv_aload_n hx hb d_MO_lower_41 rfl (lv_at hl 0 rfl) ?_
          refine lv_aload_n hx hb d_MO_lower_42 rfl (lv_at hl 0 rfl) ?_
          refine va_get (D := g.1) (ci := 4) (v := .ref (r 3)) (C := R_MO) (T := F_MO) (N := 9) hx hb ht i_MO hown hK hP 0 rfl rfl 6 (by decide) (ht _ k_424) (fun _ h9 => h9) rfl d_MO_lower_43 ?_
          refine lv_iload_n hx hb d_MO_lower_46 rfl (lv_at hl 2 rfl) ?_
          refine ix_iald hx hb hK hP 3 0 rfl rfl (i := (((i : Nat) : Int))) i (by omega) d_MO_lower_47 ?_
          refine zcV (ci := 4) (q0 := 0) (As := [.int (iI (m2 i))]) (rest := []) ⟨hx, hb, hml, hown, ht⟩ v_MO_83 (c_MO_third l g r ut uc la wo bw _ _ (m2 i) (by omega)) ⟨Nat.le_of_ble_eq_true rfl, Nat.le_of_ble_eq_true rfl⟩ ⟨Nat.zero_le _, Nat.zero_le _⟩ hK hZ hS hP rfl rfl rfl rfl hl.1 rfl (Nat.le_of_ble_eq_true rfl) d_MO_lower_48 (fun r_48 h_48 => ?_)
          subst h_48
          have q_48 := thirdF_bd (m2 i)
          refine ix_if_ge (tgt := 61) hx hb d_MO_lower_51 (by decide) (by omega) (fun c_51 => ?_) (fun c_51 => ?_)
          · refine lv_iinc (v := iI ((((i : Nat) : Int)) + 1)) (lv' := [(2, .int (iI ((((i : Nat) : Int)) + 1))), (0, .ref (r 0)), (1, .int (iI c))]) hx hb d_MO_lower_61 hl (k := 2) rfl (iI_add _ _) (by decide) rfl (fun ls hl => ?_)
            refine lv_goto (tgt := 19) hx hb d_MO_lower_64 (by decide) ?_
            exact ih m2 (i + 1) _ _ ls (by omega) (lv_sub hl [1, 2, 0] rfl) (by exact hm2) (by omega) (by omega) (by rw [hf]; exact if_neg (by omega)) hP hD hS
          · refine lv_aload_n hx hb d_MO_lower_54 rfl (lv_at hl 0 rfl) ?_
            refine va_get (D := g.1) (ci := 4) (v := .ref (r 3)) (C := R_MO) (T := F_MO) (N := 9) hx hb ht i_MO hown hK hP 0 rfl rfl 6 (by decide) (ht _ k_424) (fun _ h9 => h9) rfl d_MO_lower_55 ?_
            refine lv_iload_n hx hb d_MO_lower_58 rfl (lv_at hl 2 rfl) ?_
            refine ix_iald hx hb hK hP 3 0 rfl rfl (i := (((i : Nat) : Int))) i (by omega) d_MO_lower_59 ?_
            subst hQ
            exact W.iret (v := iI (m2 i)) hx hb hr (fun t h9 hW => ⟨⟨_, _, rfl, ⟨_, _, rfl, congrArg iI (by unfold lwF; rw [if_pos hc6, hf]; exact (if_pos (by omega)).symm)⟩, by rw [h9]; exact hP, va_K.moved hW.alike hK, hD⟩, hS.F h9⟩) hS.2.2 d_MO_lower_60
  refine lv_aload_n hx hb d_MO_lower_0 rfl (lv_at hl 0 rfl) ?_
  refine lv_iload_n hx hb d_MO_lower_1 rfl (lv_at hl 1 rfl) ?_
  refine zcV (ci := 4) (q0 := 0) (As := [.int (iI c)]) (rest := []) ⟨hx, hb, hml, hown, ht⟩ v_MO_75 (c_MO_category l g r ut uc la wo bw _ _ c (by omega)) ⟨Nat.le_of_ble_eq_true rfl, Nat.le_of_ble_eq_true rfl⟩ ⟨Nat.zero_le _, Nat.zero_le _⟩ hK hZ hS hP rfl rfl rfl rfl hl.1 rfl (Nat.le_of_ble_eq_true rfl) d_MO_lower_2 (fun r_2 h_2 => ?_)
  subst h_2
  have q_2 := catF_bd c (by omega)
  refine lv_bipush (v := iI 6) hx hb d_MO_lower_5 (by decide) ?_
  refine ix_icmp_eq (tgt := 12) hx hb d_MO_lower_7 (by decide) (by omega) (fun c_7 => ?_) (fun c_7 => ?_)
  · refine lv_aload_n hx hb d_MO_lower_12 rfl (lv_at hl 0 rfl) ?_
    refine lv_iload_n hx hb d_MO_lower_13 rfl (lv_at hl 1 rfl) ?_
    have hF_14 := va_free (wc := [(r 0, .inr (4, [.int (iI ut), .int (iI uc), .int (iI la), .int (iI wo), .ref (r 1), .ref (r 2), .ref (r 3), .int (iI ms), .ref (r 4)])), (r 1, .inl (zJ g, 139264, .inr (.inl (lA bw)))), (r 2, .inl (zBt g, 12544, .inl (ai kF))), (r 3, .inl (zI g, 4, .inl (ai mt))), (r 4, .inl (zI g, 14, .inl (ai PT)))]) hD hS hA [0, 1, 2, 3, 4] rfl
    refine zcVv (ci := 4) (q0 := 0) (As := [.int (iI c)]) (rest := []) ⟨hx, hb, hml, hown, ht⟩ v_MO_96 (c_MO_caseOf l g H.size r ut uc la wo bw mt ms c hut huc hla (by omega)) ⟨Nat.le_of_ble_eq_true rfl, Nat.le_of_ble_eq_true rfl⟩ ⟨Nat.zero_le _, Nat.zero_le _⟩ hK hZ hS hP (hD.weaken (fun _ _ _ _ => trivial)) hF_14 zP_nil zAp_nil rfl rfl rfl rfl hl.1 rfl (Nat.le_of_ble_eq_true rfl) d_MO_lower_14 (fun w_14 H locs h_14 pp_14 dd_14 zz_14 kk_14 hS => ?_)
    obtain ⟨m8, rfl, hm8⟩ := h_14
    have hP : va_P g.1 classes [(r 0, .inr (4, [.int (iI ut), .int (iI uc), .int (iI la), .int (iI wo), .ref (r 1), .ref (r 2), .ref (r 3), .int (iI ((((kinL ut uc la c).length : Nat) : Int))), .ref (r 4)])), (r 1, .inl (zJ g, 139264, .inr (.inl (lA bw)))), (r 2, .inl (zBt g, 12544, .inl (ai kF))), (r 3, .inl (zI g, 4, .inl (ai m8))), (r 4, .inl (zI g, 14, .inl (ai PT)))] H := pp_14
    have hD : va_D A [(r 0, .inr (4, [.int (iI ut), .int (iI uc), .int (iI la), .int (iI wo), .ref (r 1), .ref (r 2), .ref (r 3), .int (iI ((((kinL ut uc la c).length : Nat) : Int))), .ref (r 4)])), (r 1, .inl (zJ g, 139264, .inr (.inl (lA bw)))), (r 2, .inl (zBt g, 12544, .inl (ai kF))), (r 3, .inl (zI g, 4, .inl (ai m8))), (r 4, .inl (zI g, 14, .inl (ai PT)))] := dd_14.weaken (fun _ _ _ h9 => hF_14 _ h9)
    refine lv_iconst (v := iI 0) hx hb d_MO_lower_17 rfl ?_
    refine lv_istore_n (lv' := [(2, .int (iI 0)), (0, .ref (r 0)), (1, .int (iI c))]) hx hb d_MO_lower_18 rfl hl (by decide) rfl (fun ls hl => ?_)
    exact J19 (_ + 1) m8 0 _ _ ls (Nat.lt_succ_self _) (lv_sub hl [1, 2, 0] rfl) (by exact hm8) (by omega) (by omega) (by rfl) hP hD hS
  · refine lv_iload_n hx hb d_MO_lower_10 rfl (lv_at hl 1 rfl) ?_
    subst hQ
    exact W.iret (v := iI c) hx hb hr (fun t h9 hW => ⟨⟨_, _, rfl, ⟨_, _, rfl, congrArg iI (by unfold lwF; rw [if_neg (by omega)])⟩, by rw [h9]; exact hP, va_K.moved hW.alike hK, hD⟩, hS.F h9⟩) hS.2.2 d_MO_lower_11
