set_option maxHeartbeats 4000000 in
set_option maxRecDepth 100000 in
theorem c_RG_empty (l : Launch) (g : zG) (sz : Nat) (h q : Nat) (n : Nat) (es : Nat → Int)  : Met l y_RG_empty w_RG_empty { frames := 0, cells := 0, slots := 0, locals := 0 } (zPw g [.ref h] [(h, .inr (1, [.ref q, .int (iI (((n : Nat) : Int)))])), (q, .inl (zI g, 2048, .inl (ai es)))] [] sz) (va_Qv (fun w => w = [(h, .inr (1, [.ref q, .int (iI (((0 : Nat) : Int)))])), (q, .inl (zI g, 2048, .inl (ai es)))]) (zB g (va_A [(h, .inr (1, [.ref q, .int (iI (((n : Nat) : Int)))])), (q, .inl (zI g, 2048, .inl (ai es)))] sz)) (va_A [(h, .inr (1, [.ref q, .int (iI (((n : Nat) : Int)))])), (q, .inl (zI g, 2048, .inl (ai es)))] sz)) 0 0 (va_A [(h, .inr (1, [.ref q, .int (iI (((n : Nat) : Int)))])), (q, .inl (zI g, 2048, .inl (ai es)))] sz) := by
  refine Met.ofW (cc := b_RG_empty) (maxL := 1) (ret := none) (by decide) rfl ?_
  intro p e s m args below meth cd s₁ B hml hv
  obtain ⟨hargs, hsz, hP, hK, hD0, hZ, hO0, hAp⟩ := hv
  have hx := B.exec
  have hb := B.bytes
  have hr := B.returns
  have ht : ∀ w ∈ lw_ok, w.before args s = true := fun w h => atoms_spec (ws := w_RG_empty) B.pre w (List.mem_cons_of_mem _ h)
  have hown : s.vm.findClass R_RG = some m.cls := findClass_of_methodNamed B.named
  have hlocks := B.notSynchronized
  subst hsz
  have hD := hD0.self (sz := s.heap.size)
  generalize hAe : va_A [(h, .inr (1, [.ref q, .int (iI (((n : Nat) : Int)))])), (q, .inl (zI g, 2048, .inl (ai es)))] s.heap.size = A at hD hZ hAp ⊢
  have hA : ∀ q : Nat, s.heap.size ≤ q → A q := fun q h => by rw [← hAe]; exact Or.inr h
  have hS : va_S A s.heap s.heap [] := va_S.rf
  generalize hQ : MQ below _ args s 0 0 _ = Q
  have hl := lv_entry ([.ref h]) (n := 1) (Nat.le_of_ble_eq_true rfl)
  rw [show entryFrame m args 1 = entryFrame m ([.ref h] : List Value).toArray 1 by rw [hargs], lg_entry_eq]
  generalize (lg_sl ([.ref h]) ++ List.replicate (1 - (lg_sl ([.ref h])).length) Slot.unset).toArray = ls at hl ⊢
  have hl : lv_has ls 1 [(0, .ref h)] := hl
  obtain ⟨H, locs, hHe, hLe⟩ : ∃ (H : Heap) (locs : List Loc), H = s.heap ∧ locs = [] := ⟨_, _, rfl, rfl⟩
  rw [show W p l e _ s m args below meth cd s.heap [] 0 0 Q = W p l e _ s m args below meth cd H locs 0 0 Q by rw [hHe, hLe]]
  rw [← hHe] at hP
  have hS : va_S A s.heap H locs := by rw [hHe, hLe]; exact hS
  refine lv_aload_n hx hb d_RG_empty_0 rfl (lv_at hl 0 rfl) ?_
  refine lv_iconst (v := iI 0) hx hb d_RG_empty_1 rfl ?_
  refine va_put (D := g.1) (ci := 1) (v := .int (iI 0)) (ty := .int) (C := R_RG) (T := F_RG) (N := 2) hx hb ht i_RG t_RG t_RG_ok n_RG hown hK hP hD hS 0 rfl rfl 1 (by decide) (ht _ k_94) (fun _ h9 => h9) rfl (by decide +kernel) rfl rfl (Nat.le_of_ble_eq_true rfl) d_RG_empty_2 (fun H locs hP hD hS => ?_)
  have hP : va_P g.1 classes [(h, .inr (1, [.ref q, .int (iI 0)])), (q, .inl (zI g, 2048, .inl (ai es)))] H := hP
  have hD : va_D A [(h, .inr (1, [.ref q, .int (iI 0)])), (q, .inl (zI g, 2048, .inl (ai es)))] := hD
  subst hQ
  exact W.vret hx hb hr (fun t h9 hW => ⟨⟨_, rfl, rfl, by rw [h9]; exact hP, va_K.moved hW.alike hK, hD⟩, hS.F h9⟩) hS.2.2 d_RG_empty_5
set_option maxHeartbeats 4000000 in
set_option maxRecDepth 100000 in
theorem c_RG_insert (l : Launch) (g : zG) (sz : Nat) (h q : Nat) (n : Nat) (es : Nat → Int) (low high : Int) (ha : asc es n) (hn : n ≤ 2048) (hbd : ∀ i, i < n → 0 ≤ es i ∧ es i ≤ 1114112) (hlo : 0 ≤ low) (hhi : high ≤ 1114111) (hlh : low ≤ high) (Bs : List Int) (hB : ∀ i, i < n → es i ∈ Bs) (hB1 : low ∈ Bs) (hB2 : high + 1 ∈ Bs) (hBl : Bs.length ≤ 2048) : Met l y_RG_insert w_RG_insert { frames := 1, cells := 0, slots := 0, locals := 24 } (zPw g [.ref h, .int (iI low), .int (iI high)] [(h, .inr (1, [.ref q, .int (iI (((n : Nat) : Int)))])), (q, .inl (zI g, 2048, .inl (ai es)))] [] sz) (va_Qv (fun w => ∃ (e2 : Nat → Int) (n2 : Nat), w = [(h, .inr (1, [.ref q, .int (iI (((n2 : Nat) : Int)))])), (q, .inl (zI g, 2048, .inl (ai e2)))] ∧ Ins es n low high e2 n2) (zB g (va_A [(h, .inr (1, [.ref q, .int (iI (((n : Nat) : Int)))])), (q, .inl (zI g, 2048, .inl (ai es)))] sz)) (va_A [(h, .inr (1, [.ref q, .int (iI (((n : Nat) : Int)))])), (q, .inl (zI g, 2048, .inl (ai es)))] sz)) 0 0 (va_A [(h, .inr (1, [.ref q, .int (iI (((n : Nat) : Int)))])), (q, .inl (zI g, 2048, .inl (ai es)))] sz) := by
  refine Met.ofW (cc := b_RG_insert) (maxL := 9) (ret := none) (by decide) rfl ?_
  intro p e s m args below meth cd s₁ B hml hv
  obtain ⟨hargs, hsz, hP, hK, hD0, hZ, hO0, hAp⟩ := hv
  have hx := B.exec
  have hb := B.bytes
  have hr := B.returns
  have ht : ∀ w ∈ lw_ok, w.before args s = true := fun w h => atoms_spec (ws := w_RG_insert) B.pre w (List.mem_cons_of_mem _ h)
  have hown : s.vm.findClass R_RG = some m.cls := findClass_of_methodNamed B.named
  have hlocks := B.notSynchronized
  subst hsz
  have hD := hD0.self (sz := s.heap.size)
  generalize hAe : va_A [(h, .inr (1, [.ref q, .int (iI (((n : Nat) : Int)))])), (q, .inl (zI g, 2048, .inl (ai es)))] s.heap.size = A at hD hZ hAp ⊢
  have hA : ∀ q : Nat, s.heap.size ≤ q → A q := fun q h => by rw [← hAe]; exact Or.inr h
  have hS : va_S A s.heap s.heap [] := va_S.rf
  generalize hQ : MQ below _ args s 0 0 _ = Q
  have hl := lv_entry ([.ref h, .int (iI low), .int (iI high)]) (n := 9) (Nat.le_of_ble_eq_true rfl)
  rw [show entryFrame m args 9 = entryFrame m ([.ref h, .int (iI low), .int (iI high)] : List Value).toArray 9 by rw [hargs], lg_entry_eq]
  generalize (lg_sl ([.ref h, .int (iI low), .int (iI high)]) ++ List.replicate (9 - (lg_sl ([.ref h, .int (iI low), .int (iI high)])).length) Slot.unset).toArray = ls at hl ⊢
  have hl : lv_has ls 9 [(0, .ref h), (1, .int (iI low)), (2, .int (iI high))] := hl
  obtain ⟨H, locs, hHe, hLe⟩ : ∃ (H : Heap) (locs : List Loc), H = s.heap ∧ locs = [] := ⟨_, _, rfl, rfl⟩
  rw [show W p l e _ s m args below meth cd s.heap [] 0 0 Q = W p l e _ s m args below meth cd H locs 0 0 Q by rw [hHe, hLe]]
  rw [← hHe] at hP
  have hS : va_S A s.heap H locs := by rw [hHe, hLe]; exact hS
  have J42 : ∀ (f t nl nh : Nat) (H : Heap) (locs : List Loc) (ls : Array Slot), lv_has ls 9 [(0, .ref h), (1, .int (iI low)), (2, .int (iI high)), (3, .int (iI (((f : Nat) : Int)))), (4, .int (iI (((t : Nat) : Int)))), (5, .int (iI (((nl : Nat) : Int))))] → (Up es n (low - 1) f) → (Up es n (high + 1) t) → (nl + f % 2 = 1) → (nh + t % 2 = 1) → va_P g.1 classes [(h, .inr (1, [.ref q, .int (iI (((n : Nat) : Int)))])), (q, .inl (zI g, 2048, .inl (ai es)))] H → va_D A [(h, .inr (1, [.ref q, .int (iI (((n : Nat) : Int)))])), (q, .inl (zI g, 2048, .inl (ai es)))] → va_S A s.heap H locs → W p l e (headSpec w_RG_insert { frames := 1, cells := 0, slots := 0, locals := 24 }).room s m args below meth cd H locs 0 0 Q (F0 m 42 ls [.int (iI (((nh : Nat) : Int)))]) := by
    intro f t nl nh H locs ls hl hf htt hnl hnh hP hD hS
    have hf1 := hf.1
    have ht1 := htt.1
    have hft := Up_mono hf htt (by omega)
    refine lv_istore (lv' := [(6, .int (iI (((nh : Nat) : Int)))), (0, .ref h), (1, .int (iI low)), (2, .int (iI high)), (3, .int (iI (((f : Nat) : Int)))), (4, .int (iI (((t : Nat) : Int)))), (5, .int (iI (((nl : Nat) : Int))))]) hx hb d_RG_insert_42 hl (by decide) rfl (fun ls hl => ?_)
    refine lv_iload_n hx hb d_RG_insert_44 rfl (lv_at hl 4 rfl) ?_
    refine lv_iload hx hb d_RG_insert_45 (lv_at hl 6 rfl) ?_
    refine ix_if_eq (tgt := 54) hx hb d_RG_insert_47 (by decide) (by omega) (fun c_47 => ?_) (fun c_47 => ?_)
    · obtain rfl : nl = 0 := by omega
      refine lv_iconst (v := iI 0) hx hb d_RG_insert_54 rfl ?_
      refine ix_iadd hx hb d_RG_insert_55 ?_
      refine lv_iload hx hb d_RG_insert_56 (lv_at hl 0 rfl) ?_
      refine ix_if_eq (tgt := 65) hx hb d_RG_insert_58 (by decide) (by omega) (fun c_58 => ?_) (fun c_58 => ?_)
      · obtain rfl : nh = 0 := by omega
        refine lv_iconst (v := iI 0) hx hb d_RG_insert_65 rfl ?_
        refine ix_iadd hx hb d_RG_insert_66 ?_
        refine lv_istore (lv' := [(7, .int (iI (((((f : Nat) : Int)) + 0) + 0))), (6, .int (iI 0)), (0, .ref h), (1, .int (iI low)), (2, .int (iI high)), (3, .int (iI (((f : Nat) : Int)))), (4, .int (iI (((t : Nat) : Int)))), (5, .int (iI 0))]) hx hb d_RG_insert_67 hl (by decide) rfl (fun ls hl => ?_)
        refine lv_iload hx hb d_RG_insert_69 (lv_at hl 0 rfl) ?_
        refine lv_aload_n hx hb d_RG_insert_71 rfl (lv_at hl 2 rfl) ?_
        refine va_get (D := g.1) (ci := 1) (v := .int (iI (((n : Nat) : Int)))) (C := R_RG) (T := F_RG) (N := 2) hx hb ht i_RG hown hK hP 0 rfl rfl 1 (by decide) (ht _ k_94) (fun _ h9 => h9) rfl d_RG_insert_72 ?_
        refine ix_iadd hx hb d_RG_insert_75 ?_
        refine lv_iload hx hb d_RG_insert_76 (lv_at hl 6 rfl) ?_
        refine ix_isub hx hb d_RG_insert_78 ?_
        refine lv_istore (lv' := [(8, .int (iI (((((((f : Nat) : Int)) + 0) + 0) + (((n : Nat) : Int))) - (((t : Nat) : Int))))), (7, .int (iI (((((f : Nat) : Int)) + 0) + 0))), (6, .int (iI 0)), (0, .ref h), (1, .int (iI low)), (2, .int (iI high)), (3, .int (iI (((f : Nat) : Int)))), (4, .int (iI (((t : Nat) : Int)))), (5, .int (iI 0))]) hx hb d_RG_insert_79 hl (by decide) rfl (fun ls hl => ?_)
        refine lv_iload hx hb d_RG_insert_81 (lv_at hl 0 rfl) ?_
        refine lv_aload_n hx hb d_RG_insert_83 rfl (lv_at hl 3 rfl) ?_
        refine va_get (D := g.1) (ci := 1) (v := .ref q) (C := R_RG) (T := F_RG) (N := 2) hx hb ht i_RG hown hK hP 0 rfl rfl 0 (by decide) (ht _ k_93) (fun _ h9 => h9) rfl d_RG_insert_84 ?_
        refine ix_alen hx hb hK hP 1 0 rfl rfl 2048 rfl d_RG_insert_87 ?_
        refine ix_icmp_le (tgt := 92) hx hb d_RG_insert_88 (by decide) (by omega) (fun c_88 => ?_) (fun c_88 => ?_)
        · refine lv_aload_n hx hb d_RG_insert_92 rfl (lv_at hl 3 rfl) ?_
          refine va_get (D := g.1) (ci := 1) (v := .ref q) (C := R_RG) (T := F_RG) (N := 2) hx hb ht i_RG hown hK hP 0 rfl rfl 0 (by decide) (ht _ k_93) (fun _ h9 => h9) rfl d_RG_insert_93 ?_
          refine lv_iload hx hb d_RG_insert_96 (lv_at hl 7 rfl) ?_
          refine lv_aload_n hx hb d_RG_insert_98 rfl (lv_at hl 3 rfl) ?_
          refine va_get (D := g.1) (ci := 1) (v := .ref q) (C := R_RG) (T := F_RG) (N := 2) hx hb ht i_RG hown hK hP 0 rfl rfl 0 (by decide) (ht _ k_93) (fun _ h9 => h9) rfl d_RG_insert_99 ?_
          refine lv_iload hx hb d_RG_insert_102 (lv_at hl 1 rfl) ?_
          refine lv_aload_n hx hb d_RG_insert_104 rfl (lv_at hl 3 rfl) ?_
          refine va_get (D := g.1) (ci := 1) (v := .int (iI (((n : Nat) : Int)))) (C := R_RG) (T := F_RG) (N := 2) hx hb ht i_RG hown hK hP 0 rfl rfl 1 (by decide) (ht _ k_94) (fun _ h9 => h9) rfl d_RG_insert_105 ?_
          refine lv_iload hx hb d_RG_insert_108 (lv_at hl 7 rfl) ?_
          refine ix_isub hx hb d_RG_insert_110 ?_
          refine ix_copyi hx hb (by rw [hml]; exact hl.1.symm) hown (ht _ k_147) (ht _ k_149) (ht _ k_148) (ht _ k_6) hK hP hD hS 1 0 rfl rfl t ((f + 0) + 0) (n - t) (by omega) (Nat.le_of_ble_eq_true rfl) (Nat.le_of_ble_eq_true rfl) d_RG_insert_111 (fun H locs hP hD hS => ?_)
          have hP : va_P g.1 classes [(h, .inr (1, [.ref q, .int (iI (((n : Nat) : Int)))])), (q, .inl (zI g, 2048, .inl (ai (va_cpy es es t ((f + 0) + 0) (n - t)))))] H := hP
          have hD : va_D A [(h, .inr (1, [.ref q, .int (iI (((n : Nat) : Int)))])), (q, .inl (zI g, 2048, .inl (ai (va_cpy es es t ((f + 0) + 0) (n - t)))))] := hD
          refine lv_iload hx hb d_RG_insert_114 (lv_at hl 8 rfl) ?_
          refine ix_if_eq (tgt := 126) hx hb d_RG_insert_116 (by decide) (by omega) (fun c_116 => ?_) (fun c_116 => ?_)
          · refine lv_iload hx hb d_RG_insert_126 (lv_at hl 2 rfl) ?_
            refine ix_if_eq (tgt := 143) hx hb d_RG_insert_128 (by decide) (by omega) (fun c_128 => ?_) (fun c_128 => ?_)
            · refine lv_aload_n hx hb d_RG_insert_143 rfl (lv_at hl 3 rfl) ?_
              refine lv_iload hx hb d_RG_insert_144 (lv_at hl 0 rfl) ?_
              refine va_put (D := g.1) (ci := 1) (v := .int (iI (((((((f : Nat) : Int)) + 0) + 0) + (((n : Nat) : Int))) - (((t : Nat) : Int))))) (ty := .int) (C := R_RG) (T := F_RG) (N := 2) hx hb ht i_RG t_RG t_RG_ok n_RG hown hK hP hD hS 0 rfl rfl 1 (by decide) (ht _ k_94) (fun _ h9 => h9) rfl (by decide +kernel) rfl rfl (Nat.le_of_ble_eq_true rfl) d_RG_insert_146 (fun H locs hP hD hS => ?_)
              have hP : va_P g.1 classes [(h, .inr (1, [.ref q, .int (iI (((((((f : Nat) : Int)) + 0) + 0) + (((n : Nat) : Int))) - (((t : Nat) : Int))))])), (q, .inl (zI g, 2048, .inl (ai (va_cpy es es t ((f + 0) + 0) (n - t)))))] H := hP
              have hD : va_D A [(h, .inr (1, [.ref q, .int (iI (((((((f : Nat) : Int)) + 0) + 0) + (((n : Nat) : Int))) - (((t : Nat) : Int))))])), (q, .inl (zI g, 2048, .inl (ai (va_cpy es es t ((f + 0) + 0) (n - t)))))] := hD
              rw [show ((((((f : Nat) : Int)) + 0) + 0) + (((n : Nat) : Int))) - (((t : Nat) : Int)) = ((f + 0 + 0 + (n - t) : Nat) : Int) by omega] at hP hD
              subst hQ
              exact W.vret hx hb hr (fun t h9 hW => ⟨⟨_, rfl, ⟨_, _, rfl, Ins_of ha hf htt (by omega) hnl hnh⟩, by rw [h9]; exact hP, va_K.moved hW.alike hK, hD⟩, hS.F h9⟩) hS.2.2 d_RG_insert_149
            · exact absurd c_128 (by decide)
          · exact absurd c_116 (by decide)
        · exact absurd c_88 (by have q9 := Ins_len (Ins_of ha hf htt (by omega) hnl hnh) Bs hB hB1 hB2; omega)
      · obtain rfl : nh = 1 := by omega
        refine lv_iconst (v := iI 1) hx hb d_RG_insert_61 rfl ?_
        refine lv_goto (tgt := 66) hx hb d_RG_insert_62 (by decide) ?_
        refine ix_iadd hx hb d_RG_insert_66 ?_
        refine lv_istore (lv' := [(7, .int (iI (((((f : Nat) : Int)) + 0) + 1))), (6, .int (iI 1)), (0, .ref h), (1, .int (iI low)), (2, .int (iI high)), (3, .int (iI (((f : Nat) : Int)))), (4, .int (iI (((t : Nat) : Int)))), (5, .int (iI 0))]) hx hb d_RG_insert_67 hl (by decide) rfl (fun ls hl => ?_)
        refine lv_iload hx hb d_RG_insert_69 (lv_at hl 0 rfl) ?_
        refine lv_aload_n hx hb d_RG_insert_71 rfl (lv_at hl 2 rfl) ?_
        refine va_get (D := g.1) (ci := 1) (v := .int (iI (((n : Nat) : Int)))) (C := R_RG) (T := F_RG) (N := 2) hx hb ht i_RG hown hK hP 0 rfl rfl 1 (by decide) (ht _ k_94) (fun _ h9 => h9) rfl d_RG_insert_72 ?_
        refine ix_iadd hx hb d_RG_insert_75 ?_
        refine lv_iload hx hb d_RG_insert_76 (lv_at hl 6 rfl) ?_
        refine ix_isub hx hb d_RG_insert_78 ?_
        refine lv_istore (lv' := [(8, .int (iI (((((((f : Nat) : Int)) + 0) + 1) + (((n : Nat) : Int))) - (((t : Nat) : Int))))), (7, .int (iI (((((f : Nat) : Int)) + 0) + 1))), (6, .int (iI 1)), (0, .ref h), (1, .int (iI low)), (2, .int (iI high)), (3, .int (iI (((f : Nat) : Int)))), (4, .int (iI (((t : Nat) : Int)))), (5, .int (iI 0))]) hx hb d_RG_insert_79 hl (by decide) rfl (fun ls hl => ?_)
        refine lv_iload hx hb d_RG_insert_81 (lv_at hl 0 rfl) ?_
        refine lv_aload_n hx hb d_RG_insert_83 rfl (lv_at hl 3 rfl) ?_
        refine va_get (D := g.1) (ci := 1) (v := .ref q) (C := R_RG) (T := F_RG) (N := 2) hx hb ht i_RG hown hK hP 0 rfl rfl 0 (by decide) (ht _ k_93) (fun _ h9 => h9) rfl d_RG_insert_84 ?_
        refine ix_alen hx hb hK hP 1 0 rfl rfl 2048 rfl d_RG_insert_87 ?_
        refine ix_icmp_le (tgt := 92) hx hb d_RG_insert_88 (by decide) (by omega) (fun c_88 => ?_) (fun c_88 => ?_)
        · refine lv_aload_n hx hb d_RG_insert_92 rfl (lv_at hl 3 rfl) ?_
          refine va_get (D := g.1) (ci := 1) (v := .ref q) (C := R_RG) (T := F_RG) (N := 2) hx hb ht i_RG hown hK hP 0 rfl rfl 0 (by decide) (ht _ k_93) (fun _ h9 => h9) rfl d_RG_insert_93 ?_
          refine lv_iload hx hb d_RG_insert_96 (lv_at hl 7 rfl) ?_
          refine lv_aload_n hx hb d_RG_insert_98 rfl (lv_at hl 3 rfl) ?_
          refine va_get (D := g.1) (ci := 1) (v := .ref q) (C := R_RG) (T := F_RG) (N := 2) hx hb ht i_RG hown hK hP 0 rfl rfl 0 (by decide) (ht _ k_93) (fun _ h9 => h9) rfl d_RG_insert_99 ?_
          refine lv_iload hx hb d_RG_insert_102 (lv_at hl 1 rfl) ?_
          refine lv_aload_n hx hb d_RG_insert_104 rfl (lv_at hl 3 rfl) ?_
          refine va_get (D := g.1) (ci := 1) (v := .int (iI (((n : Nat) : Int)))) (C := R_RG) (T := F_RG) (N := 2) hx hb ht i_RG hown hK hP 0 rfl rfl 1 (by decide) (ht _ k_94) (fun _ h9 => h9) rfl d_RG_insert_105 ?_
          refine lv_iload hx hb d_RG_insert_108 (lv_at hl 7 rfl) ?_
          refine ix_isub hx hb d_RG_insert_110 ?_
          refine ix_copyi hx hb (by rw [hml]; exact hl.1.symm) hown (ht _ k_147) (ht _ k_149) (ht _ k_148) (ht _ k_6) hK hP hD hS 1 0 rfl rfl t ((f + 0) + 1) (n - t) (by omega) (Nat.le_of_ble_eq_true rfl) (Nat.le_of_ble_eq_true rfl) d_RG_insert_111 (fun H locs hP hD hS => ?_)
          have hP : va_P g.1 classes [(h, .inr (1, [.ref q, .int (iI (((n : Nat) : Int)))])), (q, .inl (zI g, 2048, .inl (ai (va_cpy es es t ((f + 0) + 1) (n - t)))))] H := hP
          have hD : va_D A [(h, .inr (1, [.ref q, .int (iI (((n : Nat) : Int)))])), (q, .inl (zI g, 2048, .inl (ai (va_cpy es es t ((f + 0) + 1) (n - t)))))] := hD
          refine lv_iload hx hb d_RG_insert_114 (lv_at hl 8 rfl) ?_
          refine ix_if_eq (tgt := 126) hx hb d_RG_insert_116 (by decide) (by omega) (fun c_116 => ?_) (fun c_116 => ?_)
          · refine lv_iload hx hb d_RG_insert_126 (lv_at hl 2 rfl) ?_
            refine ix_if_eq (tgt := 143) hx hb d_RG_insert_128 (by decide) (by omega) (fun c_128 => ?_) (fun c_128 => ?_)
            · exact absurd c_128 (by decide)
            · refine lv_aload_n hx hb d_RG_insert_131 rfl (lv_at hl 3 rfl) ?_
              refine va_get (D := g.1) (ci := 1) (v := .ref q) (C := R_RG) (T := F_RG) (N := 2) hx hb ht i_RG hown hK hP 0 rfl rfl 0 (by decide) (ht _ k_93) (fun _ h9 => h9) rfl d_RG_insert_132 ?_
              refine lv_iload hx hb d_RG_insert_135 (lv_at hl 1 rfl) ?_
              refine lv_iconst (v := iI 1) hx hb d_RG_insert_137 rfl ?_
              refine ix_isub hx hb d_RG_insert_138 ?_
              refine lv_iload_n hx hb d_RG_insert_139 rfl (lv_at hl 5 rfl) ?_
              refine lv_iconst (v := iI 1) hx hb d_RG_insert_140 rfl ?_
              refine ix_iadd hx hb d_RG_insert_141 ?_
              refine ix_iast hx hb hK hP hD hS 1 0 rfl rfl (i := ((((((f : Nat) : Int)) + 0) + 1) - 1)) (((f + 0) + 1) - 1) (by omega) d_RG_insert_142 (fun H locs hP hD hS => ?_)
              have hP : va_P g.1 classes [(h, .inr (1, [.ref q, .int (iI (((n : Nat) : Int)))])), (q, .inl (zI g, 2048, .inl (ai (va_up (va_cpy es es t ((f + 0) + 1) (n - t)) (((f + 0) + 1) - 1) (high + 1)))))] H := hP
              have hD : va_D A [(h, .inr (1, [.ref q, .int (iI (((n : Nat) : Int)))])), (q, .inl (zI g, 2048, .inl (ai (va_up (va_cpy es es t ((f + 0) + 1) (n - t)) (((f + 0) + 1) - 1) (high + 1)))))] := hD
              refine lv_aload_n hx hb d_RG_insert_143 rfl (lv_at hl 3 rfl) ?_
              refine lv_iload hx hb d_RG_insert_144 (lv_at hl 0 rfl) ?_
              refine va_put (D := g.1) (ci := 1) (v := .int (iI (((((((f : Nat) : Int)) + 0) + 1) + (((n : Nat) : Int))) - (((t : Nat) : Int))))) (ty := .int) (C := R_RG) (T := F_RG) (N := 2) hx hb ht i_RG t_RG t_RG_ok n_RG hown hK hP hD hS 0 rfl rfl 1 (by decide) (ht _ k_94) (fun _ h9 => h9) rfl (by decide +kernel) rfl rfl (Nat.le_of_ble_eq_true rfl) d_RG_insert_146 (fun H locs hP hD hS => ?_)
              have hP : va_P g.1 classes [(h, .inr (1, [.ref q, .int (iI (((((((f : Nat) : Int)) + 0) + 1) + (((n : Nat) : Int))) - (((t : Nat) : Int))))])), (q, .inl (zI g, 2048, .inl (ai (va_up (va_cpy es es t ((f + 0) + 1) (n - t)) (((f + 0) + 1) - 1) (high + 1)))))] H := hP
              have hD : va_D A [(h, .inr (1, [.ref q, .int (iI (((((((f : Nat) : Int)) + 0) + 1) + (((n : Nat) : Int))) - (((t : Nat) : Int))))])), (q, .inl (zI g, 2048, .inl (ai (va_up (va_cpy es es t ((f + 0) + 1) (n - t)) (((f + 0) + 1) - 1) (high + 1)))))] := hD
              rw [show ((((((f : Nat) : Int)) + 0) + 1) + (((n : Nat) : Int))) - (((t : Nat) : Int)) = ((f + 0 + 1 + (n - t) : Nat) : Int) by omega] at hP hD
              subst hQ
              exact W.vret hx hb hr (fun t h9 hW => ⟨⟨_, rfl, ⟨_, _, rfl, Ins_of ha hf htt (by omega) hnl hnh⟩, by rw [h9]; exact hP, va_K.moved hW.alike hK, hD⟩, hS.F h9⟩) hS.2.2 d_RG_insert_149
          · exact absurd c_116 (by decide)
        · exact absurd c_88 (by have q9 := Ins_len (Ins_of ha hf htt (by omega) hnl hnh) Bs hB hB1 hB2; omega)
    · obtain rfl : nl = 1 := by omega
      refine lv_iconst (v := iI 1) hx hb d_RG_insert_50 rfl ?_
      refine lv_goto (tgt := 55) hx hb d_RG_insert_51 (by decide) ?_
      refine ix_iadd hx hb d_RG_insert_55 ?_
      refine lv_iload hx hb d_RG_insert_56 (lv_at hl 0 rfl) ?_
      refine ix_if_eq (tgt := 65) hx hb d_RG_insert_58 (by decide) (by omega) (fun c_58 => ?_) (fun c_58 => ?_)
      · obtain rfl : nh = 0 := by omega
        refine lv_iconst (v := iI 0) hx hb d_RG_insert_65 rfl ?_
        refine ix_iadd hx hb d_RG_insert_66 ?_
        refine lv_istore (lv' := [(7, .int (iI (((((f : Nat) : Int)) + 1) + 0))), (6, .int (iI 0)), (0, .ref h), (1, .int (iI low)), (2, .int (iI high)), (3, .int (iI (((f : Nat) : Int)))), (4, .int (iI (((t : Nat) : Int)))), (5, .int (iI 1))]) hx hb d_RG_insert_67 hl (by decide) rfl (fun ls hl => ?_)
        refine lv_iload hx hb d_RG_insert_69 (lv_at hl 0 rfl) ?_
        refine lv_aload_n hx hb d_RG_insert_71 rfl (lv_at hl 2 rfl) ?_
        refine va_get (D := g.1) (ci := 1) (v := .int (iI (((n : Nat) : Int)))) (C := R_RG) (T := F_RG) (N := 2) hx hb ht i_RG hown hK hP 0 rfl rfl 1 (by decide) (ht _ k_94) (fun _ h9 => h9) rfl d_RG_insert_72 ?_
        refine ix_iadd hx hb d_RG_insert_75 ?_
        refine lv_iload hx hb d_RG_insert_76 (lv_at hl 6 rfl) ?_
        refine ix_isub hx hb d_RG_insert_78 ?_
        refine lv_istore (lv' := [(8, .int (iI (((((((f : Nat) : Int)) + 1) + 0) + (((n : Nat) : Int))) - (((t : Nat) : Int))))), (7, .int (iI (((((f : Nat) : Int)) + 1) + 0))), (6, .int (iI 0)), (0, .ref h), (1, .int (iI low)), (2, .int (iI high)), (3, .int (iI (((f : Nat) : Int)))), (4, .int (iI (((t : Nat) : Int)))), (5, .int (iI 1))]) hx hb d_RG_insert_79 hl (by decide) rfl (fun ls hl => ?_)
        refine lv_iload hx hb d_RG_insert_81 (lv_at hl 0 rfl) ?_
        refine lv_aload_n hx hb d_RG_insert_83 rfl (lv_at hl 3 rfl) ?_
        refine va_get (D := g.1) (ci := 1) (v := .ref q) (C := R_RG) (T := F_RG) (N := 2) hx hb ht i_RG hown hK hP 0 rfl rfl 0 (by decide) (ht _ k_93) (fun _ h9 => h9) rfl d_RG_insert_84 ?_
        refine ix_alen hx hb hK hP 1 0 rfl rfl 2048 rfl d_RG_insert_87 ?_
        refine ix_icmp_le (tgt := 92) hx hb d_RG_insert_88 (by decide) (by omega) (fun c_88 => ?_) (fun c_88 => ?_)
        · refine lv_aload_n hx hb d_RG_insert_92 rfl (lv_at hl 3 rfl) ?_
          refine va_get (D := g.1) (ci := 1) (v := .ref q) (C := R_RG) (T := F_RG) (N := 2) hx hb ht i_RG hown hK hP 0 rfl rfl 0 (by decide) (ht _ k_93) (fun _ h9 => h9) rfl d_RG_insert_93 ?_
          refine lv_iload hx hb d_RG_insert_96 (lv_at hl 7 rfl) ?_
          refine lv_aload_n hx hb d_RG_insert_98 rfl (lv_at hl 3 rfl) ?_
          refine va_get (D := g.1) (ci := 1) (v := .ref q) (C := R_RG) (T := F_RG) (N := 2) hx hb ht i_RG hown hK hP 0 rfl rfl 0 (by decide) (ht _ k_93) (fun _ h9 => h9) rfl d_RG_insert_99 ?_
          refine lv_iload hx hb d_RG_insert_102 (lv_at hl 1 rfl) ?_
          refine lv_aload_n hx hb d_RG_insert_104 rfl (lv_at hl 3 rfl) ?_
          refine va_get (D := g.1) (ci := 1) (v := .int (iI (((n : Nat) : Int)))) (C := R_RG) (T := F_RG) (N := 2) hx hb ht i_RG hown hK hP 0 rfl rfl 1 (by decide) (ht _ k_94) (fun _ h9 => h9) rfl d_RG_insert_105 ?_
          refine lv_iload hx hb d_RG_insert_108 (lv_at hl 7 rfl) ?_
          refine ix_isub hx hb d_RG_insert_110 ?_
          refine ix_copyi hx hb (by rw [hml]; exact hl.1.symm) hown (ht _ k_147) (ht _ k_149) (ht _ k_148) (ht _ k_6) hK hP hD hS 1 0 rfl rfl t ((f + 1) + 0) (n - t) (by omega) (Nat.le_of_ble_eq_true rfl) (Nat.le_of_ble_eq_true rfl) d_RG_insert_111 (fun H locs hP hD hS => ?_)
          have hP : va_P g.1 classes [(h, .inr (1, [.ref q, .int (iI (((n : Nat) : Int)))])), (q, .inl (zI g, 2048, .inl (ai (va_cpy es es t ((f + 1) + 0) (n - t)))))] H := hP
          have hD : va_D A [(h, .inr (1, [.ref q, .int (iI (((n : Nat) : Int)))])), (q, .inl (zI g, 2048, .inl (ai (va_cpy es es t ((f + 1) + 0) (n - t)))))] := hD
          refine lv_iload hx hb d_RG_insert_114 (lv_at hl 8 rfl) ?_
          refine ix_if_eq (tgt := 126) hx hb d_RG_insert_116 (by decide) (by omega) (fun c_116 => ?_) (fun c_116 => ?_)
          · exact absurd c_116 (by decide)
          · refine lv_aload_n hx hb d_RG_insert_119 rfl (lv_at hl 3 rfl) ?_
            refine va_get (D := g.1) (ci := 1) (v := .ref q) (C := R_RG) (T := F_RG) (N := 2) hx hb ht i_RG hown hK hP 0 rfl rfl 0 (by decide) (ht _ k_93) (fun _ h9 => h9) rfl d_RG_insert_120 ?_
            refine lv_iload_n hx hb d_RG_insert_123 rfl (lv_at hl 6 rfl) ?_
            refine lv_iload_n hx hb d_RG_insert_124 rfl (lv_at hl 4 rfl) ?_
            refine ix_iast hx hb hK hP hD hS 1 0 rfl rfl (i := (((f : Nat) : Int))) f (by omega) d_RG_insert_125 (fun H locs hP hD hS => ?_)
            have hP : va_P g.1 classes [(h, .inr (1, [.ref q, .int (iI (((n : Nat) : Int)))])), (q, .inl (zI g, 2048, .inl (ai (va_up (va_cpy es es t ((f + 1) + 0) (n - t)) f low))))] H := hP
            have hD : va_D A [(h, .inr (1, [.ref q, .int (iI (((n : Nat) : Int)))])), (q, .inl (zI g, 2048, .inl (ai (va_up (va_cpy es es t ((f + 1) + 0) (n - t)) f low))))] := hD
            refine lv_iload hx hb d_RG_insert_126 (lv_at hl 2 rfl) ?_
            refine ix_if_eq (tgt := 143) hx hb d_RG_insert_128 (by decide) (by omega) (fun c_128 => ?_) (fun c_128 => ?_)
            · refine lv_aload_n hx hb d_RG_insert_143 rfl (lv_at hl 3 rfl) ?_
              refine lv_iload hx hb d_RG_insert_144 (lv_at hl 0 rfl) ?_
              refine va_put (D := g.1) (ci := 1) (v := .int (iI (((((((f : Nat) : Int)) + 1) + 0) + (((n : Nat) : Int))) - (((t : Nat) : Int))))) (ty := .int) (C := R_RG) (T := F_RG) (N := 2) hx hb ht i_RG t_RG t_RG_ok n_RG hown hK hP hD hS 0 rfl rfl 1 (by decide) (ht _ k_94) (fun _ h9 => h9) rfl (by decide +kernel) rfl rfl (Nat.le_of_ble_eq_true rfl) d_RG_insert_146 (fun H locs hP hD hS => ?_)
              have hP : va_P g.1 classes [(h, .inr (1, [.ref q, .int (iI (((((((f : Nat) : Int)) + 1) + 0) + (((n : Nat) : Int))) - (((t : Nat) : Int))))])), (q, .inl (zI g, 2048, .inl (ai (va_up (va_cpy es es t ((f + 1) + 0) (n - t)) f low))))] H := hP
              have hD : va_D A [(h, .inr (1, [.ref q, .int (iI (((((((f : Nat) : Int)) + 1) + 0) + (((n : Nat) : Int))) - (((t : Nat) : Int))))])), (q, .inl (zI g, 2048, .inl (ai (va_up (va_cpy es es t ((f + 1) + 0) (n - t)) f low))))] := hD
              rw [show ((((((f : Nat) : Int)) + 1) + 0) + (((n : Nat) : Int))) - (((t : Nat) : Int)) = ((f + 1 + 0 + (n - t) : Nat) : Int) by omega] at hP hD
              subst hQ
              exact W.vret hx hb hr (fun t h9 hW => ⟨⟨_, rfl, ⟨_, _, rfl, Ins_of ha hf htt (by omega) hnl hnh⟩, by rw [h9]; exact hP, va_K.moved hW.alike hK, hD⟩, hS.F h9⟩) hS.2.2 d_RG_insert_149
            · exact absurd c_128 (by decide)
        · exact absurd c_88 (by have q9 := Ins_len (Ins_of ha hf htt (by omega) hnl hnh) Bs hB hB1 hB2; omega)
      · obtain rfl : nh = 1 := by omega
        refine lv_iconst (v := iI 1) hx hb d_RG_insert_61 rfl ?_
        refine lv_goto (tgt := 66) hx hb d_RG_insert_62 (by decide) ?_
        refine ix_iadd hx hb d_RG_insert_66 ?_
        refine lv_istore (lv' := [(7, .int (iI (((((f : Nat) : Int)) + 1) + 1))), (6, .int (iI 1)), (0, .ref h), (1, .int (iI low)), (2, .int (iI high)), (3, .int (iI (((f : Nat) : Int)))), (4, .int (iI (((t : Nat) : Int)))), (5, .int (iI 1))]) hx hb d_RG_insert_67 hl (by decide) rfl (fun ls hl => ?_)
        refine lv_iload hx hb d_RG_insert_69 (lv_at hl 0 rfl) ?_
        refine lv_aload_n hx hb d_RG_insert_71 rfl (lv_at hl 2 rfl) ?_
        refine va_get (D := g.1) (ci := 1) (v := .int (iI (((n : Nat) : Int)))) (C := R_RG) (T := F_RG) (N := 2) hx hb ht i_RG hown hK hP 0 rfl rfl 1 (by decide) (ht _ k_94) (fun _ h9 => h9) rfl d_RG_insert_72 ?_
        refine ix_iadd hx hb d_RG_insert_75 ?_
        refine lv_iload hx hb d_RG_insert_76 (lv_at hl 6 rfl) ?_
        refine ix_isub hx hb d_RG_insert_78 ?_
        refine lv_istore (lv' := [(8, .int (iI (((((((f : Nat) : Int)) + 1) + 1) + (((n : Nat) : Int))) - (((t : Nat) : Int))))), (7, .int (iI (((((f : Nat) : Int)) + 1) + 1))), (6, .int (iI 1)), (0, .ref h), (1, .int (iI low)), (2, .int (iI high)), (3, .int (iI (((f : Nat) : Int)))), (4, .int (iI (((t : Nat) : Int)))), (5, .int (iI 1))]) hx hb d_RG_insert_79 hl (by decide) rfl (fun ls hl => ?_)
        refine lv_iload hx hb d_RG_insert_81 (lv_at hl 0 rfl) ?_
        refine lv_aload_n hx hb d_RG_insert_83 rfl (lv_at hl 3 rfl) ?_
        refine va_get (D := g.1) (ci := 1) (v := .ref q) (C := R_RG) (T := F_RG) (N := 2) hx hb ht i_RG hown hK hP 0 rfl rfl 0 (by decide) (ht _ k_93) (fun _ h9 => h9) rfl d_RG_insert_84 ?_
        refine ix_alen hx hb hK hP 1 0 rfl rfl 2048 rfl d_RG_insert_87 ?_
        refine ix_icmp_le (tgt := 92) hx hb d_RG_insert_88 (by decide) (by omega) (fun c_88 => ?_) (fun c_88 => ?_)
        · refine lv_aload_n hx hb d_RG_insert_92 rfl (lv_at hl 3 rfl) ?_
          refine va_get (D := g.1) (ci := 1) (v := .ref q) (C := R_RG) (T := F_RG) (N := 2) hx hb ht i_RG hown hK hP 0 rfl rfl 0 (by decide) (ht _ k_93) (fun _ h9 => h9) rfl d_RG_insert_93 ?_
          refine lv_iload hx hb d_RG_insert_96 (lv_at hl 7 rfl) ?_
          refine lv_aload_n hx hb d_RG_insert_98 rfl (lv_at hl 3 rfl) ?_
          refine va_get (D := g.1) (ci := 1) (v := .ref q) (C := R_RG) (T := F_RG) (N := 2) hx hb ht i_RG hown hK hP 0 rfl rfl 0 (by decide) (ht _ k_93) (fun _ h9 => h9) rfl d_RG_insert_99 ?_
          refine lv_iload hx hb d_RG_insert_102 (lv_at hl 1 rfl) ?_
          refine lv_aload_n hx hb d_RG_insert_104 rfl (lv_at hl 3 rfl) ?_
          refine va_get (D := g.1) (ci := 1) (v := .int (iI (((n : Nat) : Int)))) (C := R_RG) (T := F_RG) (N := 2) hx hb ht i_RG hown hK hP 0 rfl rfl 1 (by decide) (ht _ k_94) (fun _ h9 => h9) rfl d_RG_insert_105 ?_
          refine lv_iload hx hb d_RG_insert_108 (lv_at hl 7 rfl) ?_
          refine ix_isub hx hb d_RG_insert_110 ?_
          refine ix_copyi hx hb (by rw [hml]; exact hl.1.symm) hown (ht _ k_147) (ht _ k_149) (ht _ k_148) (ht _ k_6) hK hP hD hS 1 0 rfl rfl t ((f + 1) + 1) (n - t) (by omega) (Nat.le_of_ble_eq_true rfl) (Nat.le_of_ble_eq_true rfl) d_RG_insert_111 (fun H locs hP hD hS => ?_)
          have hP : va_P g.1 classes [(h, .inr (1, [.ref q, .int (iI (((n : Nat) : Int)))])), (q, .inl (zI g, 2048, .inl (ai (va_cpy es es t ((f + 1) + 1) (n - t)))))] H := hP
          have hD : va_D A [(h, .inr (1, [.ref q, .int (iI (((n : Nat) : Int)))])), (q, .inl (zI g, 2048, .inl (ai (va_cpy es es t ((f + 1) + 1) (n - t)))))] := hD
          refine lv_iload hx hb d_RG_insert_114 (lv_at hl 8 rfl) ?_
          refine ix_if_eq (tgt := 126) hx hb d_RG_insert_116 (by decide) (by omega) (fun c_116 => ?_) (fun c_116 => ?_)
          · exact absurd c_116 (by decide)
          · refine lv_aload_n hx hb d_RG_insert_119 rfl (lv_at hl 3 rfl) ?_
            refine va_get (D := g.1) (ci := 1) (v := .ref q) (C := R_RG) (T := F_RG) (N := 2) hx hb ht i_RG hown hK hP 0 rfl rfl 0 (by decide) (ht _ k_93) (fun _ h9 => h9) rfl d_RG_insert_120 ?_
            refine lv_iload_n hx hb d_RG_insert_123 rfl (lv_at hl 6 rfl) ?_
            refine lv_iload_n hx hb d_RG_insert_124 rfl (lv_at hl 4 rfl) ?_
            refine ix_iast hx hb hK hP hD hS 1 0 rfl rfl (i := (((f : Nat) : Int))) f (by omega) d_RG_insert_125 (fun H locs hP hD hS => ?_)
            have hP : va_P g.1 classes [(h, .inr (1, [.ref q, .int (iI (((n : Nat) : Int)))])), (q, .inl (zI g, 2048, .inl (ai (va_up (va_cpy es es t ((f + 1) + 1) (n - t)) f low))))] H := hP
            have hD : va_D A [(h, .inr (1, [.ref q, .int (iI (((n : Nat) : Int)))])), (q, .inl (zI g, 2048, .inl (ai (va_up (va_cpy es es t ((f + 1) + 1) (n - t)) f low))))] := hD
            refine lv_iload hx hb d_RG_insert_126 (lv_at hl 2 rfl) ?_
            refine ix_if_eq (tgt := 143) hx hb d_RG_insert_128 (by decide) (by omega) (fun c_128 => ?_) (fun c_128 => ?_)
            · exact absurd c_128 (by decide)
            · refine lv_aload_n hx hb d_RG_insert_131 rfl (lv_at hl 3 rfl) ?_
              refine va_get (D := g.1) (ci := 1) (v := .ref q) (C := R_RG) (T := F_RG) (N := 2) hx hb ht i_RG hown hK hP 0 rfl rfl 0 (by decide) (ht _ k_93) (fun _ h9 => h9) rfl d_RG_insert_132 ?_
              refine lv_iload hx hb d_RG_insert_135 (lv_at hl 1 rfl) ?_
              refine lv_iconst (v := iI 1) hx hb d_RG_insert_137 rfl ?_
              refine ix_isub hx hb d_RG_insert_138 ?_
              refine lv_iload_n hx hb d_RG_insert_139 rfl (lv_at hl 5 rfl) ?_
              refine lv_iconst (v := iI 1) hx hb d_RG_insert_140 rfl ?_
              refine ix_iadd hx hb d_RG_insert_141 ?_
              refine ix_iast hx hb hK hP hD hS 1 0 rfl rfl (i := ((((((f : Nat) : Int)) + 1) + 1) - 1)) (((f + 1) + 1) - 1) (by omega) d_RG_insert_142 (fun H locs hP hD hS => ?_)
              have hP : va_P g.1 classes [(h, .inr (1, [.ref q, .int (iI (((n : Nat) : Int)))])), (q, .inl (zI g, 2048, .inl (ai (va_up (va_up (va_cpy es es t ((f + 1) + 1) (n - t)) f low) (((f + 1) + 1) - 1) (high + 1)))))] H := hP
              have hD : va_D A [(h, .inr (1, [.ref q, .int (iI (((n : Nat) : Int)))])), (q, .inl (zI g, 2048, .inl (ai (va_up (va_up (va_cpy es es t ((f + 1) + 1) (n - t)) f low) (((f + 1) + 1) - 1) (high + 1)))))] := hD
              refine lv_aload_n hx hb d_RG_insert_143 rfl (lv_at hl 3 rfl) ?_
              refine lv_iload hx hb d_RG_insert_144 (lv_at hl 0 rfl) ?_
              refine va_put (D := g.1) (ci := 1) (v := .int (iI (((((((f : Nat) : Int)) + 1) + 1) + (((n : Nat) : Int))) - (((t : Nat) : Int))))) (ty := .int) (C := R_RG) (T := F_RG) (N := 2) hx hb ht i_RG t_RG t_RG_ok n_RG hown hK hP hD hS 0 rfl rfl 1 (by decide) (ht _ k_94) (fun _ h9 => h9) rfl (by decide +kernel) rfl rfl (Nat.le_of_ble_eq_true rfl) d_RG_insert_146 (fun H locs hP hD hS => ?_)
              have hP : va_P g.1 classes [(h, .inr (1, [.ref q, .int (iI (((((((f : Nat) : Int)) + 1) + 1) + (((n : Nat) : Int))) - (((t : Nat) : Int))))])), (q, .inl (zI g, 2048, .inl (ai (va_up (va_up (va_cpy es es t ((f + 1) + 1) (n - t)) f low) (((f + 1) + 1) - 1) (high + 1)))))] H := hP
              have hD : va_D A [(h, .inr (1, [.ref q, .int (iI (((((((f : Nat) : Int)) + 1) + 1) + (((n : Nat) : Int))) - (((t : Nat) : Int))))])), (q, .inl (zI g, 2048, .inl (ai (va_up (va_up (va_cpy es es t ((f + 1) + 1) (n - t)) f low) (((f + 1) + 1) - 1) (high + 1)))))] := hD
              rw [show ((((((f : Nat) : Int)) + 1) + 1) + (((n : Nat) : Int))) - (((t : Nat) : Int)) = ((f + 1 + 1 + (n - t) : Nat) : Int) by omega] at hP hD
              subst hQ
              exact W.vret hx hb hr (fun t h9 hW => ⟨⟨_, rfl, ⟨_, _, rfl, Ins_of ha hf htt (by omega) hnl hnh⟩, by rw [h9]; exact hP, va_K.moved hW.alike hK, hD⟩, hS.F h9⟩) hS.2.2 d_RG_insert_149
        · exact absurd c_88 (by have q9 := Ins_len (Ins_of ha hf htt (by omega) hnl hnh) Bs hB hB1 hB2; omega)
  have J28 : ∀ (f t nl : Nat) (H : Heap) (locs : List Loc) (ls : Array Slot), lv_has ls 9 [(0, .ref h), (1, .int (iI low)), (2, .int (iI high)), (3, .int (iI (((f : Nat) : Int)))), (4, .int (iI (((t : Nat) : Int))))] → (Up es n (low - 1) f) → (Up es n (high + 1) t) → (nl + f % 2 = 1) → va_P g.1 classes [(h, .inr (1, [.ref q, .int (iI (((n : Nat) : Int)))])), (q, .inl (zI g, 2048, .inl (ai es)))] H → va_D A [(h, .inr (1, [.ref q, .int (iI (((n : Nat) : Int)))])), (q, .inl (zI g, 2048, .inl (ai es)))] → va_S A s.heap H locs → W p l e (headSpec w_RG_insert { frames := 1, cells := 0, slots := 0, locals := 24 }).room s m args below meth cd H locs 0 0 Q (F0 m 28 ls [.int (iI (((nl : Nat) : Int)))]) := by
    intro f t nl H locs ls hl hf htt hnl hP hD hS
    have hf1 := hf.1
    have ht1 := htt.1
    have hft := Up_mono hf htt (by omega)
    refine lv_istore (lv' := [(5, .int (iI (((nl : Nat) : Int)))), (0, .ref h), (1, .int (iI low)), (2, .int (iI high)), (3, .int (iI (((f : Nat) : Int)))), (4, .int (iI (((t : Nat) : Int))))]) hx hb d_RG_insert_28 hl (by decide) rfl (fun ls hl => ?_)
    refine lv_iload hx hb d_RG_insert_30 (lv_at hl 5 rfl) ?_
    refine lv_iconst (v := iI 2) hx hb d_RG_insert_32 rfl ?_
    refine ix_irem hx hb d_RG_insert_33 (by omega) ?_
    refine ix_if_ne (tgt := 41) hx hb d_RG_insert_34 (by decide) (by omega) (fun c_34 => ?_) (fun c_34 => ?_)
    · refine lv_iconst (v := iI 0) hx hb d_RG_insert_41 rfl ?_
      exact J42 f t nl 0 _ _ ls (lv_sub hl [1, 2, 3, 4, 5, 0] rfl) (by exact hf) (by exact htt) (by exact hnl) (by omega) hP hD hS
    · refine lv_iconst (v := iI 1) hx hb d_RG_insert_37 rfl ?_
      refine lv_goto (tgt := 42) hx hb d_RG_insert_38 (by decide) ?_
      exact J42 f t nl 1 _ _ ls (lv_sub hl [1, 2, 3, 4, 5, 0] rfl) (by exact hf) (by exact htt) (by exact hnl) (by omega) hP hD hS
  refine lv_aload_n hx hb d_RG_insert_0 rfl (lv_at hl 0 rfl) ?_
  refine lv_iload_n hx hb d_RG_insert_1 rfl (lv_at hl 1 rfl) ?_
  refine lv_iconst (v := iI 1) hx hb d_RG_insert_2 rfl ?_
  refine ix_isub hx hb d_RG_insert_3 ?_
  refine zcV (ci := 1) (q0 := 0) (As := [.int (iI (low - 1))]) (rest := []) ⟨hx, hb, hml, hown, ht⟩ v_RG_17 (c_RG_edgesUpTo l g h q n es (low - 1) ha hn hbd (by omega)) ⟨Nat.le_of_ble_eq_true rfl, Nat.le_of_ble_eq_true rfl⟩ ⟨Nat.zero_le _, Nat.zero_le _⟩ hK hZ hS hP rfl rfl rfl rfl hl.1 rfl (Nat.le_of_ble_eq_true rfl) d_RG_insert_4 (fun r_4 h_4 => ?_)
  obtain ⟨k4, rfl, hk4⟩ := h_4
  have hkn4 := hk4.1
  refine lv_istore_n (lv' := [(3, .int (iI (((k4 : Nat) : Int)))), (0, .ref h), (1, .int (iI low)), (2, .int (iI high))]) hx hb d_RG_insert_7 rfl hl (by decide) rfl (fun ls hl => ?_)
  refine lv_aload_n hx hb d_RG_insert_8 rfl (lv_at hl 1 rfl) ?_
  refine lv_iload_n hx hb d_RG_insert_9 rfl (lv_at hl 3 rfl) ?_
  refine lv_iconst (v := iI 1) hx hb d_RG_insert_10 rfl ?_
  refine ix_iadd hx hb d_RG_insert_11 ?_
  refine zcV (ci := 1) (q0 := 0) (As := [.int (iI (high + 1))]) (rest := []) ⟨hx, hb, hml, hown, ht⟩ v_RG_17 (c_RG_edgesUpTo l g h q n es (high + 1) ha hn hbd (by omega)) ⟨Nat.le_of_ble_eq_true rfl, Nat.le_of_ble_eq_true rfl⟩ ⟨Nat.zero_le _, Nat.zero_le _⟩ hK hZ hS hP rfl rfl rfl rfl hl.1 rfl (Nat.le_of_ble_eq_true rfl) d_RG_insert_12 (fun r_12 h_12 => ?_)
  obtain ⟨k12, rfl, hk12⟩ := h_12
  have hkn12 := hk12.1
  refine lv_istore (lv' := [(4, .int (iI (((k12 : Nat) : Int)))), (3, .int (iI (((k4 : Nat) : Int)))), (0, .ref h), (1, .int (iI low)), (2, .int (iI high))]) hx hb d_RG_insert_15 hl (by decide) rfl (fun ls hl => ?_)
  refine lv_iload_n hx hb d_RG_insert_17 rfl (lv_at hl 1 rfl) ?_
  refine lv_iconst (v := iI 2) hx hb d_RG_insert_18 rfl ?_
  refine ix_irem hx hb d_RG_insert_19 (by omega) ?_
  refine ix_if_ne (tgt := 27) hx hb d_RG_insert_20 (by decide) (by omega) (fun c_20 => ?_) (fun c_20 => ?_)
  · refine lv_iconst (v := iI 0) hx hb d_RG_insert_27 rfl ?_
    exact J28 k4 k12 0 _ _ ls (lv_sub hl [2, 3, 4, 1, 0] rfl) (by exact hk4) (by exact hk12) (by omega) hP hD hS
  · refine lv_iconst (v := iI 1) hx hb d_RG_insert_23 rfl ?_
    refine lv_goto (tgt := 28) hx hb d_RG_insert_24 (by decide) ?_
    exact J28 k4 k12 1 _ _ ls (lv_sub hl [2, 3, 4, 1, 0] rfl) (by exact hk4) (by exact hk12) (by omega) hP hD hS
set_option maxHeartbeats 4000000 in
set_option maxRecDepth 100000 in
theorem c_RG_insertAll (l : Launch) (g : zG) (sz : Nat) (h q : Nat) (n : Nat) (es : Nat → Int) (h2 q2 n2 : Nat) (es2 : Nat → Int) (ha : asc es n) (hn : n ≤ 2048) (hbd : ∀ i, i < n → 0 ≤ es i ∧ es i ≤ 1114112) (ha2 : asc es2 n2) (hn2 : n2 ≤ 2048) (hbd2 : ∀ i, i < n2 → 0 ≤ es2 i ∧ es2 i ≤ 1114112) (Bs : List Int) (hB : ∀ i, i < n → es i ∈ Bs) (hB2 : ∀ i, i < n2 → es2 i ∈ Bs) (hBl : Bs.length ≤ 2048) : Met l y_RG_insertAll w_RG_insertAll { frames := 2, cells := 0, slots := 0, locals := 52 } (zPw g [.ref h, .ref h2] [(h, .inr (1, [.ref q, .int (iI (((n : Nat) : Int)))])), (q, .inl (zI g, 2048, .inl (ai es)))] [(h2, .inr (1, [.ref q2, .int (iI (((n2 : Nat) : Int)))])), (q2, .inl (zI g, 2048, .inl (ai es2)))] sz) (va_Qv (fun w => ∃ (e2 : Nat → Int) (n3 : Nat), w = [(h, .inr (1, [.ref q, .int (iI (((n3 : Nat) : Int)))])), (q, .inl (zI g, 2048, .inl (ai e2)))] ∧ IA es n es2 (n2 / 2) e2 n3) (zB g (va_A [(h, .inr (1, [.ref q, .int (iI (((n : Nat) : Int)))])), (q, .inl (zI g, 2048, .inl (ai es)))] sz)) (va_A [(h, .inr (1, [.ref q, .int (iI (((n : Nat) : Int)))])), (q, .inl (zI g, 2048, .inl (ai es)))] sz)) 0 0 (va_A [(h, .inr (1, [.ref q, .int (iI (((n : Nat) : Int)))])), (q, .inl (zI g, 2048, .inl (ai es)))] sz) := by
  refine Met.ofW (cc := b_RG_insertAll) (maxL := 3) (ret := none) (by decide) rfl ?_
  intro p e s m args below meth cd s₁ B hml hv
  obtain ⟨hargs, hsz, hP, hK, hD0, hZ, hO0, hAp⟩ := hv
  have hx := B.exec
  have hb := B.bytes
  have hr := B.returns
  have ht : ∀ w ∈ lw_ok, w.before args s = true := fun w h => atoms_spec (ws := w_RG_insertAll) B.pre w (List.mem_cons_of_mem _ h)
  have hown : s.vm.findClass R_RG = some m.cls := findClass_of_methodNamed B.named
  have hlocks := B.notSynchronized
  subst hsz
  have hD := hD0.self (sz := s.heap.size)
  generalize hAe : va_A [(h, .inr (1, [.ref q, .int (iI (((n : Nat) : Int)))])), (q, .inl (zI g, 2048, .inl (ai es)))] s.heap.size = A at hD hZ hAp ⊢
  have hA : ∀ q : Nat, s.heap.size ≤ q → A q := fun q h => by rw [← hAe]; exact Or.inr h
  have hS : va_S A s.heap s.heap [] := va_S.rf
  generalize hQ : MQ below _ args s 0 0 _ = Q
  have hl := lv_entry ([.ref h, .ref h2]) (n := 3) (Nat.le_of_ble_eq_true rfl)
  rw [show entryFrame m args 3 = entryFrame m ([.ref h, .ref h2] : List Value).toArray 3 by rw [hargs], lg_entry_eq]
  generalize (lg_sl ([.ref h, .ref h2]) ++ List.replicate (3 - (lg_sl ([.ref h, .ref h2])).length) Slot.unset).toArray = ls at hl ⊢
  have hl : lv_has ls 3 [(0, .ref h), (1, .ref h2)] := hl
  obtain ⟨H, locs, hHe, hLe⟩ : ∃ (H : Heap) (locs : List Loc), H = s.heap ∧ locs = [] := ⟨_, _, rfl, rfl⟩
  rw [show W p l e _ s m args below meth cd s.heap [] 0 0 Q = W p l e _ s m args below meth cd H locs 0 0 Q by rw [hHe, hLe]]
  rw [← hHe] at hP
  have hS : va_S A s.heap H locs := by rw [hHe, hLe]; exact hS
  have hO := zO_kept hO0 hAp hS
  have hAh : A h := hD.2 0 _ rfl
  have hAh2 : ¬ A h2 := hAp 0 _ rfl
  have J8 : ∀ fu : Nat, ∀ (i n3 : Nat) (e3 : Nat → Int) (H : Heap) (locs : List Loc) (ls : Array Slot), n2 - i < fu → lv_has ls 3 [(0, .ref h), (1, .ref h2), (2, .int (iI (((i : Nat) : Int))))] → (i ≤ n2 / 2) → (IA es n es2 i e3 n3) → (asc e3 n3) → (n3 ≤ 2048) → (∀ j, j < n3 → 0 ≤ e3 j ∧ e3 j ≤ 1114112) → (∀ j, j < n3 → e3 j ∈ Bs) → va_P g.1 classes [(h, .inr (1, [.ref q, .int (iI (((n3 : Nat) : Int)))])), (q, .inl (zI g, 2048, .inl (ai e3)))] H → va_D A [(h, .inr (1, [.ref q, .int (iI (((n3 : Nat) : Int)))])), (q, .inl (zI g, 2048, .inl (ai e3)))] → va_S A s.heap H locs → W p l e (headSpec w_RG_insertAll { frames := 2, cells := 0, slots := 0, locals := 52 }).room s m args below meth cd H locs 0 0 Q (F0 m 8 ls []) := by
    intro fu
    induction fu with
    | zero => exact fun _ _ _ _ _ _ hfu _ _ _ _ _ _ _ _ _ _ => absurd hfu (Nat.not_lt_zero _)
    | succ fu ih =>
      intro i n3 e3 H locs ls hfu hl h1 hI ha3 hn3 hbd3 hB3 hP hD hS
      have hO := zO_kept hO0 hAp hS
      refine lv_iload_n hx hb d_RG_insertAll_8 rfl (lv_at hl 2 rfl) ?_
      refine lv_aload_n hx hb d_RG_insertAll_9 rfl (lv_at hl 1 rfl) ?_
      refine zcV (ci := 1) (q0 := 0) (As := []) (rest := [.int (iI (((i : Nat) : Int)))]) ⟨hx, hb, hml, hown, ht⟩ v_RG_21 (c_RG_rangeCount l g h2 q2 n2 es2  hn2) ⟨Nat.le_of_ble_eq_true rfl, Nat.le_of_ble_eq_true rfl⟩ ⟨Nat.zero_le _, Nat.zero_le _⟩ hK hZ hS hO rfl rfl rfl rfl hl.1 rfl (Nat.le_of_ble_eq_true rfl) d_RG_insertAll_10 (fun r_10 h_10 => ?_)
      subst h_10
      refine ix_icmp_ge (tgt := 36) hx hb d_RG_insertAll_13 (by decide) (by omega) (fun c_13 => ?_) (fun c_13 => ?_)
      · have e9 : i = n2 / 2 := by omega
        subst e9
        subst hQ
        exact W.vret hx hb hr (fun t h9 hW => ⟨⟨_, rfl, ⟨_, _, rfl, hI⟩, by rw [h9]; exact hP, va_K.moved hW.alike hK, hD⟩, hS.F h9⟩) hS.2.2 d_RG_insertAll_36
      · refine lv_aload_n hx hb d_RG_insertAll_16 rfl (lv_at hl 0 rfl) ?_
        refine lv_aload_n hx hb d_RG_insertAll_17 rfl (lv_at hl 1 rfl) ?_
        refine lv_iload_n hx hb d_RG_insertAll_18 rfl (lv_at hl 2 rfl) ?_
        refine zcV (ci := 1) (q0 := 0) (As := [.int (iI (((i : Nat) : Int)))]) (rest := [.ref h]) ⟨hx, hb, hml, hown, ht⟩ v_RG_25 (c_RG_lowOf l g h2 q2 n2 es2 i (by omega)) ⟨Nat.le_of_ble_eq_true rfl, Nat.le_of_ble_eq_true rfl⟩ ⟨Nat.zero_le _, Nat.zero_le _⟩ hK hZ hS hO rfl rfl rfl rfl hl.1 rfl (Nat.le_of_ble_eq_true rfl) d_RG_insertAll_19 (fun r_19 h_19 => ?_)
        subst h_19
        have f1 := hbd2 (2 * i) (by omega)
        have f2 := hbd2 (2 * i + 1) (by omega)
        have f3 := ha2 (2 * i) (2 * i + 1) (by omega) (by omega)
        refine lv_aload_n hx hb d_RG_insertAll_22 rfl (lv_at hl 1 rfl) ?_
        refine lv_iload_n hx hb d_RG_insertAll_23 rfl (lv_at hl 2 rfl) ?_
        refine zcV (ci := 1) (q0 := 0) (As := [.int (iI (((i : Nat) : Int)))]) (rest := [.int (iI (es2 (2 * i))), .ref h]) ⟨hx, hb, hml, hown, ht⟩ v_RG_31 (c_RG_highOf l g h2 q2 n2 es2 i (by omega)) ⟨Nat.le_of_ble_eq_true rfl, Nat.le_of_ble_eq_true rfl⟩ ⟨Nat.zero_le _, Nat.zero_le _⟩ hK hZ hS hO rfl rfl rfl rfl hl.1 rfl (Nat.le_of_ble_eq_true rfl) d_RG_insertAll_24 (fun r_24 h_24 => ?_)
        subst h_24
        have hBh : es2 (2 * i + 1) - 1 + 1 ∈ Bs := by rw [show es2 (2 * i + 1) - 1 + 1 = es2 (2 * i + 1) by omega]; exact hB2 _ (by omega)
        have hF_27 := va_free (wc := [(h, .inr (1, [.ref q, .int (iI (((n3 : Nat) : Int)))])), (q, .inl (zI g, 2048, .inl (ai e3)))]) hD hS hA [0, 1] rfl
        refine zcVv (ci := 1) (q0 := 0) (As := [.int (iI (es2 (2 * i))), .int (iI (es2 (2 * i + 1) - 1))]) (rest := []) ⟨hx, hb, hml, hown, ht⟩ v_RG_40 (c_RG_insert l g H.size h q n3 e3 (es2 (2 * i)) (es2 (2 * i + 1) - 1) ha3 hn3 hbd3 (by omega) (by omega) (by omega) Bs hB3 (hB2 _ (by omega)) hBh hBl) ⟨Nat.le_of_ble_eq_true rfl, Nat.le_of_ble_eq_true rfl⟩ ⟨Nat.zero_le _, Nat.zero_le _⟩ hK hZ hS hP (hD.weaken (fun _ _ _ _ => trivial)) hF_27 zP_nil zAp_nil rfl rfl rfl rfl hl.1 rfl (Nat.le_of_ble_eq_true rfl) d_RG_insertAll_27 (fun w_27 H locs h_27 pp_27 dd_27 zz_27 kk_27 hS => ?_)
        obtain ⟨e4, n4, rfl, hI4⟩ := h_27
        have hP : va_P g.1 classes [(h, .inr (1, [.ref q, .int (iI (((n4 : Nat) : Int)))])), (q, .inl (zI g, 2048, .inl (ai e4)))] H := pp_27
        have hD : va_D A [(h, .inr (1, [.ref q, .int (iI (((n4 : Nat) : Int)))])), (q, .inl (zI g, 2048, .inl (ai e4)))] := dd_27.weaken (fun _ _ _ h9 => hF_27 _ h9)
        have hO := zO_kept hO0 hAp hS
        have hB4 := Ins_B hI4 Bs hB3 (hB2 _ (by omega)) hBh
        have hL4 := asc_len hI4.1 Bs hB4
        have hbd4 : ∀ j, j < n4 → 0 ≤ e4 j ∧ e4 j ≤ 1114112 := fun j hj => by rcases hI4.2.2.2 j hj with q9 | q9 | ⟨j9, a9, q9⟩ <;> first | (rw [q9]; exact hbd3 j9 a9) | (rw [q9]; omega)
        refine lv_iinc (v := iI ((((i : Nat) : Int)) + 1)) (lv' := [(2, .int (iI ((((i : Nat) : Int)) + 1))), (0, .ref h), (1, .ref h2)]) hx hb d_RG_insertAll_30 hl (k := 2) rfl (iI_add _ _) (by decide) rfl (fun ls hl => ?_)
        refine lv_goto (tgt := 8) hx hb d_RG_insertAll_33 (by decide) ?_
        exact ih (i + 1) n4 e4 _ _ ls (by omega) (lv_sub hl [1, 2, 0] rfl) (by omega) (by exact ⟨e3, n3, hI, hI4⟩) (by exact hI4.1) (by omega) (by exact hbd4) (by exact hB4) hP hD hS
  refine lv_aload_n hx hb d_RG_insertAll_0 rfl (lv_at hl 1 rfl) ?_
  refine lv_aload_n hx hb d_RG_insertAll_1 rfl (lv_at hl 0 rfl) ?_
  refine lv_acmp_ne (rx := some h2) (ry := some h) (tgt := 6) hx hb d_RG_insertAll_2 (by decide) (fun c_2 => ?_) (fun c_2 => ?_)
  · refine lv_iconst (v := iI 0) hx hb d_RG_insertAll_6 rfl ?_
    refine lv_istore_n (lv' := [(2, .int (iI 0)), (0, .ref h), (1, .ref h2)]) hx hb d_RG_insertAll_7 rfl hl (by decide) rfl (fun ls hl => ?_)
    exact J8 (_ + 1) 0 n es _ _ ls (Nat.lt_succ_self _) (lv_sub hl [1, 2, 0] rfl) (by omega) (by exact ⟨rfl, rfl⟩) (by exact ha) (by exact hn) (by exact hbd) (by exact hB) hP hD hS
  · exact absurd c_2 (zNe hAh hAh2)
set_option maxHeartbeats 4000000 in
set_option maxRecDepth 100000 in
theorem c_RG_complement (l : Launch) (g : zG) (sz : Nat) (h q : Nat) (n : Nat) (es : Nat → Int) (ha : asc es n) (hn : n ≤ 2048) (hbd : ∀ i, i < n → 0 ≤ es i ∧ es i ≤ 1114112) (last : Nat) (hla : last ≤ 1114111) (hn2 : n + 2 ≤ 2048) : Met l y_RG_complement w_RG_complement { frames := 1, cells := 0, slots := 0, locals := 18 } (zPw g [.ref h, .int (iI (((last : Nat) : Int)))] [(h, .inr (1, [.ref q, .int (iI (((n : Nat) : Int)))])), (q, .inl (zI g, 2048, .inl (ai es)))] [] sz) (va_Qv (fun w => ∃ (e2 : Nat → Int) (n2 : Nat), w = [(h, .inr (1, [.ref q, .int (iI (((n2 : Nat) : Int)))])), (q, .inl (zI g, 2048, .inl (ai e2)))] ∧ Cmp ((last : Nat) : Int) es n e2 n2) (zB g (va_A [(h, .inr (1, [.ref q, .int (iI (((n : Nat) : Int)))])), (q, .inl (zI g, 2048, .inl (ai es)))] sz)) (va_A [(h, .inr (1, [.ref q, .int (iI (((n : Nat) : Int)))])), (q, .inl (zI g, 2048, .inl (ai es)))] sz)) 0 0 (va_A [(h, .inr (1, [.ref q, .int (iI (((n : Nat) : Int)))])), (q, .inl (zI g, 2048, .inl (ai es)))] sz) := by
  refine Met.ofW (cc := b_RG_complement) (maxL := 2) (ret := none) (by decide) rfl ?_
  intro p e s m args below meth cd s₁ B hml hv
  obtain ⟨hargs, hsz, hP, hK, hD0, hZ, hO0, hAp⟩ := hv
  have hx := B.exec
  have hb := B.bytes
  have hr := B.returns
  have ht : ∀ w ∈ lw_ok, w.before args s = true := fun w h => atoms_spec (ws := w_RG_complement) B.pre w (List.mem_cons_of_mem _ h)
  have hown : s.vm.findClass R_RG = some m.cls := findClass_of_methodNamed B.named
  have hlocks := B.notSynchronized
  subst hsz
  have hD := hD0.self (sz := s.heap.size)
  generalize hAe : va_A [(h, .inr (1, [.ref q, .int (iI (((n : Nat) : Int)))])), (q, .inl (zI g, 2048, .inl (ai es)))] s.heap.size = A at hD hZ hAp ⊢
  have hA : ∀ q : Nat, s.heap.size ≤ q → A q := fun q h => by rw [← hAe]; exact Or.inr h
  have hS : va_S A s.heap s.heap [] := va_S.rf
  generalize hQ : MQ below _ args s 0 0 _ = Q
  have hl := lv_entry ([.ref h, .int (iI (((last : Nat) : Int)))]) (n := 2) (Nat.le_of_ble_eq_true rfl)
  rw [show entryFrame m args 2 = entryFrame m ([.ref h, .int (iI (((last : Nat) : Int)))] : List Value).toArray 2 by rw [hargs], lg_entry_eq]
  generalize (lg_sl ([.ref h, .int (iI (((last : Nat) : Int)))]) ++ List.replicate (2 - (lg_sl ([.ref h, .int (iI (((last : Nat) : Int)))])).length) Slot.unset).toArray = ls at hl ⊢
  have hl : lv_has ls 2 [(0, .ref h), (1, .int (iI (((last : Nat) : Int))))] := hl
  obtain ⟨H, locs, hHe, hLe⟩ : ∃ (H : Heap) (locs : List Loc), H = s.heap ∧ locs = [] := ⟨_, _, rfl, rfl⟩
  rw [show W p l e _ s m args below meth cd s.heap [] 0 0 Q = W p l e _ s m args below meth cd H locs 0 0 Q by rw [hHe, hLe]]
  rw [← hHe] at hP
  have hS : va_S A s.heap H locs := by rw [hHe, hLe]; exact hS
  have J97 : ∀ (n1 : Nat) (e1 : Nat → Int) (H : Heap) (locs : List Loc) (ls : Array Slot), lv_has ls 2 [(0, .ref h), (1, .int (iI (((last : Nat) : Int))))] → ((0 < n ∧ es 0 = 0 ∧ n1 + 1 = n ∧ ∀ j, j < n1 → e1 j = es (j + 1)) ∨ (¬ (0 < n ∧ es 0 = 0) ∧ n1 = n + 1 ∧ e1 0 = 0 ∧ ∀ j, j < n → e1 (j + 1) = es j)) → (n1 ≤ 2047) → (∀ j, j < n1 → 0 ≤ e1 j ∧ e1 j ≤ 1114112) → va_P g.1 classes [(h, .inr (1, [.ref q, .int (iI (((n1 : Nat) : Int)))])), (q, .inl (zI g, 2048, .inl (ai e1)))] H → va_D A [(h, .inr (1, [.ref q, .int (iI (((n1 : Nat) : Int)))])), (q, .inl (zI g, 2048, .inl (ai e1)))] → va_S A s.heap H locs → W p l e (headSpec w_RG_complement { frames := 1, cells := 0, slots := 0, locals := 18 }).room s m args below meth cd H locs 0 0 Q (F0 m 97 ls []) := by
    intro n1 e1 H locs ls hl h1 hn1 hb1 hP hD hS
    refine lv_aload_n hx hb d_RG_complement_97 rfl (lv_at hl 0 rfl) ?_
    refine va_get (D := g.1) (ci := 1) (v := .int (iI (((n1 : Nat) : Int)))) (C := R_RG) (T := F_RG) (N := 2) hx hb ht i_RG hown hK hP 0 rfl rfl 1 (by decide) (ht _ k_94) (fun _ h9 => h9) rfl d_RG_complement_98 ?_
    refine ix_if_le (tgt := 134) hx hb d_RG_complement_101 (by decide) (by omega) (fun c_101 => ?_) (fun c_101 => ?_)
    · refine lv_aload_n hx hb d_RG_complement_134 rfl (lv_at hl 0 rfl) ?_
      refine va_get (D := g.1) (ci := 1) (v := .ref q) (C := R_RG) (T := F_RG) (N := 2) hx hb ht i_RG hown hK hP 0 rfl rfl 0 (by decide) (ht _ k_93) (fun _ h9 => h9) rfl d_RG_complement_135 ?_
      refine lv_aload_n hx hb d_RG_complement_138 rfl (lv_at hl 0 rfl) ?_
      refine va_get (D := g.1) (ci := 1) (v := .int (iI (((n1 : Nat) : Int)))) (C := R_RG) (T := F_RG) (N := 2) hx hb ht i_RG hown hK hP 0 rfl rfl 1 (by decide) (ht _ k_94) (fun _ h9 => h9) rfl d_RG_complement_139 ?_
      refine lv_iload_n hx hb d_RG_complement_142 rfl (lv_at hl 1 rfl) ?_
      refine lv_iconst (v := iI 1) hx hb d_RG_complement_143 rfl ?_
      refine ix_iadd hx hb d_RG_complement_144 ?_
      refine ix_iast hx hb hK hP hD hS 1 0 rfl rfl (i := (((n1 : Nat) : Int))) n1 (by omega) d_RG_complement_145 (fun H locs hP hD hS => ?_)
      have hP : va_P g.1 classes [(h, .inr (1, [.ref q, .int (iI (((n1 : Nat) : Int)))])), (q, .inl (zI g, 2048, .inl (ai (va_up e1 n1 ((((last : Nat) : Int)) + 1)))))] H := hP
      have hD : va_D A [(h, .inr (1, [.ref q, .int (iI (((n1 : Nat) : Int)))])), (q, .inl (zI g, 2048, .inl (ai (va_up e1 n1 ((((last : Nat) : Int)) + 1)))))] := hD
      refine lv_aload_n hx hb d_RG_complement_146 rfl (lv_at hl 0 rfl) ?_
      refine lv_dup hx hb d_RG_complement_147 rfl ?_
      refine va_get (D := g.1) (ci := 1) (v := .int (iI (((n1 : Nat) : Int)))) (C := R_RG) (T := F_RG) (N := 2) hx hb ht i_RG hown hK hP 0 rfl rfl 1 (by decide) (ht _ k_94) (fun _ h9 => h9) rfl d_RG_complement_148 ?_
      refine lv_iconst (v := iI 1) hx hb d_RG_complement_151 rfl ?_
      refine ix_iadd hx hb d_RG_complement_152 ?_
      refine va_put (D := g.1) (ci := 1) (v := .int (iI ((((n1 : Nat) : Int)) + 1))) (ty := .int) (C := R_RG) (T := F_RG) (N := 2) hx hb ht i_RG t_RG t_RG_ok n_RG hown hK hP hD hS 0 rfl rfl 1 (by decide) (ht _ k_94) (fun _ h9 => h9) rfl (by decide +kernel) rfl rfl (Nat.le_of_ble_eq_true rfl) d_RG_complement_153 (fun H locs hP hD hS => ?_)
      have hP : va_P g.1 classes [(h, .inr (1, [.ref q, .int (iI ((((n1 : Nat) : Int)) + 1))])), (q, .inl (zI g, 2048, .inl (ai (va_up e1 n1 ((((last : Nat) : Int)) + 1)))))] H := hP
      have hD : va_D A [(h, .inr (1, [.ref q, .int (iI ((((n1 : Nat) : Int)) + 1))])), (q, .inl (zI g, 2048, .inl (ai (va_up e1 n1 ((((last : Nat) : Int)) + 1)))))] := hD
      subst hQ
      exact W.vret hx hb hr (fun t h9 hW => ⟨⟨_, rfl, ⟨_, n1 + 1, rfl, e1, n1, h1, Or.inr ⟨by omega, rfl, (cmp_u _ _ _).1, (cmp_u _ _ _).2⟩⟩, by rw [h9]; exact hP, va_K.moved hW.alike hK, hD⟩, hS.F h9⟩) hS.2.2 d_RG_complement_156
    · refine lv_aload_n hx hb d_RG_complement_104 rfl (lv_at hl 0 rfl) ?_
      refine va_get (D := g.1) (ci := 1) (v := .ref q) (C := R_RG) (T := F_RG) (N := 2) hx hb ht i_RG hown hK hP 0 rfl rfl 0 (by decide) (ht _ k_93) (fun _ h9 => h9) rfl d_RG_complement_105 ?_
      refine lv_aload_n hx hb d_RG_complement_108 rfl (lv_at hl 0 rfl) ?_
      refine va_get (D := g.1) (ci := 1) (v := .int (iI (((n1 : Nat) : Int)))) (C := R_RG) (T := F_RG) (N := 2) hx hb ht i_RG hown hK hP 0 rfl rfl 1 (by decide) (ht _ k_94) (fun _ h9 => h9) rfl d_RG_complement_109 ?_
      refine lv_iconst (v := iI 1) hx hb d_RG_complement_112 rfl ?_
      refine ix_isub hx hb d_RG_complement_113 ?_
      refine ix_iald hx hb hK hP 1 0 rfl rfl (i := ((((n1 : Nat) : Int)) - 1)) (n1 - 1) (by omega) d_RG_complement_114 ?_
      have f_7 := hb1 (n1 - 1) (by omega)
      refine lv_iload_n hx hb d_RG_complement_115 rfl (lv_at hl 1 rfl) ?_
      refine lv_iconst (v := iI 1) hx hb d_RG_complement_116 rfl ?_
      refine ix_iadd hx hb d_RG_complement_117 ?_
      refine ix_icmp_ne (tgt := 134) hx hb d_RG_complement_118 (by decide) (by omega) (fun c_118 => ?_) (fun c_118 => ?_)
      · refine lv_aload_n hx hb d_RG_complement_134 rfl (lv_at hl 0 rfl) ?_
        refine va_get (D := g.1) (ci := 1) (v := .ref q) (C := R_RG) (T := F_RG) (N := 2) hx hb ht i_RG hown hK hP 0 rfl rfl 0 (by decide) (ht _ k_93) (fun _ h9 => h9) rfl d_RG_complement_135 ?_
        refine lv_aload_n hx hb d_RG_complement_138 rfl (lv_at hl 0 rfl) ?_
        refine va_get (D := g.1) (ci := 1) (v := .int (iI (((n1 : Nat) : Int)))) (C := R_RG) (T := F_RG) (N := 2) hx hb ht i_RG hown hK hP 0 rfl rfl 1 (by decide) (ht _ k_94) (fun _ h9 => h9) rfl d_RG_complement_139 ?_
        refine lv_iload_n hx hb d_RG_complement_142 rfl (lv_at hl 1 rfl) ?_
        refine lv_iconst (v := iI 1) hx hb d_RG_complement_143 rfl ?_
        refine ix_iadd hx hb d_RG_complement_144 ?_
        refine ix_iast hx hb hK hP hD hS 1 0 rfl rfl (i := (((n1 : Nat) : Int))) n1 (by omega) d_RG_complement_145 (fun H locs hP hD hS => ?_)
        have hP : va_P g.1 classes [(h, .inr (1, [.ref q, .int (iI (((n1 : Nat) : Int)))])), (q, .inl (zI g, 2048, .inl (ai (va_up e1 n1 ((((last : Nat) : Int)) + 1)))))] H := hP
        have hD : va_D A [(h, .inr (1, [.ref q, .int (iI (((n1 : Nat) : Int)))])), (q, .inl (zI g, 2048, .inl (ai (va_up e1 n1 ((((last : Nat) : Int)) + 1)))))] := hD
        refine lv_aload_n hx hb d_RG_complement_146 rfl (lv_at hl 0 rfl) ?_
        refine lv_dup hx hb d_RG_complement_147 rfl ?_
        refine va_get (D := g.1) (ci := 1) (v := .int (iI (((n1 : Nat) : Int)))) (C := R_RG) (T := F_RG) (N := 2) hx hb ht i_RG hown hK hP 0 rfl rfl 1 (by decide) (ht _ k_94) (fun _ h9 => h9) rfl d_RG_complement_148 ?_
        refine lv_iconst (v := iI 1) hx hb d_RG_complement_151 rfl ?_
        refine ix_iadd hx hb d_RG_complement_152 ?_
        refine va_put (D := g.1) (ci := 1) (v := .int (iI ((((n1 : Nat) : Int)) + 1))) (ty := .int) (C := R_RG) (T := F_RG) (N := 2) hx hb ht i_RG t_RG t_RG_ok n_RG hown hK hP hD hS 0 rfl rfl 1 (by decide) (ht _ k_94) (fun _ h9 => h9) rfl (by decide +kernel) rfl rfl (Nat.le_of_ble_eq_true rfl) d_RG_complement_153 (fun H locs hP hD hS => ?_)
        have hP : va_P g.1 classes [(h, .inr (1, [.ref q, .int (iI ((((n1 : Nat) : Int)) + 1))])), (q, .inl (zI g, 2048, .inl (ai (va_up e1 n1 ((((last : Nat) : Int)) + 1)))))] H := hP
        have hD : va_D A [(h, .inr (1, [.ref q, .int (iI ((((n1 : Nat) : Int)) + 1))])), (q, .inl (zI g, 2048, .inl (ai (va_up e1 n1 ((((last : Nat) : Int)) + 1)))))] := hD
        subst hQ
        exact W.vret hx hb hr (fun t h9 hW => ⟨⟨_, rfl, ⟨_, n1 + 1, rfl, e1, n1, h1, Or.inr ⟨by omega, rfl, (cmp_u _ _ _).1, (cmp_u _ _ _).2⟩⟩, by rw [h9]; exact hP, va_K.moved hW.alike hK, hD⟩, hS.F h9⟩) hS.2.2 d_RG_complement_156
      · refine lv_aload_n hx hb d_RG_complement_121 rfl (lv_at hl 0 rfl) ?_
        refine lv_dup hx hb d_RG_complement_122 rfl ?_
        refine va_get (D := g.1) (ci := 1) (v := .int (iI (((n1 : Nat) : Int)))) (C := R_RG) (T := F_RG) (N := 2) hx hb ht i_RG hown hK hP 0 rfl rfl 1 (by decide) (ht _ k_94) (fun _ h9 => h9) rfl d_RG_complement_123 ?_
        refine lv_iconst (v := iI 1) hx hb d_RG_complement_126 rfl ?_
        refine ix_isub hx hb d_RG_complement_127 ?_
        refine va_put (D := g.1) (ci := 1) (v := .int (iI ((((n1 : Nat) : Int)) - 1))) (ty := .int) (C := R_RG) (T := F_RG) (N := 2) hx hb ht i_RG t_RG t_RG_ok n_RG hown hK hP hD hS 0 rfl rfl 1 (by decide) (ht _ k_94) (fun _ h9 => h9) rfl (by decide +kernel) rfl rfl (Nat.le_of_ble_eq_true rfl) d_RG_complement_128 (fun H locs hP hD hS => ?_)
        have hP : va_P g.1 classes [(h, .inr (1, [.ref q, .int (iI ((((n1 : Nat) : Int)) - 1))])), (q, .inl (zI g, 2048, .inl (ai e1)))] H := hP
        have hD : va_D A [(h, .inr (1, [.ref q, .int (iI ((((n1 : Nat) : Int)) - 1))])), (q, .inl (zI g, 2048, .inl (ai e1)))] := hD
        refine lv_goto (tgt := 156) hx hb d_RG_complement_131 (by decide) ?_
        rw [show ((n1 : Nat) : Int) - 1 = ((n1 - 1 : Nat) : Int) by omega] at hP hD
        subst hQ
        exact W.vret hx hb hr (fun t h9 hW => ⟨⟨_, rfl, ⟨_, _, rfl, e1, n1, h1, Or.inl ⟨by omega, by omega, by omega, fun _ _ => rfl⟩⟩, by rw [h9]; exact hP, va_K.moved hW.alike hK, hD⟩, hS.F h9⟩) hS.2.2 d_RG_complement_156
  refine lv_aload_n hx hb d_RG_complement_0 rfl (lv_at hl 0 rfl) ?_
  refine va_get (D := g.1) (ci := 1) (v := .int (iI (((n : Nat) : Int)))) (C := R_RG) (T := F_RG) (N := 2) hx hb ht i_RG hown hK hP 0 rfl rfl 1 (by decide) (ht _ k_94) (fun _ h9 => h9) rfl d_RG_complement_1 ?_
  refine lv_iconst (v := iI 2) hx hb d_RG_complement_4 rfl ?_
  refine ix_iadd hx hb d_RG_complement_5 ?_
  refine lv_aload_n hx hb d_RG_complement_6 rfl (lv_at hl 0 rfl) ?_
  refine va_get (D := g.1) (ci := 1) (v := .ref q) (C := R_RG) (T := F_RG) (N := 2) hx hb ht i_RG hown hK hP 0 rfl rfl 0 (by decide) (ht _ k_93) (fun _ h9 => h9) rfl d_RG_complement_7 ?_
  refine ix_alen hx hb hK hP 1 0 rfl rfl 2048 rfl d_RG_complement_10 ?_
  refine ix_icmp_le (tgt := 15) hx hb d_RG_complement_11 (by decide) (by omega) (fun c_11 => ?_) (fun c_11 => ?_)
  · refine lv_aload_n hx hb d_RG_complement_15 rfl (lv_at hl 0 rfl) ?_
    refine va_get (D := g.1) (ci := 1) (v := .int (iI (((n : Nat) : Int)))) (C := R_RG) (T := F_RG) (N := 2) hx hb ht i_RG hown hK hP 0 rfl rfl 1 (by decide) (ht _ k_94) (fun _ h9 => h9) rfl d_RG_complement_16 ?_
    refine ix_if_le (tgt := 63) hx hb d_RG_complement_19 (by decide) (by omega) (fun c_19 => ?_) (fun c_19 => ?_)
    · refine lv_aload_n hx hb d_RG_complement_63 rfl (lv_at hl 0 rfl) ?_
      refine va_get (D := g.1) (ci := 1) (v := .ref q) (C := R_RG) (T := F_RG) (N := 2) hx hb ht i_RG hown hK hP 0 rfl rfl 0 (by decide) (ht _ k_93) (fun _ h9 => h9) rfl d_RG_complement_64 ?_
      refine lv_iconst (v := iI 0) hx hb d_RG_complement_67 rfl ?_
      refine lv_aload_n hx hb d_RG_complement_68 rfl (lv_at hl 0 rfl) ?_
      refine va_get (D := g.1) (ci := 1) (v := .ref q) (C := R_RG) (T := F_RG) (N := 2) hx hb ht i_RG hown hK hP 0 rfl rfl 0 (by decide) (ht _ k_93) (fun _ h9 => h9) rfl d_RG_complement_69 ?_
      refine lv_iconst (v := iI 1) hx hb d_RG_complement_72 rfl ?_
      refine lv_aload_n hx hb d_RG_complement_73 rfl (lv_at hl 0 rfl) ?_
      refine va_get (D := g.1) (ci := 1) (v := .int (iI (((n : Nat) : Int)))) (C := R_RG) (T := F_RG) (N := 2) hx hb ht i_RG hown hK hP 0 rfl rfl 1 (by decide) (ht _ k_94) (fun _ h9 => h9) rfl d_RG_complement_74 ?_
      refine ix_copyi hx hb (by rw [hml]; exact hl.1.symm) hown (ht _ k_147) (ht _ k_149) (ht _ k_148) (ht _ k_6) hK hP hD hS 1 0 rfl rfl 0 1 n (by omega) (Nat.le_of_ble_eq_true rfl) (Nat.le_of_ble_eq_true rfl) d_RG_complement_77 (fun H locs hP hD hS => ?_)
      have hP : va_P g.1 classes [(h, .inr (1, [.ref q, .int (iI (((n : Nat) : Int)))])), (q, .inl (zI g, 2048, .inl (ai (va_cpy es es 0 1 n))))] H := hP
      have hD : va_D A [(h, .inr (1, [.ref q, .int (iI (((n : Nat) : Int)))])), (q, .inl (zI g, 2048, .inl (ai (va_cpy es es 0 1 n))))] := hD
      refine lv_aload_n hx hb d_RG_complement_80 rfl (lv_at hl 0 rfl) ?_
      refine va_get (D := g.1) (ci := 1) (v := .ref q) (C := R_RG) (T := F_RG) (N := 2) hx hb ht i_RG hown hK hP 0 rfl rfl 0 (by decide) (ht _ k_93) (fun _ h9 => h9) rfl d_RG_complement_81 ?_
      refine lv_iconst (v := iI 0) hx hb d_RG_complement_84 rfl ?_
      refine lv_iconst (v := iI 0) hx hb d_RG_complement_85 rfl ?_
      refine ix_iast hx hb hK hP hD hS 1 0 rfl rfl (i := 0) 0 (by omega) d_RG_complement_86 (fun H locs hP hD hS => ?_)
      have hP : va_P g.1 classes [(h, .inr (1, [.ref q, .int (iI (((n : Nat) : Int)))])), (q, .inl (zI g, 2048, .inl (ai (va_up (va_cpy es es 0 1 n) 0 0))))] H := hP
      have hD : va_D A [(h, .inr (1, [.ref q, .int (iI (((n : Nat) : Int)))])), (q, .inl (zI g, 2048, .inl (ai (va_up (va_cpy es es 0 1 n) 0 0))))] := hD
      refine lv_aload_n hx hb d_RG_complement_87 rfl (lv_at hl 0 rfl) ?_
      refine lv_dup hx hb d_RG_complement_88 rfl ?_
      refine va_get (D := g.1) (ci := 1) (v := .int (iI (((n : Nat) : Int)))) (C := R_RG) (T := F_RG) (N := 2) hx hb ht i_RG hown hK hP 0 rfl rfl 1 (by decide) (ht _ k_94) (fun _ h9 => h9) rfl d_RG_complement_89 ?_
      refine lv_iconst (v := iI 1) hx hb d_RG_complement_92 rfl ?_
      refine ix_iadd hx hb d_RG_complement_93 ?_
      refine va_put (D := g.1) (ci := 1) (v := .int (iI ((((n : Nat) : Int)) + 1))) (ty := .int) (C := R_RG) (T := F_RG) (N := 2) hx hb ht i_RG t_RG t_RG_ok n_RG hown hK hP hD hS 0 rfl rfl 1 (by decide) (ht _ k_94) (fun _ h9 => h9) rfl (by decide +kernel) rfl rfl (Nat.le_of_ble_eq_true rfl) d_RG_complement_94 (fun H locs hP hD hS => ?_)
      have hP : va_P g.1 classes [(h, .inr (1, [.ref q, .int (iI ((((n : Nat) : Int)) + 1))])), (q, .inl (zI g, 2048, .inl (ai (va_up (va_cpy es es 0 1 n) 0 0))))] H := hP
      have hD : va_D A [(h, .inr (1, [.ref q, .int (iI ((((n : Nat) : Int)) + 1))])), (q, .inl (zI g, 2048, .inl (ai (va_up (va_cpy es es 0 1 n) 0 0))))] := hD
      exact J97 (n + 1) (va_up (va_cpy es es 0 1 n) 0 0) _ _ ls (lv_sub hl [0, 1] rfl) (by exact Or.inr ⟨by omega, rfl, (cmp_u _ 0 0).1, cmp_r es n⟩) (by omega) (by exact fun j hj => by (cases j with | zero => (rw [(cmp_u _ 0 0).1]; omega) | succ j => (rw [cmp_r es n j (by omega)]; exact hbd _ (by omega)))) hP hD hS
    · refine lv_aload_n hx hb d_RG_complement_22 rfl (lv_at hl 0 rfl) ?_
      refine va_get (D := g.1) (ci := 1) (v := .ref q) (C := R_RG) (T := F_RG) (N := 2) hx hb ht i_RG hown hK hP 0 rfl rfl 0 (by decide) (ht _ k_93) (fun _ h9 => h9) rfl d_RG_complement_23 ?_
      refine lv_iconst (v := iI 0) hx hb d_RG_complement_26 rfl ?_
      refine ix_iald hx hb hK hP 1 0 rfl rfl (i := 0) 0 (by omega) d_RG_complement_27 ?_
      have f_8 := hbd 0 (by omega)
      refine ix_if_ne (tgt := 63) hx hb d_RG_complement_28 (by decide) (by omega) (fun c_28 => ?_) (fun c_28 => ?_)
      · refine lv_aload_n hx hb d_RG_complement_63 rfl (lv_at hl 0 rfl) ?_
        refine va_get (D := g.1) (ci := 1) (v := .ref q) (C := R_RG) (T := F_RG) (N := 2) hx hb ht i_RG hown hK hP 0 rfl rfl 0 (by decide) (ht _ k_93) (fun _ h9 => h9) rfl d_RG_complement_64 ?_
        refine lv_iconst (v := iI 0) hx hb d_RG_complement_67 rfl ?_
        refine lv_aload_n hx hb d_RG_complement_68 rfl (lv_at hl 0 rfl) ?_
        refine va_get (D := g.1) (ci := 1) (v := .ref q) (C := R_RG) (T := F_RG) (N := 2) hx hb ht i_RG hown hK hP 0 rfl rfl 0 (by decide) (ht _ k_93) (fun _ h9 => h9) rfl d_RG_complement_69 ?_
        refine lv_iconst (v := iI 1) hx hb d_RG_complement_72 rfl ?_
        refine lv_aload_n hx hb d_RG_complement_73 rfl (lv_at hl 0 rfl) ?_
        refine va_get (D := g.1) (ci := 1) (v := .int (iI (((n : Nat) : Int)))) (C := R_RG) (T := F_RG) (N := 2) hx hb ht i_RG hown hK hP 0 rfl rfl 1 (by decide) (ht _ k_94) (fun _ h9 => h9) rfl d_RG_complement_74 ?_
        refine ix_copyi hx hb (by rw [hml]; exact hl.1.symm) hown (ht _ k_147) (ht _ k_149) (ht _ k_148) (ht _ k_6) hK hP hD hS 1 0 rfl rfl 0 1 n (by omega) (Nat.le_of_ble_eq_true rfl) (Nat.le_of_ble_eq_true rfl) d_RG_complement_77 (fun H locs hP hD hS => ?_)
        have hP : va_P g.1 classes [(h, .inr (1, [.ref q, .int (iI (((n : Nat) : Int)))])), (q, .inl (zI g, 2048, .inl (ai (va_cpy es es 0 1 n))))] H := hP
        have hD : va_D A [(h, .inr (1, [.ref q, .int (iI (((n : Nat) : Int)))])), (q, .inl (zI g, 2048, .inl (ai (va_cpy es es 0 1 n))))] := hD
        refine lv_aload_n hx hb d_RG_complement_80 rfl (lv_at hl 0 rfl) ?_
        refine va_get (D := g.1) (ci := 1) (v := .ref q) (C := R_RG) (T := F_RG) (N := 2) hx hb ht i_RG hown hK hP 0 rfl rfl 0 (by decide) (ht _ k_93) (fun _ h9 => h9) rfl d_RG_complement_81 ?_
        refine lv_iconst (v := iI 0) hx hb d_RG_complement_84 rfl ?_
        refine lv_iconst (v := iI 0) hx hb d_RG_complement_85 rfl ?_
        refine ix_iast hx hb hK hP hD hS 1 0 rfl rfl (i := 0) 0 (by omega) d_RG_complement_86 (fun H locs hP hD hS => ?_)
        have hP : va_P g.1 classes [(h, .inr (1, [.ref q, .int (iI (((n : Nat) : Int)))])), (q, .inl (zI g, 2048, .inl (ai (va_up (va_cpy es es 0 1 n) 0 0))))] H := hP
        have hD : va_D A [(h, .inr (1, [.ref q, .int (iI (((n : Nat) : Int)))])), (q, .inl (zI g, 2048, .inl (ai (va_up (va_cpy es es 0 1 n) 0 0))))] := hD
        refine lv_aload_n hx hb d_RG_complement_87 rfl (lv_at hl 0 rfl) ?_
        refine lv_dup hx hb d_RG_complement_88 rfl ?_
        refine va_get (D := g.1) (ci := 1) (v := .int (iI (((n : Nat) : Int)))) (C := R_RG) (T := F_RG) (N := 2) hx hb ht i_RG hown hK hP 0 rfl rfl 1 (by decide) (ht _ k_94) (fun _ h9 => h9) rfl d_RG_complement_89 ?_
        refine lv_iconst (v := iI 1) hx hb d_RG_complement_92 rfl ?_
        refine ix_iadd hx hb d_RG_complement_93 ?_
        refine va_put (D := g.1) (ci := 1) (v := .int (iI ((((n : Nat) : Int)) + 1))) (ty := .int) (C := R_RG) (T := F_RG) (N := 2) hx hb ht i_RG t_RG t_RG_ok n_RG hown hK hP hD hS 0 rfl rfl 1 (by decide) (ht _ k_94) (fun _ h9 => h9) rfl (by decide +kernel) rfl rfl (Nat.le_of_ble_eq_true rfl) d_RG_complement_94 (fun H locs hP hD hS => ?_)
        have hP : va_P g.1 classes [(h, .inr (1, [.ref q, .int (iI ((((n : Nat) : Int)) + 1))])), (q, .inl (zI g, 2048, .inl (ai (va_up (va_cpy es es 0 1 n) 0 0))))] H := hP
        have hD : va_D A [(h, .inr (1, [.ref q, .int (iI ((((n : Nat) : Int)) + 1))])), (q, .inl (zI g, 2048, .inl (ai (va_up (va_cpy es es 0 1 n) 0 0))))] := hD
        exact J97 (n + 1) (va_up (va_cpy es es 0 1 n) 0 0) _ _ ls (lv_sub hl [0, 1] rfl) (by exact Or.inr ⟨by omega, rfl, (cmp_u _ 0 0).1, cmp_r es n⟩) (by omega) (by exact fun j hj => by (cases j with | zero => (rw [(cmp_u _ 0 0).1]; omega) | succ j => (rw [cmp_r es n j (by omega)]; exact hbd _ (by omega)))) hP hD hS
      · refine lv_aload_n hx hb d_RG_complement_31 rfl (lv_at hl 0 rfl) ?_
        refine va_get (D := g.1) (ci := 1) (v := .ref q) (C := R_RG) (T := F_RG) (N := 2) hx hb ht i_RG hown hK hP 0 rfl rfl 0 (by decide) (ht _ k_93) (fun _ h9 => h9) rfl d_RG_complement_32 ?_
        refine lv_iconst (v := iI 1) hx hb d_RG_complement_35 rfl ?_
        refine lv_aload_n hx hb d_RG_complement_36 rfl (lv_at hl 0 rfl) ?_
        refine va_get (D := g.1) (ci := 1) (v := .ref q) (C := R_RG) (T := F_RG) (N := 2) hx hb ht i_RG hown hK hP 0 rfl rfl 0 (by decide) (ht _ k_93) (fun _ h9 => h9) rfl d_RG_complement_37 ?_
        refine lv_iconst (v := iI 0) hx hb d_RG_complement_40 rfl ?_
        refine lv_aload_n hx hb d_RG_complement_41 rfl (lv_at hl 0 rfl) ?_
        refine va_get (D := g.1) (ci := 1) (v := .int (iI (((n : Nat) : Int)))) (C := R_RG) (T := F_RG) (N := 2) hx hb ht i_RG hown hK hP 0 rfl rfl 1 (by decide) (ht _ k_94) (fun _ h9 => h9) rfl d_RG_complement_42 ?_
        refine lv_iconst (v := iI 1) hx hb d_RG_complement_45 rfl ?_
        refine ix_isub hx hb d_RG_complement_46 ?_
        refine ix_copyi hx hb (by rw [hml]; exact hl.1.symm) hown (ht _ k_147) (ht _ k_149) (ht _ k_148) (ht _ k_6) hK hP hD hS 1 0 rfl rfl 1 0 (n - 1) (by omega) (Nat.le_of_ble_eq_true rfl) (Nat.le_of_ble_eq_true rfl) d_RG_complement_47 (fun H locs hP hD hS => ?_)
        have hP : va_P g.1 classes [(h, .inr (1, [.ref q, .int (iI (((n : Nat) : Int)))])), (q, .inl (zI g, 2048, .inl (ai (va_cpy es es 1 0 (n - 1)))))] H := hP
        have hD : va_D A [(h, .inr (1, [.ref q, .int (iI (((n : Nat) : Int)))])), (q, .inl (zI g, 2048, .inl (ai (va_cpy es es 1 0 (n - 1)))))] := hD
        refine lv_aload_n hx hb d_RG_complement_50 rfl (lv_at hl 0 rfl) ?_
        refine lv_dup hx hb d_RG_complement_51 rfl ?_
        refine va_get (D := g.1) (ci := 1) (v := .int (iI (((n : Nat) : Int)))) (C := R_RG) (T := F_RG) (N := 2) hx hb ht i_RG hown hK hP 0 rfl rfl 1 (by decide) (ht _ k_94) (fun _ h9 => h9) rfl d_RG_complement_52 ?_
        refine lv_iconst (v := iI 1) hx hb d_RG_complement_55 rfl ?_
        refine ix_isub hx hb d_RG_complement_56 ?_
        refine va_put (D := g.1) (ci := 1) (v := .int (iI ((((n : Nat) : Int)) - 1))) (ty := .int) (C := R_RG) (T := F_RG) (N := 2) hx hb ht i_RG t_RG t_RG_ok n_RG hown hK hP hD hS 0 rfl rfl 1 (by decide) (ht _ k_94) (fun _ h9 => h9) rfl (by decide +kernel) rfl rfl (Nat.le_of_ble_eq_true rfl) d_RG_complement_57 (fun H locs hP hD hS => ?_)
        have hP : va_P g.1 classes [(h, .inr (1, [.ref q, .int (iI ((((n : Nat) : Int)) - 1))])), (q, .inl (zI g, 2048, .inl (ai (va_cpy es es 1 0 (n - 1)))))] H := hP
        have hD : va_D A [(h, .inr (1, [.ref q, .int (iI ((((n : Nat) : Int)) - 1))])), (q, .inl (zI g, 2048, .inl (ai (va_cpy es es 1 0 (n - 1)))))] := hD
        refine lv_goto (tgt := 97) hx hb d_RG_complement_60 (by decide) ?_
        rw [show ((n : Nat) : Int) - 1 = ((n - 1 : Nat) : Int) by omega] at hP hD
        exact J97 (n - 1) (va_cpy es es 1 0 (n - 1)) _ _ ls (lv_sub hl [0, 1] rfl) (by exact Or.inl ⟨by omega, c_28, by omega, cmp_l es n⟩) (by omega) (by exact fun j hj => by rw [cmp_l es n j hj]; exact hbd _ (by omega)) hP hD hS
  · exact absurd c_11 (by omega)
