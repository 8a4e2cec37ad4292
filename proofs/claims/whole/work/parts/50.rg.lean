def pw (P : Nat) : Prop := ∃ j, j ≤ 11 ∧ P = 2 ^ j
theorem pw_bd {P : Nat} (h : pw P) : 1 ≤ P ∧ P ≤ 2048 := by
  obtain ⟨j, hj, rfl⟩ := h
  have := Nat.pow_le_pow_right (show 0 < 2 by decide) hj
  exact ⟨Nat.one_le_two_pow, this⟩
theorem pw_half {P : Nat} (h : pw P) : P = 1 ∨ ∃ P', pw P' ∧ P = 2 * P' := by
  obtain ⟨j, hj, rfl⟩ := h
  cases j with
  | zero => exact Or.inl rfl
  | succ j => exact Or.inr ⟨2 ^ j, ⟨j, by omega, rfl⟩, by rw [Nat.pow_succ]; omega⟩
theorem pw_top : pw 2048 := ⟨11, by omega, rfl⟩
/-- the least of the set from c on, or -1 -/
def FF (es : Nat → Int) (n : Nat) (c m : Int) : Prop := ∃ k, Up es n c k ∧ ((k % 2 = 1 ∧ m = c) ∨ (k % 2 = 0 ∧ k < n ∧ m = es k) ∨ (k % 2 = 0 ∧ k = n ∧ m = -1))
theorem FF_eq {es : Nat → Int} {n : Nat} {c m m' : Int} (h : FF es n c m) (h' : FF es n c m') : m = m' := by
  obtain ⟨k, hk, h⟩ := h
  obtain ⟨k', hk', h'⟩ := h'
  have e := Up_eq hk hk'
  subst e
  rcases h with ⟨a, b⟩ | ⟨a, b, d⟩ | ⟨a, b, d⟩ <;> rcases h' with ⟨a', b'⟩ | ⟨a', b', d'⟩ | ⟨a', b', d'⟩ <;> first | omega | (rw [d, d'])
def hit (es : Nat → Int) (es2 : Nat → Int) (n2 : Nat) (i : Nat) : Prop := ∃ m, FF es2 n2 (es (2 * i)) m ∧ 0 ≤ m ∧ m ≤ es (2 * i + 1) - 1
set_option maxHeartbeats 4000000 in
set_option maxRecDepth 100000 in
theorem c_RG_edgesUpTo (l : Launch) (g : zG) (h q : Nat) (n : Nat) (es : Nat → Int) (c : Int) (ha : asc es n) (hn : n ≤ 2048) (hbd : ∀ i, i < n → 0 ≤ es i ∧ es i ≤ 1114112) (hc : -2147483648 ≤ c ∧ c ≤ 2147483647) : Met l y_RG_edgesUpTo w_RG_edgesUpTo (zr 0 0) (zP g [.ref h, .int (iI c)] [(h, .inr (1, [.ref q, .int (iI (((n : Nat) : Int)))])), (q, .inl (zI g, 2048, .inl (ai es)))]) (vp_Si (fun z => ∃ k : Nat, z = iI ((k : Nat) : Int) ∧ Up es n c k)) 0 0 (fun _ => False) := by
  refine Met.ofW (cc := b_RG_edgesUpTo) (maxL := 5) (ret := (some .int)) (by decide) rfl ?_
  intro p e s m args below meth cd s₁ B hml hv
  obtain ⟨hargs, hP, hK, hZ⟩ := hv
  have hx := B.exec
  have hb := B.bytes
  have hr := B.returns
  have ht : ∀ w ∈ lw_ok, w.before args s = true := fun w h => atoms_spec (ws := w_RG_edgesUpTo) B.pre w (List.mem_cons_of_mem _ h)
  have hown : s.vm.findClass R_RG = some m.cls := findClass_of_methodNamed B.named
  have hlocks := B.notSynchronized
  have hS : va_S (fun _ => False) s.heap s.heap [] := va_S.rf
  generalize hQ : MQ below _ args s 0 0 _ = Q
  have hl := lv_entry ([.ref h, .int (iI c)]) (n := 5) (Nat.le_of_ble_eq_true rfl)
  rw [show entryFrame m args 5 = entryFrame m ([.ref h, .int (iI c)] : List Value).toArray 5 by rw [hargs], lg_entry_eq]
  generalize (lg_sl ([.ref h, .int (iI c)]) ++ List.replicate (5 - (lg_sl ([.ref h, .int (iI c)])).length) Slot.unset).toArray = ls at hl ⊢
  have hl : lv_has ls 5 [(0, .ref h), (1, .int (iI c))] := hl
  obtain ⟨k, hk⟩ := Up_ex c ha
  have hkn := hk.1
  have J6 : ∀ fu : Nat, ∀ (pa : Nat) (sp : Int) (ls : Array Slot), sp.toNat < fu → lv_has ls 5 [(0, .ref h), (1, .int (iI c)), (2, .int (iI (((pa : Nat) : Int)))), (3, .int (iI sp))] → (pa ≤ k) → ((sp = 0 ∧ k = pa) ∨ (∃ P : Nat, pw P ∧ sp = ((P : Nat) : Int) ∧ k < pa + 2 * P)) → W p l e (headSpec w_RG_edgesUpTo (zr 0 0)).room s m args below meth cd s.heap [] 0 0 Q (F0 m 6 ls []) := by
    intro fu
    induction fu with
    | zero => exact fun _ _ _ hfu _ _ _ => absurd hfu (Nat.not_lt_zero _)
    | succ fu ih =>
      intro pa sp ls hfu hl h1 h2
      have hsp : 0 ≤ sp ∧ sp ≤ 2048 := by
        rcases h2 with ⟨e, -⟩ | ⟨P, hp, e, -⟩
        · omega
        · have := pw_bd hp; omega
      refine lv_iload_n hx hb d_RG_edgesUpTo_6 rfl (lv_at hl 3 rfl) ?_
      refine ix_if_le (tgt := 47) hx hb d_RG_edgesUpTo_7 (by decide) (by omega) (fun c_7 => ?_) (fun c_7 => ?_)
      · have e9 : k = pa := by
          rcases h2 with ⟨-, e⟩ | ⟨P, hp, e, -⟩
          · exact e
          · have := pw_bd hp; omega
        refine lv_iload_n hx hb d_RG_edgesUpTo_47 rfl (lv_at hl 2 rfl) ?_
        subst hQ
        exact W.iret (v := iI (((pa : Nat) : Int))) hx hb hr (fun t h9 hW => ⟨_, rfl, ⟨pa, rfl, by rw [← e9]; exact hk⟩, h9⟩) (fun _ h9 => by cases h9) d_RG_edgesUpTo_48
      · rcases h2 with ⟨e0, -⟩ | ⟨P, hp, rfl, h2⟩
        · exact absurd e0 (by omega)
        have hpb := pw_bd hp
        refine lv_iload_n hx hb d_RG_edgesUpTo_10 rfl (lv_at hl 2 rfl) ?_
        refine lv_iload_n hx hb d_RG_edgesUpTo_11 rfl (lv_at hl 3 rfl) ?_
        refine ix_iadd hx hb d_RG_edgesUpTo_12 ?_
        refine lv_istore (lv' := [(4, .int (iI ((((pa : Nat) : Int)) + (((P : Nat) : Int))))), (0, .ref h), (1, .int (iI c)), (2, .int (iI (((pa : Nat) : Int)))), (3, .int (iI (((P : Nat) : Int))))]) hx hb d_RG_edgesUpTo_13 hl (by decide) rfl (fun ls hl => ?_)
        refine lv_iload hx hb d_RG_edgesUpTo_15 (lv_at hl 0 rfl) ?_
        refine lv_aload_n hx hb d_RG_edgesUpTo_17 rfl (lv_at hl 1 rfl) ?_
        refine va_get (D := g.1) (ci := 1) (v := .int (iI (((n : Nat) : Int)))) (C := R_RG) (T := F_RG) (N := 2) hx hb ht i_RG hown hK hP 0 rfl rfl 1 (by decide) (ht _ k_94) (fun _ h9 => h9) rfl d_RG_edgesUpTo_18 ?_
        refine ix_icmp_gt (tgt := 40) hx hb d_RG_edgesUpTo_21 (by decide) (by omega) (fun c_21 => ?_) (fun c_21 => ?_)
        · refine lv_iload_n hx hb d_RG_edgesUpTo_40 rfl (lv_at hl 4 rfl) ?_
          refine lv_iconst (v := iI 2) hx hb d_RG_edgesUpTo_41 rfl ?_
          refine ix_idiv hx hb d_RG_edgesUpTo_42 (by omega) ?_
          refine lv_istore_n (lv' := [(3, .int (iI ((((P : Nat) : Int)) / 2))), (4, .int (iI ((((pa : Nat) : Int)) + (((P : Nat) : Int))))), (0, .ref h), (1, .int (iI c)), (2, .int (iI (((pa : Nat) : Int))))]) hx hb d_RG_edgesUpTo_43 rfl hl (by decide) rfl (fun ls hl => ?_)
          refine lv_goto (tgt := 6) hx hb d_RG_edgesUpTo_44 (by decide) ?_
          exact ih pa ((((P : Nat) : Int)) / 2) ls (by omega) (lv_sub hl [2, 3, 4, 0] rfl) (by omega) (by exact (pw_half hp).elim (fun e => Or.inl ⟨by omega, by omega⟩) (fun ⟨P2, hp2, e⟩ => Or.inr ⟨P2, hp2, by omega, by omega⟩))
        · refine lv_aload_n hx hb d_RG_edgesUpTo_24 rfl (lv_at hl 1 rfl) ?_
          refine va_get (D := g.1) (ci := 1) (v := .ref q) (C := R_RG) (T := F_RG) (N := 2) hx hb ht i_RG hown hK hP 0 rfl rfl 0 (by decide) (ht _ k_93) (fun _ h9 => h9) rfl d_RG_edgesUpTo_25 ?_
          refine lv_iload hx hb d_RG_edgesUpTo_28 (lv_at hl 0 rfl) ?_
          refine lv_iconst (v := iI 1) hx hb d_RG_edgesUpTo_30 rfl ?_
          refine ix_isub hx hb d_RG_edgesUpTo_31 ?_
          refine ix_iald hx hb hK hP 1 0 rfl rfl (i := (((((pa : Nat) : Int)) + (((P : Nat) : Int))) - 1)) ((pa + P) - 1) (by omega) d_RG_edgesUpTo_32 ?_
          have f_1 := hbd ((pa + P) - 1) (by omega)
          refine lv_iload_n hx hb d_RG_edgesUpTo_33 rfl (lv_at hl 2 rfl) ?_
          refine ix_icmp_gt (tgt := 40) hx hb d_RG_edgesUpTo_34 (by decide) (by omega) (fun c_34 => ?_) (fun c_34 => ?_)
          · have u : ¬ pa + P ≤ k := fun z => absurd ((Up_step ha hk (t := pa + P) (by omega) (by omega)).mpr z) (by omega)
            refine lv_iload_n hx hb d_RG_edgesUpTo_40 rfl (lv_at hl 4 rfl) ?_
            refine lv_iconst (v := iI 2) hx hb d_RG_edgesUpTo_41 rfl ?_
            refine ix_idiv hx hb d_RG_edgesUpTo_42 (by omega) ?_
            refine lv_istore_n (lv' := [(3, .int (iI ((((P : Nat) : Int)) / 2))), (4, .int (iI ((((pa : Nat) : Int)) + (((P : Nat) : Int))))), (0, .ref h), (1, .int (iI c)), (2, .int (iI (((pa : Nat) : Int))))]) hx hb d_RG_edgesUpTo_43 rfl hl (by decide) rfl (fun ls hl => ?_)
            refine lv_goto (tgt := 6) hx hb d_RG_edgesUpTo_44 (by decide) ?_
            exact ih pa ((((P : Nat) : Int)) / 2) ls (by omega) (lv_sub hl [2, 3, 4, 0] rfl) (by omega) (by exact (pw_half hp).elim (fun e => Or.inl ⟨by omega, by omega⟩) (fun ⟨P2, hp2, e⟩ => Or.inr ⟨P2, hp2, by omega, by omega⟩))
          · have u := (Up_step ha hk (t := pa + P) (by omega) (by omega)).mp c_34
            refine lv_iload hx hb d_RG_edgesUpTo_37 (lv_at hl 0 rfl) ?_
            refine lv_istore_n (lv' := [(2, .int (iI ((((pa : Nat) : Int)) + (((P : Nat) : Int))))), (4, .int (iI ((((pa : Nat) : Int)) + (((P : Nat) : Int))))), (0, .ref h), (1, .int (iI c)), (3, .int (iI (((P : Nat) : Int))))]) hx hb d_RG_edgesUpTo_39 rfl hl (by decide) rfl (fun ls hl => ?_)
            refine lv_iload_n hx hb d_RG_edgesUpTo_40 rfl (lv_at hl 4 rfl) ?_
            refine lv_iconst (v := iI 2) hx hb d_RG_edgesUpTo_41 rfl ?_
            refine ix_idiv hx hb d_RG_edgesUpTo_42 (by omega) ?_
            refine lv_istore_n (lv' := [(3, .int (iI ((((P : Nat) : Int)) / 2))), (2, .int (iI ((((pa : Nat) : Int)) + (((P : Nat) : Int))))), (4, .int (iI ((((pa : Nat) : Int)) + (((P : Nat) : Int))))), (0, .ref h), (1, .int (iI c))]) hx hb d_RG_edgesUpTo_43 rfl hl (by decide) rfl (fun ls hl => ?_)
            refine lv_goto (tgt := 6) hx hb d_RG_edgesUpTo_44 (by decide) ?_
            exact ih (pa + P) ((((P : Nat) : Int)) / 2) ls (by omega) (lv_sub hl [3, 4, 1, 0] rfl) (by omega) (by exact (pw_half hp).elim (fun e => Or.inl ⟨by omega, by omega⟩) (fun ⟨P2, hp2, e⟩ => Or.inr ⟨P2, hp2, by omega, by omega⟩))
  refine lv_iconst (v := iI 0) hx hb d_RG_edgesUpTo_0 rfl ?_
  refine lv_istore_n (lv' := [(2, .int (iI 0)), (0, .ref h), (1, .int (iI c))]) hx hb d_RG_edgesUpTo_1 rfl hl (by decide) rfl (fun ls hl => ?_)
  refine lv_sipush (v := iI 2048) hx hb d_RG_edgesUpTo_2 (by decide) ?_
  refine lv_istore_n (lv' := [(3, .int (iI 2048)), (2, .int (iI 0)), (0, .ref h), (1, .int (iI c))]) hx hb d_RG_edgesUpTo_5 rfl hl (by decide) rfl (fun ls hl => ?_)
  exact J6 (_ + 1) 0 2048 ls (Nat.lt_succ_self _) (lv_sub hl [2, 3, 1, 0] rfl) (by omega) (by exact Or.inr ⟨2048, pw_top, rfl, by omega⟩)
set_option maxHeartbeats 4000000 in
set_option maxRecDepth 100000 in
theorem c_RG_rangeCount (l : Launch) (g : zG) (h q : Nat) (n : Nat) (es : Nat → Int) (hn : n ≤ 2048) : Met l y_RG_rangeCount w_RG_rangeCount (zr 0 0) (zP g [.ref h] [(h, .inr (1, [.ref q, .int (iI (((n : Nat) : Int)))])), (q, .inl (zI g, 2048, .inl (ai es)))]) (vp_Si (fun z => z = iI ((n / 2 : Nat) : Int))) 0 0 (fun _ => False) := by
  refine Met.ofW (cc := b_RG_rangeCount) (maxL := 1) (ret := (some .int)) (by decide) rfl ?_
  intro p e s m args below meth cd s₁ B hml hv
  obtain ⟨hargs, hP, hK, hZ⟩ := hv
  have hx := B.exec
  have hb := B.bytes
  have hr := B.returns
  have ht : ∀ w ∈ lw_ok, w.before args s = true := fun w h => atoms_spec (ws := w_RG_rangeCount) B.pre w (List.mem_cons_of_mem _ h)
  have hown : s.vm.findClass R_RG = some m.cls := findClass_of_methodNamed B.named
  have hlocks := B.notSynchronized
  have hS : va_S (fun _ => False) s.heap s.heap [] := va_S.rf
  generalize hQ : MQ below _ args s 0 0 _ = Q
  have hl := lv_entry ([.ref h]) (n := 1) (Nat.le_of_ble_eq_true rfl)
  rw [show entryFrame m args 1 = entryFrame m ([.ref h] : List Value).toArray 1 by rw [hargs], lg_entry_eq]
  generalize (lg_sl ([.ref h]) ++ List.replicate (1 - (lg_sl ([.ref h])).length) Slot.unset).toArray = ls at hl ⊢
  have hl : lv_has ls 1 [(0, .ref h)] := hl
  refine lv_aload_n hx hb d_RG_rangeCount_0 rfl (lv_at hl 0 rfl) ?_
  refine va_get (D := g.1) (ci := 1) (v := .int (iI (((n : Nat) : Int)))) (C := R_RG) (T := F_RG) (N := 2) hx hb ht i_RG hown hK hP 0 rfl rfl 1 (by decide) (ht _ k_94) (fun _ h9 => h9) rfl d_RG_rangeCount_1 ?_
  refine lv_iconst (v := iI 2) hx hb d_RG_rangeCount_4 rfl ?_
  refine ix_idiv hx hb d_RG_rangeCount_5 (by omega) ?_
  subst hQ
  exact W.iret (v := iI ((((n : Nat) : Int)) / 2)) hx hb hr (fun t h9 hW => ⟨_, rfl, congrArg iI (by omega), h9⟩) (fun _ h9 => by cases h9) d_RG_rangeCount_6
set_option maxHeartbeats 4000000 in
set_option maxRecDepth 100000 in
theorem c_RG_lowOf (l : Launch) (g : zG) (h q : Nat) (n : Nat) (es : Nat → Int) (i : Nat) (hi : 2 * i < 2048) : Met l y_RG_lowOf w_RG_lowOf (zr 0 0) (zP g [.ref h, .int (iI (((i : Nat) : Int)))] [(h, .inr (1, [.ref q, .int (iI (((n : Nat) : Int)))])), (q, .inl (zI g, 2048, .inl (ai es)))]) (vp_Si (fun z => z = iI (es (2 * i)))) 0 0 (fun _ => False) := by
  refine Met.ofW (cc := b_RG_lowOf) (maxL := 2) (ret := (some .int)) (by decide) rfl ?_
  intro p e s m args below meth cd s₁ B hml hv
  obtain ⟨hargs, hP, hK, hZ⟩ := hv
  have hx := B.exec
  have hb := B.bytes
  have hr := B.returns
  have ht : ∀ w ∈ lw_ok, w.before args s = true := fun w h => atoms_spec (ws := w_RG_lowOf) B.pre w (List.mem_cons_of_mem _ h)
  have hown : s.vm.findClass R_RG = some m.cls := findClass_of_methodNamed B.named
  have hlocks := B.notSynchronized
  have hS : va_S (fun _ => False) s.heap s.heap [] := va_S.rf
  generalize hQ : MQ below _ args s 0 0 _ = Q
  have hl := lv_entry ([.ref h, .int (iI (((i : Nat) : Int)))]) (n := 2) (Nat.le_of_ble_eq_true rfl)
  rw [show entryFrame m args 2 = entryFrame m ([.ref h, .int (iI (((i : Nat) : Int)))] : List Value).toArray 2 by rw [hargs], lg_entry_eq]
  generalize (lg_sl ([.ref h, .int (iI (((i : Nat) : Int)))]) ++ List.replicate (2 - (lg_sl ([.ref h, .int (iI (((i : Nat) : Int)))])).length) Slot.unset).toArray = ls at hl ⊢
  have hl : lv_has ls 2 [(0, .ref h), (1, .int (iI (((i : Nat) : Int))))] := hl
  refine lv_aload_n hx hb d_RG_lowOf_0 rfl (lv_at hl 0 rfl) ?_
  refine va_get (D := g.1) (ci := 1) (v := .ref q) (C := R_RG) (T := F_RG) (N := 2) hx hb ht i_RG hown hK hP 0 rfl rfl 0 (by decide) (ht _ k_93) (fun _ h9 => h9) rfl d_RG_lowOf_1 ?_
  refine lv_iconst (v := iI 2) hx hb d_RG_lowOf_4 rfl ?_
  refine lv_iload_n hx hb d_RG_lowOf_5 rfl (lv_at hl 1 rfl) ?_
  refine ix_imul hx hb d_RG_lowOf_6 ?_
  refine ix_iald hx hb hK hP 1 0 rfl rfl (i := (2 * (((i : Nat) : Int)))) (2 * i) (by omega) d_RG_lowOf_7 ?_
  subst hQ
  exact W.iret (v := iI (es (2 * i))) hx hb hr (fun t h9 hW => ⟨_, rfl, rfl, h9⟩) (fun _ h9 => by cases h9) d_RG_lowOf_8
set_option maxHeartbeats 4000000 in
set_option maxRecDepth 100000 in
theorem c_RG_highOf (l : Launch) (g : zG) (h q : Nat) (n : Nat) (es : Nat → Int) (i : Nat) (hi : 2 * i + 1 < 2048) : Met l y_RG_highOf w_RG_highOf (zr 0 0) (zP g [.ref h, .int (iI (((i : Nat) : Int)))] [(h, .inr (1, [.ref q, .int (iI (((n : Nat) : Int)))])), (q, .inl (zI g, 2048, .inl (ai es)))]) (vp_Si (fun z => z = iI (es (2 * i + 1) - 1))) 0 0 (fun _ => False) := by
  refine Met.ofW (cc := b_RG_highOf) (maxL := 2) (ret := (some .int)) (by decide) rfl ?_
  intro p e s m args below meth cd s₁ B hml hv
  obtain ⟨hargs, hP, hK, hZ⟩ := hv
  have hx := B.exec
  have hb := B.bytes
  have hr := B.returns
  have ht : ∀ w ∈ lw_ok, w.before args s = true := fun w h => atoms_spec (ws := w_RG_highOf) B.pre w (List.mem_cons_of_mem _ h)
  have hown : s.vm.findClass R_RG = some m.cls := findClass_of_methodNamed B.named
  have hlocks := B.notSynchronized
  have hS : va_S (fun _ => False) s.heap s.heap [] := va_S.rf
  generalize hQ : MQ below _ args s 0 0 _ = Q
  have hl := lv_entry ([.ref h, .int (iI (((i : Nat) : Int)))]) (n := 2) (Nat.le_of_ble_eq_true rfl)
  rw [show entryFrame m args 2 = entryFrame m ([.ref h, .int (iI (((i : Nat) : Int)))] : List Value).toArray 2 by rw [hargs], lg_entry_eq]
  generalize (lg_sl ([.ref h, .int (iI (((i : Nat) : Int)))]) ++ List.replicate (2 - (lg_sl ([.ref h, .int (iI (((i : Nat) : Int)))])).length) Slot.unset).toArray = ls at hl ⊢
  have hl : lv_has ls 2 [(0, .ref h), (1, .int (iI (((i : Nat) : Int))))] := hl
  refine lv_aload_n hx hb d_RG_highOf_0 rfl (lv_at hl 0 rfl) ?_
  refine va_get (D := g.1) (ci := 1) (v := .ref q) (C := R_RG) (T := F_RG) (N := 2) hx hb ht i_RG hown hK hP 0 rfl rfl 0 (by decide) (ht _ k_93) (fun _ h9 => h9) rfl d_RG_highOf_1 ?_
  refine lv_iconst (v := iI 2) hx hb d_RG_highOf_4 rfl ?_
  refine lv_iload_n hx hb d_RG_highOf_5 rfl (lv_at hl 1 rfl) ?_
  refine ix_imul hx hb d_RG_highOf_6 ?_
  refine lv_iconst (v := iI 1) hx hb d_RG_highOf_7 rfl ?_
  refine ix_iadd hx hb d_RG_highOf_8 ?_
  refine ix_iald hx hb hK hP 1 0 rfl rfl (i := ((2 * (((i : Nat) : Int))) + 1)) ((2 * i) + 1) (by omega) d_RG_highOf_9 ?_
  refine lv_iconst (v := iI 1) hx hb d_RG_highOf_10 rfl ?_
  refine ix_isub hx hb d_RG_highOf_11 ?_
  subst hQ
  exact W.iret (v := iI ((es ((2 * i) + 1)) - 1)) hx hb hr (fun t h9 hW => ⟨_, rfl, rfl, h9⟩) (fun _ h9 => by cases h9) d_RG_highOf_12
set_option maxHeartbeats 4000000 in
set_option maxRecDepth 100000 in
theorem c_RG_memberCount (l : Launch) (g : zG) (h q : Nat) (n : Nat) (es : Nat → Int) (ha : asc es n) (hn : n ≤ 2048) (hbd : ∀ i, i < n → 0 ≤ es i ∧ es i ≤ 1114112) : Met l y_RG_memberCount w_RG_memberCount (zr 0 0) (zP g [.ref h] [(h, .inr (1, [.ref q, .int (iI (((n : Nat) : Int)))])), (q, .inl (zI g, 2048, .inl (ai es)))]) (vp_Si (fun z => z = iI (msum es (n / 2)))) 0 0 (fun _ => False) := by
  refine Met.ofW (cc := b_RG_memberCount) (maxL := 3) (ret := (some .int)) (by decide) rfl ?_
  intro p e s m args below meth cd s₁ B hml hv
  obtain ⟨hargs, hP, hK, hZ⟩ := hv
  have hx := B.exec
  have hb := B.bytes
  have hr := B.returns
  have ht : ∀ w ∈ lw_ok, w.before args s = true := fun w h => atoms_spec (ws := w_RG_memberCount) B.pre w (List.mem_cons_of_mem _ h)
  have hown : s.vm.findClass R_RG = some m.cls := findClass_of_methodNamed B.named
  have hlocks := B.notSynchronized
  have hS : va_S (fun _ => False) s.heap s.heap [] := va_S.rf
  generalize hQ : MQ below _ args s 0 0 _ = Q
  have hl := lv_entry ([.ref h]) (n := 3) (Nat.le_of_ble_eq_true rfl)
  rw [show entryFrame m args 3 = entryFrame m ([.ref h] : List Value).toArray 3 by rw [hargs], lg_entry_eq]
  generalize (lg_sl ([.ref h]) ++ List.replicate (3 - (lg_sl ([.ref h])).length) Slot.unset).toArray = ls at hl ⊢
  have hl : lv_has ls 3 [(0, .ref h)] := hl
  have J4 : ∀ fu : Nat, ∀ (j : Nat) (ls : Array Slot), n - 2 * j < fu → lv_has ls 3 [(0, .ref h), (1, .int (iI (msum es j))), (2, .int (iI (((2 * j : Nat) : Int))))] → (2 * j ≤ n) → W p l e (headSpec w_RG_memberCount (zr 0 0)).room s m args below meth cd s.heap [] 0 0 Q (F0 m 4 ls []) := by
    intro fu
    induction fu with
    | zero => exact fun _ _ hfu _ _ => absurd hfu (Nat.not_lt_zero _)
    | succ fu ih =>
      intro j ls hfu hl h1
      refine lv_iload_n hx hb d_RG_memberCount_4 rfl (lv_at hl 2 rfl) ?_
      refine lv_iconst (v := iI 1) hx hb d_RG_memberCount_5 rfl ?_
      refine ix_iadd hx hb d_RG_memberCount_6 ?_
      refine lv_aload_n hx hb d_RG_memberCount_7 rfl (lv_at hl 0 rfl) ?_
      refine va_get (D := g.1) (ci := 1) (v := .int (iI (((n : Nat) : Int)))) (C := R_RG) (T := F_RG) (N := 2) hx hb ht i_RG hown hK hP 0 rfl rfl 1 (by decide) (ht _ k_94) (fun _ h9 => h9) rfl d_RG_memberCount_8 ?_
      refine ix_icmp_ge (tgt := 38) hx hb d_RG_memberCount_11 (by decide) (by omega) (fun c_11 => ?_) (fun c_11 => ?_)
      · have e9 : j = n / 2 := by omega
        refine lv_iload_n hx hb d_RG_memberCount_38 rfl (lv_at hl 1 rfl) ?_
        subst hQ
        exact W.iret (v := iI (msum es j)) hx hb hr (fun t h9 hW => ⟨_, rfl, by rw [e9], h9⟩) (fun _ h9 => by cases h9) d_RG_memberCount_39
      · refine lv_iload_n hx hb d_RG_memberCount_14 rfl (lv_at hl 1 rfl) ?_
        refine lv_aload_n hx hb d_RG_memberCount_15 rfl (lv_at hl 0 rfl) ?_
        refine va_get (D := g.1) (ci := 1) (v := .ref q) (C := R_RG) (T := F_RG) (N := 2) hx hb ht i_RG hown hK hP 0 rfl rfl 0 (by decide) (ht _ k_93) (fun _ h9 => h9) rfl d_RG_memberCount_16 ?_
        refine lv_iload_n hx hb d_RG_memberCount_19 rfl (lv_at hl 2 rfl) ?_
        refine lv_iconst (v := iI 1) hx hb d_RG_memberCount_20 rfl ?_
        refine ix_iadd hx hb d_RG_memberCount_21 ?_
        refine ix_iald hx hb hK hP 1 0 rfl rfl (i := ((((2 * j : Nat) : Int)) + 1)) ((2 * j) + 1) (by omega) d_RG_memberCount_22 ?_
        have f_2 := hbd ((2 * j) + 1) (by omega)
        refine lv_aload_n hx hb d_RG_memberCount_23 rfl (lv_at hl 0 rfl) ?_
        refine va_get (D := g.1) (ci := 1) (v := .ref q) (C := R_RG) (T := F_RG) (N := 2) hx hb ht i_RG hown hK hP 0 rfl rfl 0 (by decide) (ht _ k_93) (fun _ h9 => h9) rfl d_RG_memberCount_24 ?_
        refine lv_iload_n hx hb d_RG_memberCount_27 rfl (lv_at hl 2 rfl) ?_
        refine ix_iald hx hb hK hP 1 0 rfl rfl (i := (((2 * j : Nat) : Int))) (2 * j) (by omega) d_RG_memberCount_28 ?_
        have f_3 := hbd (2 * j) (by omega)
        refine ix_isub hx hb d_RG_memberCount_29 ?_
        refine ix_iadd hx hb d_RG_memberCount_30 ?_
        refine lv_istore_n (lv' := [(1, .int (iI ((msum es j) + ((es ((2 * j) + 1)) - (es (2 * j)))))), (0, .ref h), (2, .int (iI (((2 * j : Nat) : Int))))]) hx hb d_RG_memberCount_31 rfl hl (by decide) rfl (fun ls hl => ?_)
        refine lv_iinc (v := iI ((((2 * j : Nat) : Int)) + 2)) (lv' := [(2, .int (iI ((((2 * j : Nat) : Int)) + 2))), (1, .int (iI ((msum es j) + ((es ((2 * j) + 1)) - (es (2 * j)))))), (0, .ref h)]) hx hb d_RG_memberCount_32 hl (k := 2) rfl (iI_add _ _) (by decide) rfl (fun ls hl => ?_)
        refine lv_goto (tgt := 4) hx hb d_RG_memberCount_35 (by decide) ?_
        exact ih (j + 1) ls (by omega) (lv_sub hl [2, 1, 0] rfl) (by omega)
  refine lv_iconst (v := iI 0) hx hb d_RG_memberCount_0 rfl ?_
  refine lv_istore_n (lv' := [(1, .int (iI 0)), (0, .ref h)]) hx hb d_RG_memberCount_1 rfl hl (by decide) rfl (fun ls hl => ?_)
  refine lv_iconst (v := iI 0) hx hb d_RG_memberCount_2 rfl ?_
  refine lv_istore_n (lv' := [(2, .int (iI 0)), (1, .int (iI 0)), (0, .ref h)]) hx hb d_RG_memberCount_3 rfl hl (by decide) rfl (fun ls hl => ?_)
  exact J4 (_ + 1) 0 ls (Nat.lt_succ_self _) (lv_sub hl [2, 1, 0] rfl) (by omega)
set_option maxHeartbeats 4000000 in
set_option maxRecDepth 100000 in
theorem c_RG_contains (l : Launch) (g : zG) (h q : Nat) (n : Nat) (es : Nat → Int) (c : Int) (ha : asc es n) (hn : n ≤ 2048) (hbd : ∀ i, i < n → 0 ≤ es i ∧ es i ≤ 1114112) (hc : -2147483648 ≤ c ∧ c ≤ 2147483647) : Met l y_RG_contains w_RG_contains (zr 1 24) (zP g [.ref h, .int (iI c)] [(h, .inr (1, [.ref q, .int (iI (((n : Nat) : Int)))])), (q, .inl (zI g, 2048, .inl (ai es)))]) (vp_Si (fun z => ((∃ k, Up es n c k ∧ k % 2 = 1) ∧ z = iI 1) ∨ (¬ (∃ k, Up es n c k ∧ k % 2 = 1) ∧ z = iI 0))) 0 0 (fun _ => False) := by
  refine Met.ofW (cc := b_RG_contains) (maxL := 2) (ret := (some .boolean)) (by decide) rfl ?_
  intro p e s m args below meth cd s₁ B hml hv
  obtain ⟨hargs, hP, hK, hZ⟩ := hv
  have hx := B.exec
  have hb := B.bytes
  have hr := B.returns
  have ht : ∀ w ∈ lw_ok, w.before args s = true := fun w h => atoms_spec (ws := w_RG_contains) B.pre w (List.mem_cons_of_mem _ h)
  have hown : s.vm.findClass R_RG = some m.cls := findClass_of_methodNamed B.named
  have hlocks := B.notSynchronized
  have hS : va_S (fun _ => False) s.heap s.heap [] := va_S.rf
  generalize hQ : MQ below _ args s 0 0 _ = Q
  have hl := lv_entry ([.ref h, .int (iI c)]) (n := 2) (Nat.le_of_ble_eq_true rfl)
  rw [show entryFrame m args 2 = entryFrame m ([.ref h, .int (iI c)] : List Value).toArray 2 by rw [hargs], lg_entry_eq]
  generalize (lg_sl ([.ref h, .int (iI c)]) ++ List.replicate (2 - (lg_sl ([.ref h, .int (iI c)])).length) Slot.unset).toArray = ls at hl ⊢
  have hl : lv_has ls 2 [(0, .ref h), (1, .int (iI c))] := hl
  refine lv_aload_n hx hb d_RG_contains_0 rfl (lv_at hl 0 rfl) ?_
  refine lv_iload_n hx hb d_RG_contains_1 rfl (lv_at hl 1 rfl) ?_
  refine zcV (ci := 1) (q0 := 0) (As := [.int (iI c)]) (rest := []) ⟨hx, hb, hml, hown, ht⟩ v_RG_17 (c_RG_edgesUpTo l g h q n es c ha hn hbd (by omega)) ⟨Nat.le_of_ble_eq_true rfl, Nat.le_of_ble_eq_true rfl⟩ ⟨Nat.zero_le _, Nat.zero_le _⟩ hK hZ hS hP rfl rfl rfl rfl hl.1 rfl (Nat.le_of_ble_eq_true rfl) d_RG_contains_2 (fun r_2 h_2 => ?_)
  obtain ⟨k2, rfl, hk2⟩ := h_2
  have hkn2 := hk2.1
  refine lv_iconst (v := iI 2) hx hb d_RG_contains_5 rfl ?_
  refine ix_irem hx hb d_RG_contains_6 (by omega) ?_
  refine lv_iconst (v := iI 1) hx hb d_RG_contains_7 rfl ?_
  refine ix_icmp_ne (tgt := 15) hx hb d_RG_contains_8 (by decide) (by omega) (fun c_8 => ?_) (fun c_8 => ?_)
  · refine lv_iconst (v := iI 0) hx hb d_RG_contains_15 rfl ?_
    subst hQ
    exact W.zret (v := iI 0) hx hb hr (by decide) (fun t h9 hW => ⟨_, rfl, Or.inr ⟨fun ⟨k9, a9, b9⟩ => by have := Up_eq a9 hk2; omega, rfl⟩, h9⟩) (fun _ h9 => by cases h9) d_RG_contains_16
  · refine lv_iconst (v := iI 1) hx hb d_RG_contains_11 rfl ?_
    refine lv_goto (tgt := 16) hx hb d_RG_contains_12 (by decide) ?_
    subst hQ
    exact W.zret (v := iI 1) hx hb hr (by decide) (fun t h9 hW => ⟨_, rfl, Or.inl ⟨⟨k2, hk2, by omega⟩, rfl⟩, h9⟩) (fun _ h9 => by cases h9) d_RG_contains_16
set_option maxHeartbeats 4000000 in
set_option maxRecDepth 100000 in
theorem c_RG_firstFrom (l : Launch) (g : zG) (h q : Nat) (n : Nat) (es : Nat → Int) (c : Int) (ha : asc es n) (hn : n ≤ 2048) (hbd : ∀ i, i < n → 0 ≤ es i ∧ es i ≤ 1114112) (hc : -2147483648 ≤ c ∧ c ≤ 2147483647) : Met l y_RG_firstFrom w_RG_firstFrom (zr 1 24) (zP g [.ref h, .int (iI c)] [(h, .inr (1, [.ref q, .int (iI (((n : Nat) : Int)))])), (q, .inl (zI g, 2048, .inl (ai es)))]) (vp_Si (fun z => ∃ m9 : Int, z = iI m9 ∧ FF es n c m9 ∧ -2147483648 ≤ m9 ∧ m9 ≤ 2147483647)) 0 0 (fun _ => False) := by
  refine Met.ofW (cc := b_RG_firstFrom) (maxL := 3) (ret := (some .int)) (by decide) rfl ?_
  intro p e s m args below meth cd s₁ B hml hv
  obtain ⟨hargs, hP, hK, hZ⟩ := hv
  have hx := B.exec
  have hb := B.bytes
  have hr := B.returns
  have ht : ∀ w ∈ lw_ok, w.before args s = true := fun w h => atoms_spec (ws := w_RG_firstFrom) B.pre w (List.mem_cons_of_mem _ h)
  have hown : s.vm.findClass R_RG = some m.cls := findClass_of_methodNamed B.named
  have hlocks := B.notSynchronized
  have hS : va_S (fun _ => False) s.heap s.heap [] := va_S.rf
  generalize hQ : MQ below _ args s 0 0 _ = Q
  have hl := lv_entry ([.ref h, .int (iI c)]) (n := 3) (Nat.le_of_ble_eq_true rfl)
  rw [show entryFrame m args 3 = entryFrame m ([.ref h, .int (iI c)] : List Value).toArray 3 by rw [hargs], lg_entry_eq]
  generalize (lg_sl ([.ref h, .int (iI c)]) ++ List.replicate (3 - (lg_sl ([.ref h, .int (iI c)])).length) Slot.unset).toArray = ls at hl ⊢
  have hl : lv_has ls 3 [(0, .ref h), (1, .int (iI c))] := hl
  refine lv_aload_n hx hb d_RG_firstFrom_0 rfl (lv_at hl 0 rfl) ?_
  refine lv_iload_n hx hb d_RG_firstFrom_1 rfl (lv_at hl 1 rfl) ?_
  refine zcV (ci := 1) (q0 := 0) (As := [.int (iI c)]) (rest := []) ⟨hx, hb, hml, hown, ht⟩ v_RG_17 (c_RG_edgesUpTo l g h q n es c ha hn hbd (by omega)) ⟨Nat.le_of_ble_eq_true rfl, Nat.le_of_ble_eq_true rfl⟩ ⟨Nat.zero_le _, Nat.zero_le _⟩ hK hZ hS hP rfl rfl rfl rfl hl.1 rfl (Nat.le_of_ble_eq_true rfl) d_RG_firstFrom_2 (fun r_2 h_2 => ?_)
  obtain ⟨k2, rfl, hk2⟩ := h_2
  have hkn2 := hk2.1
  refine lv_istore_n (lv' := [(2, .int (iI (((k2 : Nat) : Int)))), (0, .ref h), (1, .int (iI c))]) hx hb d_RG_firstFrom_5 rfl hl (by decide) rfl (fun ls hl => ?_)
  refine lv_iload_n hx hb d_RG_firstFrom_6 rfl (lv_at hl 0 rfl) ?_
  refine lv_iconst (v := iI 2) hx hb d_RG_firstFrom_7 rfl ?_
  refine ix_irem hx hb d_RG_firstFrom_8 (by omega) ?_
  refine lv_iconst (v := iI 1) hx hb d_RG_firstFrom_9 rfl ?_
  refine ix_icmp_ne (tgt := 15) hx hb d_RG_firstFrom_10 (by decide) (by omega) (fun c_10 => ?_) (fun c_10 => ?_)
  · refine lv_iload_n hx hb d_RG_firstFrom_15 rfl (lv_at hl 0 rfl) ?_
    refine lv_aload_n hx hb d_RG_firstFrom_16 rfl (lv_at hl 1 rfl) ?_
    refine va_get (D := g.1) (ci := 1) (v := .int (iI (((n : Nat) : Int)))) (C := R_RG) (T := F_RG) (N := 2) hx hb ht i_RG hown hK hP 0 rfl rfl 1 (by decide) (ht _ k_94) (fun _ h9 => h9) rfl d_RG_firstFrom_17 ?_
    refine ix_icmp_ge (tgt := 32) hx hb d_RG_firstFrom_20 (by decide) (by omega) (fun c_20 => ?_) (fun c_20 => ?_)
    · refine lv_iconst (v := iI (-1)) hx hb d_RG_firstFrom_32 rfl ?_
      subst hQ
      exact W.iret (v := iI ((-1))) hx hb hr (fun t h9 hW => ⟨_, rfl, ⟨-1, rfl, ⟨k2, hk2, Or.inr (Or.inr ⟨by omega, by omega, rfl⟩)⟩, by omega, by omega⟩, h9⟩) (fun _ h9 => by cases h9) d_RG_firstFrom_33
    · refine lv_aload_n hx hb d_RG_firstFrom_23 rfl (lv_at hl 1 rfl) ?_
      refine va_get (D := g.1) (ci := 1) (v := .ref q) (C := R_RG) (T := F_RG) (N := 2) hx hb ht i_RG hown hK hP 0 rfl rfl 0 (by decide) (ht _ k_93) (fun _ h9 => h9) rfl d_RG_firstFrom_24 ?_
      refine lv_iload_n hx hb d_RG_firstFrom_27 rfl (lv_at hl 0 rfl) ?_
      refine ix_iald hx hb hK hP 1 0 rfl rfl (i := (((k2 : Nat) : Int))) k2 (by omega) d_RG_firstFrom_28 ?_
      have f_4 := hbd k2 (by omega)
      refine lv_goto (tgt := 33) hx hb d_RG_firstFrom_29 (by decide) ?_
      subst hQ
      exact W.iret (v := iI (es k2)) hx hb hr (fun t h9 hW => ⟨_, rfl, ⟨es k2, rfl, ⟨k2, hk2, Or.inr (Or.inl ⟨by omega, by omega, rfl⟩)⟩, by omega, by omega⟩, h9⟩) (fun _ h9 => by cases h9) d_RG_firstFrom_33
  · refine lv_iload_n hx hb d_RG_firstFrom_13 rfl (lv_at hl 2 rfl) ?_
    subst hQ
    exact W.iret (v := iI c) hx hb hr (fun t h9 hW => ⟨_, rfl, ⟨c, rfl, ⟨k2, hk2, Or.inl ⟨by omega, rfl⟩⟩, by omega, by omega⟩, h9⟩) (fun _ h9 => by cases h9) d_RG_firstFrom_14
set_option maxHeartbeats 4000000 in
set_option maxRecDepth 100000 in
theorem c_RG_matches (l : Launch) (g : zG) (h q : Nat) (n : Nat) (es : Nat → Int) (h2 q2 n2 : Nat) (es2 : Nat → Int) (ha : asc es n) (hn : n ≤ 2048) (hbd : ∀ i, i < n → 0 ≤ es i ∧ es i ≤ 1114112) (ha2 : asc es2 n2) (hn2 : n2 ≤ 2048) (hbd2 : ∀ i, i < n2 → 0 ≤ es2 i ∧ es2 i ≤ 1114112) : Met l y_RG_matches w_RG_matches (zr 0 0) (zP g [.ref h, .ref h2] [(h, .inr (1, [.ref q, .int (iI (((n : Nat) : Int)))])), (q, .inl (zI g, 2048, .inl (ai es))), (h2, .inr (1, [.ref q2, .int (iI (((n2 : Nat) : Int)))])), (q2, .inl (zI g, 2048, .inl (ai es2)))]) (vp_Si (fun z => ((n = n2 ∧ ∀ i, i < n → es i = es2 i) ∧ z = iI 1) ∨ (¬ (n = n2 ∧ ∀ i, i < n → es i = es2 i) ∧ z = iI 0))) 0 0 (fun _ => False) := by
  refine Met.ofW (cc := b_RG_matches) (maxL := 3) (ret := (some .boolean)) (by decide) rfl ?_
  intro p e s m args below meth cd s₁ B hml hv
  obtain ⟨hargs, hP, hK, hZ⟩ := hv
  have hx := B.exec
  have hb := B.bytes
  have hr := B.returns
  have ht : ∀ w ∈ lw_ok, w.before args s = true := fun w h => atoms_spec (ws := w_RG_matches) B.pre w (List.mem_cons_of_mem _ h)
  have hown : s.vm.findClass R_RG = some m.cls := findClass_of_methodNamed B.named
  have hlocks := B.notSynchronized
  have hS : va_S (fun _ => False) s.heap s.heap [] := va_S.rf
  generalize hQ : MQ below _ args s 0 0 _ = Q
  have hl := lv_entry ([.ref h, .ref h2]) (n := 3) (Nat.le_of_ble_eq_true rfl)
  rw [show entryFrame m args 3 = entryFrame m ([.ref h, .ref h2] : List Value).toArray 3 by rw [hargs], lg_entry_eq]
  generalize (lg_sl ([.ref h, .ref h2]) ++ List.replicate (3 - (lg_sl ([.ref h, .ref h2])).length) Slot.unset).toArray = ls at hl ⊢
  have hl : lv_has ls 3 [(0, .ref h), (1, .ref h2)] := hl
  have J15 : ∀ fu : Nat, ∀ (i : Nat) (ls : Array Slot), n - i < fu → lv_has ls 3 [(0, .ref h), (1, .ref h2), (2, .int (iI (((i : Nat) : Int))))] → (i ≤ n) → (n = n2) → (∀ j, j < i → es j = es2 j) → W p l e (headSpec w_RG_matches (zr 0 0)).room s m args below meth cd s.heap [] 0 0 Q (F0 m 15 ls []) := by
    intro fu
    induction fu with
    | zero => exact fun _ _ hfu _ _ _ _ => absurd hfu (Nat.not_lt_zero _)
    | succ fu ih =>
      intro i ls hfu hl h1 h2x h3
      refine lv_iload_n hx hb d_RG_matches_15 rfl (lv_at hl 2 rfl) ?_
      refine lv_aload_n hx hb d_RG_matches_16 rfl (lv_at hl 0 rfl) ?_
      refine va_get (D := g.1) (ci := 1) (v := .int (iI (((n : Nat) : Int)))) (C := R_RG) (T := F_RG) (N := 2) hx hb ht i_RG hown hK hP 0 rfl rfl 1 (by decide) (ht _ k_94) (fun _ h9 => h9) rfl d_RG_matches_17 ?_
      refine ix_icmp_ge (tgt := 46) hx hb d_RG_matches_20 (by decide) (by omega) (fun c_20 => ?_) (fun c_20 => ?_)
      · refine lv_iconst (v := iI 1) hx hb d_RG_matches_46 rfl ?_
        subst hQ
        exact W.zret (v := iI 1) hx hb hr (by decide) (fun t h9 hW => ⟨_, rfl, Or.inl ⟨⟨h2x, fun j hj => h3 j (by omega)⟩, rfl⟩, h9⟩) (fun _ h9 => by cases h9) d_RG_matches_47
      · refine lv_aload_n hx hb d_RG_matches_23 rfl (lv_at hl 0 rfl) ?_
        refine va_get (D := g.1) (ci := 1) (v := .ref q) (C := R_RG) (T := F_RG) (N := 2) hx hb ht i_RG hown hK hP 0 rfl rfl 0 (by decide) (ht _ k_93) (fun _ h9 => h9) rfl d_RG_matches_24 ?_
        refine lv_iload_n hx hb d_RG_matches_27 rfl (lv_at hl 2 rfl) ?_
        refine ix_iald hx hb hK hP 1 0 rfl rfl (i := (((i : Nat) : Int))) i (by omega) d_RG_matches_28 ?_
        have f_5 := hbd i (by omega)
        refine lv_aload_n hx hb d_RG_matches_29 rfl (lv_at hl 1 rfl) ?_
        refine va_get (D := g.1) (ci := 1) (v := .ref q2) (C := R_RG) (T := F_RG) (N := 2) hx hb ht i_RG hown hK hP 2 rfl rfl 0 (by decide) (ht _ k_93) (fun _ h9 => h9) rfl d_RG_matches_30 ?_
        refine lv_iload_n hx hb d_RG_matches_33 rfl (lv_at hl 2 rfl) ?_
        refine ix_iald hx hb hK hP 3 0 rfl rfl (i := (((i : Nat) : Int))) i (by omega) d_RG_matches_34 ?_
        have f_6 := hbd2 i (by omega)
        refine ix_icmp_eq (tgt := 40) hx hb d_RG_matches_35 (by decide) (by omega) (fun c_35 => ?_) (fun c_35 => ?_)
        · refine lv_iinc (v := iI ((((i : Nat) : Int)) + 1)) (lv' := [(2, .int (iI ((((i : Nat) : Int)) + 1))), (0, .ref h), (1, .ref h2)]) hx hb d_RG_matches_40 hl (k := 2) rfl (iI_add _ _) (by decide) rfl (fun ls hl => ?_)
          refine lv_goto (tgt := 15) hx hb d_RG_matches_43 (by decide) ?_
          exact ih (i + 1) ls (by omega) (lv_sub hl [1, 2, 0] rfl) (by omega) (by omega) (by exact fun j hj => (Nat.lt_or_ge j i).elim (fun q9 => h3 j q9) (fun q9 => by rw [show j = i by omega]; exact c_35))
        · refine lv_iconst (v := iI 0) hx hb d_RG_matches_38 rfl ?_
          subst hQ
          exact W.zret (v := iI 0) hx hb hr (by decide) (fun t h9 hW => ⟨_, rfl, Or.inr ⟨fun h => c_35 (h.2 i (by omega)), rfl⟩, h9⟩) (fun _ h9 => by cases h9) d_RG_matches_39
  refine lv_aload_n hx hb d_RG_matches_0 rfl (lv_at hl 0 rfl) ?_
  refine va_get (D := g.1) (ci := 1) (v := .int (iI (((n : Nat) : Int)))) (C := R_RG) (T := F_RG) (N := 2) hx hb ht i_RG hown hK hP 0 rfl rfl 1 (by decide) (ht _ k_94) (fun _ h9 => h9) rfl d_RG_matches_1 ?_
  refine lv_aload_n hx hb d_RG_matches_4 rfl (lv_at hl 1 rfl) ?_
  refine va_get (D := g.1) (ci := 1) (v := .int (iI (((n2 : Nat) : Int)))) (C := R_RG) (T := F_RG) (N := 2) hx hb ht i_RG hown hK hP 2 rfl rfl 1 (by decide) (ht _ k_94) (fun _ h9 => h9) rfl d_RG_matches_5 ?_
  refine ix_icmp_eq (tgt := 13) hx hb d_RG_matches_8 (by decide) (by omega) (fun c_8 => ?_) (fun c_8 => ?_)
  · refine lv_iconst (v := iI 0) hx hb d_RG_matches_13 rfl ?_
    refine lv_istore_n (lv' := [(2, .int (iI 0)), (0, .ref h), (1, .ref h2)]) hx hb d_RG_matches_14 rfl hl (by decide) rfl (fun ls hl => ?_)
    exact J15 (_ + 1) 0 ls (Nat.lt_succ_self _) (lv_sub hl [1, 2, 0] rfl) (by omega) (by omega) (by exact fun j hj => absurd hj (by omega))
  · refine lv_iconst (v := iI 0) hx hb d_RG_matches_11 rfl ?_
    subst hQ
    exact W.zret (v := iI 0) hx hb hr (by decide) (fun t h9 hW => ⟨_, rfl, Or.inr ⟨fun h => by omega, rfl⟩, h9⟩) (fun _ h9 => by cases h9) d_RG_matches_12
set_option maxHeartbeats 4000000 in
set_option maxRecDepth 100000 in
theorem c_RG_overlaps (l : Launch) (g : zG) (h q : Nat) (n : Nat) (es : Nat → Int) (h2 q2 n2 : Nat) (es2 : Nat → Int) (ha : asc es n) (hn : n ≤ 2048) (hbd : ∀ i, i < n → 0 ≤ es i ∧ es i ≤ 1114112) (ha2 : asc es2 n2) (hn2 : n2 ≤ 2048) (hbd2 : ∀ i, i < n2 → 0 ≤ es2 i ∧ es2 i ≤ 1114112) : Met l y_RG_overlaps w_RG_overlaps (zr 2 46) (zP g [.ref h, .ref h2] [(h, .inr (1, [.ref q, .int (iI (((n : Nat) : Int)))])), (q, .inl (zI g, 2048, .inl (ai es))), (h2, .inr (1, [.ref q2, .int (iI (((n2 : Nat) : Int)))])), (q2, .inl (zI g, 2048, .inl (ai es2)))]) (vp_Si (fun z => ((∃ i, 2 * i + 1 < n ∧ hit es es2 n2 i) ∧ z = iI 1) ∨ (¬ (∃ i, 2 * i + 1 < n ∧ hit es es2 n2 i) ∧ z = iI 0))) 0 0 (fun _ => False) := by
  refine Met.ofW (cc := b_RG_overlaps) (maxL := 4) (ret := (some .boolean)) (by decide) rfl ?_
  intro p e s m args below meth cd s₁ B hml hv
  obtain ⟨hargs, hP, hK, hZ⟩ := hv
  have hx := B.exec
  have hb := B.bytes
  have hr := B.returns
  have ht : ∀ w ∈ lw_ok, w.before args s = true := fun w h => atoms_spec (ws := w_RG_overlaps) B.pre w (List.mem_cons_of_mem _ h)
  have hown : s.vm.findClass R_RG = some m.cls := findClass_of_methodNamed B.named
  have hlocks := B.notSynchronized
  have hS : va_S (fun _ => False) s.heap s.heap [] := va_S.rf
  generalize hQ : MQ below _ args s 0 0 _ = Q
  have hl := lv_entry ([.ref h, .ref h2]) (n := 4) (Nat.le_of_ble_eq_true rfl)
  rw [show entryFrame m args 4 = entryFrame m ([.ref h, .ref h2] : List Value).toArray 4 by rw [hargs], lg_entry_eq]
  generalize (lg_sl ([.ref h, .ref h2]) ++ List.replicate (4 - (lg_sl ([.ref h, .ref h2])).length) Slot.unset).toArray = ls at hl ⊢
  have hl : lv_has ls 4 [(0, .ref h), (1, .ref h2)] := hl
  have J2 : ∀ fu : Nat, ∀ (i : Nat) (ls : Array Slot), n - i < fu → lv_has ls 4 [(0, .ref h), (1, .ref h2), (2, .int (iI (((i : Nat) : Int))))] → (i ≤ n / 2) → (∀ j, j < i → ¬ hit es es2 n2 j) → W p l e (headSpec w_RG_overlaps (zr 2 46)).room s m args below meth cd s.heap [] 0 0 Q (F0 m 2 ls []) := by
    intro fu
    induction fu with
    | zero => exact fun _ _ hfu _ _ _ => absurd hfu (Nat.not_lt_zero _)
    | succ fu ih =>
      intro i ls hfu hl h1 h3
      refine lv_iload_n hx hb d_RG_overlaps_2 rfl (lv_at hl 2 rfl) ?_
      refine lv_aload_n hx hb d_RG_overlaps_3 rfl (lv_at hl 0 rfl) ?_
      refine zcV (ci := 1) (q0 := 0) (As := []) (rest := [.int (iI (((i : Nat) : Int)))]) ⟨hx, hb, hml, hown, ht⟩ v_RG_21 (c_RG_rangeCount l g h q n es  hn) ⟨Nat.le_of_ble_eq_true rfl, Nat.le_of_ble_eq_true rfl⟩ ⟨Nat.zero_le _, Nat.zero_le _⟩ hK hZ hS (hP.sub (ws' := [(h, .inr (1, [.ref q, .int (iI (((n : Nat) : Int)))])), (q, .inl (zI g, 2048, .inl (ai es)))]) [0, 1] rfl) rfl rfl rfl rfl hl.1 rfl (Nat.le_of_ble_eq_true rfl) d_RG_overlaps_4 (fun r_4 h_4 => ?_)
      subst h_4
      refine ix_icmp_ge (tgt := 41) hx hb d_RG_overlaps_7 (by decide) (by omega) (fun c_7 => ?_) (fun c_7 => ?_)
      · refine lv_iconst (v := iI 0) hx hb d_RG_overlaps_41 rfl ?_
        subst hQ
        exact W.zret (v := iI 0) hx hb hr (by decide) (fun t h9 hW => ⟨_, rfl, Or.inr ⟨fun ⟨j, a9, b9⟩ => h3 j (by omega) b9, rfl⟩, h9⟩) (fun _ h9 => by cases h9) d_RG_overlaps_42
      · refine lv_aload_n hx hb d_RG_overlaps_10 rfl (lv_at hl 1 rfl) ?_
        refine lv_aload_n hx hb d_RG_overlaps_11 rfl (lv_at hl 0 rfl) ?_
        refine lv_iload_n hx hb d_RG_overlaps_12 rfl (lv_at hl 2 rfl) ?_
        refine zcV (ci := 1) (q0 := 0) (As := [.int (iI (((i : Nat) : Int)))]) (rest := [.ref h2]) ⟨hx, hb, hml, hown, ht⟩ v_RG_25 (c_RG_lowOf l g h q n es i (by omega)) ⟨Nat.le_of_ble_eq_true rfl, Nat.le_of_ble_eq_true rfl⟩ ⟨Nat.zero_le _, Nat.zero_le _⟩ hK hZ hS (hP.sub (ws' := [(h, .inr (1, [.ref q, .int (iI (((n : Nat) : Int)))])), (q, .inl (zI g, 2048, .inl (ai es)))]) [0, 1] rfl) rfl rfl rfl rfl hl.1 rfl (Nat.le_of_ble_eq_true rfl) d_RG_overlaps_13 (fun r_13 h_13 => ?_)
        subst h_13
        have f1 := hbd (2 * i) (by omega)
        refine zcV (ci := 1) (q0 := 0) (As := [.int (iI (es (2 * i)))]) (rest := []) ⟨hx, hb, hml, hown, ht⟩ v_RG_28 (c_RG_firstFrom l g h2 q2 n2 es2 (es (2 * i)) ha2 hn2 hbd2 (by omega)) ⟨Nat.le_of_ble_eq_true rfl, Nat.le_of_ble_eq_true rfl⟩ ⟨Nat.zero_le _, Nat.zero_le _⟩ hK hZ hS (hP.sub (ws' := [(h2, .inr (1, [.ref q2, .int (iI (((n2 : Nat) : Int)))])), (q2, .inl (zI g, 2048, .inl (ai es2)))]) [2, 3] rfl) rfl rfl rfl rfl hl.1 rfl (Nat.le_of_ble_eq_true rfl) d_RG_overlaps_16 (fun r_16 h_16 => ?_)
        obtain ⟨m9, rfl, hm9, hm1, hm2⟩ := h_16
        refine lv_istore_n (lv' := [(3, .int (iI m9)), (0, .ref h), (1, .ref h2), (2, .int (iI (((i : Nat) : Int))))]) hx hb d_RG_overlaps_19 rfl hl (by decide) rfl (fun ls hl => ?_)
        refine lv_iload_n hx hb d_RG_overlaps_20 rfl (lv_at hl 0 rfl) ?_
        refine ix_if_lt (tgt := 35) hx hb d_RG_overlaps_21 (by decide) (by omega) (fun c_21 => ?_) (fun c_21 => ?_)
        · refine lv_iinc (v := iI ((((i : Nat) : Int)) + 1)) (lv' := [(2, .int (iI ((((i : Nat) : Int)) + 1))), (3, .int (iI m9)), (0, .ref h), (1, .ref h2)]) hx hb d_RG_overlaps_35 hl (k := 3) rfl (iI_add _ _) (by decide) rfl (fun ls hl => ?_)
          refine lv_goto (tgt := 2) hx hb d_RG_overlaps_38 (by decide) ?_
          exact ih (i + 1) ls (by omega) (lv_sub hl [2, 3, 0] rfl) (by omega) (by exact fun j hj => (Nat.lt_or_ge j i).elim (fun q9 => h3 j q9) (fun q9 => by rw [show j = i by omega]; intro ⟨m8, a8, b8, d8⟩; have := FF_eq a8 hm9; omega))
        · refine lv_iload_n hx hb d_RG_overlaps_24 rfl (lv_at hl 0 rfl) ?_
          refine lv_aload_n hx hb d_RG_overlaps_25 rfl (lv_at hl 1 rfl) ?_
          refine lv_iload_n hx hb d_RG_overlaps_26 rfl (lv_at hl 3 rfl) ?_
          refine zcV (ci := 1) (q0 := 0) (As := [.int (iI (((i : Nat) : Int)))]) (rest := [.int (iI m9)]) ⟨hx, hb, hml, hown, ht⟩ v_RG_31 (c_RG_highOf l g h q n es i (by omega)) ⟨Nat.le_of_ble_eq_true rfl, Nat.le_of_ble_eq_true rfl⟩ ⟨Nat.zero_le _, Nat.zero_le _⟩ hK hZ hS (hP.sub (ws' := [(h, .inr (1, [.ref q, .int (iI (((n : Nat) : Int)))])), (q, .inl (zI g, 2048, .inl (ai es)))]) [0, 1] rfl) rfl rfl rfl rfl hl.1 rfl (Nat.le_of_ble_eq_true rfl) d_RG_overlaps_27 (fun r_27 h_27 => ?_)
          subst h_27
          have f2 := hbd (2 * i + 1) (by omega)
          refine ix_icmp_gt (tgt := 35) hx hb d_RG_overlaps_30 (by decide) (by omega) (fun c_30 => ?_) (fun c_30 => ?_)
          · refine lv_iinc (v := iI ((((i : Nat) : Int)) + 1)) (lv' := [(2, .int (iI ((((i : Nat) : Int)) + 1))), (3, .int (iI m9)), (0, .ref h), (1, .ref h2)]) hx hb d_RG_overlaps_35 hl (k := 3) rfl (iI_add _ _) (by decide) rfl (fun ls hl => ?_)
            refine lv_goto (tgt := 2) hx hb d_RG_overlaps_38 (by decide) ?_
            exact ih (i + 1) ls (by omega) (lv_sub hl [2, 3, 0] rfl) (by omega) (by exact fun j hj => (Nat.lt_or_ge j i).elim (fun q9 => h3 j q9) (fun q9 => by rw [show j = i by omega]; intro ⟨m8, a8, b8, d8⟩; have := FF_eq a8 hm9; omega))
          · refine lv_iconst (v := iI 1) hx hb d_RG_overlaps_33 rfl ?_
            subst hQ
            exact W.zret (v := iI 1) hx hb hr (by decide) (fun t h9 hW => ⟨_, rfl, Or.inl ⟨⟨i, by omega, m9, hm9, by omega, by omega⟩, rfl⟩, h9⟩) (fun _ h9 => by cases h9) d_RG_overlaps_34
  refine lv_iconst (v := iI 0) hx hb d_RG_overlaps_0 rfl ?_
  refine lv_istore_n (lv' := [(2, .int (iI 0)), (0, .ref h), (1, .ref h2)]) hx hb d_RG_overlaps_1 rfl hl (by decide) rfl (fun ls hl => ?_)
  exact J2 (_ + 1) 0 ls (Nat.lt_succ_self _) (lv_sub hl [1, 2, 0] rfl) (by omega) (by exact fun j hj => absurd hj (by omega))
