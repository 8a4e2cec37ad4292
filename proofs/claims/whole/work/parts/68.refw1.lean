set_option maxHeartbeats 4000000 in
set_option maxRecDepth 100000 in
theorem c_MO_widely (l : Launch) (g : zG) (r : Nat → Nat) (ut uc la wo : Int) (bw : Nat → Nat) (mt : Nat → Int) (ms : Int) (k c : Int) (hk : 0 ≤ k ∧ k ≤ 18) (hc : 0 ≤ c ∧ c ≤ 1114111) : Met l y_MO_widely w_MO_widely (zr 3 66) (zP g [.ref (r 0), .int (iI k), .int (iI c)] [(r 0, .inr (4, [.int (iI ut), .int (iI uc), .int (iI la), .int (iI wo), .ref (r 1), .ref (r 2), .ref (r 3), .int (iI ms), .ref (r 4)])), (r 1, .inl (zJ g, 139264, .inr (.inl (lA bw)))), (r 2, .inl (zBt g, 12544, .inl (ai kF))), (r 3, .inl (zI g, 4, .inl (ai mt))), (r 4, .inl (zI g, 14, .inl (ai PT)))]) (vp_Si (fun z => ((wideF k c) ∧ z = iI 1) ∨ (¬ (wideF k c) ∧ z = iI 0))) 0 0 (fun _ => False) := by
  refine Met.ofW (cc := b_MO_widely) (maxL := 5) (ret := (some .boolean)) (by decide) rfl ?_
  intro p e s m args below meth cd s₁ B hml hv
  obtain ⟨hargs, hP, hK, hZ⟩ := hv
  have hx := B.exec
  have hb := B.bytes
  have hr := B.returns
  have ht : ∀ w ∈ lw_ok, w.before args s = true := fun w h => atoms_spec (ws := w_MO_widely) B.pre w (List.mem_cons_of_mem _ h)
  have hown : s.vm.findClass R_MO = some m.cls := findClass_of_methodNamed B.named
  have hlocks := B.notSynchronized
  have hS : va_S (fun _ => False) s.heap s.heap [] := va_S.rf
  generalize hQ : MQ below _ args s 0 0 _ = Q
  have hl := lv_entry ([.ref (r 0), .int (iI k), .int (iI c)]) (n := 5) (Nat.le_of_ble_eq_true rfl)
  rw [show entryFrame m args 5 = entryFrame m ([.ref (r 0), .int (iI k), .int (iI c)] : List Value).toArray 5 by rw [hargs], lg_entry_eq]
  generalize (lg_sl ([.ref (r 0), .int (iI k), .int (iI c)]) ++ List.replicate (5 - (lg_sl ([.ref (r 0), .int (iI k), .int (iI c)])).length) Slot.unset).toArray = ls at hl ⊢
  have hl : lv_has ls 5 [(0, .ref (r 0)), (1, .int (iI k)), (2, .int (iI c))] := hl
  refine lv_aload_n hx hb d_MO_widely_0 rfl (lv_at hl 0 rfl) ?_
  refine lv_iload_n hx hb d_MO_widely_1 rfl (lv_at hl 2 rfl) ?_
  refine zcV (ci := 4) (q0 := 0) (As := [.int (iI c)]) (rest := []) ⟨hx, hb, hml, hown, ht⟩ v_MO_75 (c_MO_category l g r ut uc la wo bw mt ms c (by omega)) ⟨Nat.le_of_ble_eq_true rfl, Nat.le_of_ble_eq_true rfl⟩ ⟨Nat.zero_le _, Nat.zero_le _⟩ hK hZ hS hP rfl rfl rfl rfl hl.1 rfl (Nat.le_of_ble_eq_true rfl) d_MO_widely_2 (fun r_2 h_2 => ?_)
  subst h_2
  have q_2 := catF_bd c (by omega)
  refine lv_istore_n (lv' := [(3, .int (iI (catF c))), (0, .ref (r 0)), (1, .int (iI k)), (2, .int (iI c))]) hx hb d_MO_widely_5 rfl hl (by decide) rfl (fun ls hl => ?_)
  refine lv_aload_n hx hb d_MO_widely_6 rfl (lv_at hl 1 rfl) ?_
  refine lv_bipush (v := iI 6) hx hb d_MO_widely_7 (by decide) ?_
  refine lv_iload_n hx hb d_MO_widely_9 rfl (lv_at hl 0 rfl) ?_
  refine zcV (ci := 4) (q0 := 0) (As := [.int (iI 6), .int (iI (catF c))]) (rest := []) ⟨hx, hb, hml, hown, ht⟩ v_MO_127 (c_MO_general l g r ut uc la wo bw mt ms 6 (catF c) (by omega)) ⟨Nat.le_of_ble_eq_true rfl, Nat.le_of_ble_eq_true rfl⟩ ⟨Nat.zero_le _, Nat.zero_le _⟩ hK hZ hS hP rfl rfl rfl rfl hl.1 rfl (Nat.le_of_ble_eq_true rfl) d_MO_widely_10 (fun r_10 h_10 => ?_)
  rcases h_10 with ⟨h_10, rfl⟩ | ⟨h_10, rfl⟩
  · refine ix_if_ne (tgt := 29) hx hb d_MO_widely_13 (by decide) (by omega) (fun c_13 => ?_) (fun c_13 => ?_)
    · refine lv_iconst (v := iI 0) hx hb d_MO_widely_29 rfl ?_
      refine lv_istore (lv' := [(4, .int (iI 0)), (3, .int (iI (catF c))), (0, .ref (r 0)), (1, .int (iI k)), (2, .int (iI c))]) hx hb d_MO_widely_30 hl (by decide) rfl (fun ls hl => ?_)
      refine lv_iload_n hx hb d_MO_widely_32 rfl (lv_at hl 3 rfl) ?_
      rcases (show k = 0 ∨ k = 1 ∨ k = 2 ∨ k = 3 ∨ k = 4 ∨ k = 5 ∨ k = 6 ∨ k = 7 ∨ k = 8 ∨ k = 9 ∨ k = 10 ∨ k = 11 ∨ k = 12 ∨ k = 13 ∨ k = 14 ∨ k = 15 ∨ k = 16 ∨ (k < 0 ∨ 16 < k) from by omega) with c_33 | c_33 | c_33 | c_33 | c_33 | c_33 | c_33 | c_33 | c_33 | c_33 | c_33 | c_33 | c_33 | c_33 | c_33 | c_33 | c_33 | c_33
      · refine ix_table (tgt := 116) hx hb d_MO_widely_33 (by omega) 83 (by omega) (by rw [c_33]; rfl) (by decide) ?_
        refine lv_iload_n hx hb d_MO_widely_116 rfl (lv_at hl 1 rfl) ?_
        refine lv_bipush (v := iI 8) hx hb d_MO_widely_117 (by decide) ?_
        refine ix_icmp_ne (tgt := 126) hx hb d_MO_widely_119 (by decide) (by omega) (fun c_119 => ?_) (fun c_119 => ?_)
        · refine lv_iconst (v := iI 0) hx hb d_MO_widely_126 rfl ?_
          subst hQ
          exact W.zret (v := iI 0) hx hb hr (by decide) (fun t h9 hW => ⟨_, rfl, Or.inr ⟨by first | (exfalso; omega) | (rw [show k = 0 by omega]; simp [wideF, grpF] <;> first | assumption | omega | grind), rfl⟩, h9⟩) (fun _ h9 => by cases h9) d_MO_widely_127
        · refine lv_iconst (v := iI 1) hx hb d_MO_widely_122 rfl ?_
          refine lv_goto (tgt := 127) hx hb d_MO_widely_123 (by decide) ?_
          subst hQ
          exact W.zret (v := iI 1) hx hb hr (by decide) (fun t h9 hW => ⟨_, rfl, Or.inl ⟨by first | (exfalso; omega) | (rw [show k = 0 by omega]; simp [wideF, grpF] <;> first | assumption | omega | grind), rfl⟩, h9⟩) (fun _ h9 => by cases h9) d_MO_widely_127
      · refine ix_table (tgt := 128) hx hb d_MO_widely_33 (by omega) 95 (by omega) (by rw [c_33]; rfl) (by decide) ?_
        refine lv_aload_n hx hb d_MO_widely_128 rfl (lv_at hl 2 rfl) ?_
        refine lv_bipush (v := iI 47) hx hb d_MO_widely_129 (by decide) ?_
        refine lv_iload_n hx hb d_MO_widely_131 rfl (lv_at hl 4 rfl) ?_
        refine zcV (ci := 4) (q0 := 0) (As := [.int (iI 47), .int (iI c)]) (rest := []) ⟨hx, hb, hml, hown, ht⟩ v_MO_134 (c_MO_holds l g r ut uc la wo bw mt ms 47 c (by omega) (by omega)) ⟨Nat.le_of_ble_eq_true rfl, Nat.le_of_ble_eq_true rfl⟩ ⟨Nat.zero_le _, Nat.zero_le _⟩ hK hZ hS hP rfl rfl rfl rfl hl.1 rfl (Nat.le_of_ble_eq_true rfl) d_MO_widely_132 (fun r_132 h_132 => ?_)
        rcases h_132 with ⟨h_132, rfl⟩ | ⟨h_132, rfl⟩
        · subst hQ
          exact W.zret (v := iI 1) hx hb hr (by decide) (fun t h9 hW => ⟨_, rfl, Or.inl ⟨by first | (exfalso; omega) | (rw [show k = 1 by omega]; simp [wideF, grpF] <;> first | assumption | omega | grind), rfl⟩, h9⟩) (fun _ h9 => by cases h9) d_MO_widely_135
        · subst hQ
          exact W.zret (v := iI 0) hx hb hr (by decide) (fun t h9 hW => ⟨_, rfl, Or.inr ⟨by first | (exfalso; omega) | (rw [show k = 1 by omega]; simp [wideF, grpF] <;> first | assumption | omega | grind), rfl⟩, h9⟩) (fun _ h9 => by cases h9) d_MO_widely_135
      · refine ix_table (tgt := 136) hx hb d_MO_widely_33 (by omega) 103 (by omega) (by rw [c_33]; rfl) (by decide) ?_
        refine lv_aload_n hx hb d_MO_widely_136 rfl (lv_at hl 2 rfl) ?_
        refine lv_bipush (v := iI 48) hx hb d_MO_widely_137 (by decide) ?_
        refine lv_iload_n hx hb d_MO_widely_139 rfl (lv_at hl 4 rfl) ?_
        refine zcV (ci := 4) (q0 := 0) (As := [.int (iI 48), .int (iI c)]) (rest := []) ⟨hx, hb, hml, hown, ht⟩ v_MO_134 (c_MO_holds l g r ut uc la wo bw mt ms 48 c (by omega) (by omega)) ⟨Nat.le_of_ble_eq_true rfl, Nat.le_of_ble_eq_true rfl⟩ ⟨Nat.zero_le _, Nat.zero_le _⟩ hK hZ hS hP rfl rfl rfl rfl hl.1 rfl (Nat.le_of_ble_eq_true rfl) d_MO_widely_140 (fun r_140 h_140 => ?_)
        rcases h_140 with ⟨h_140, rfl⟩ | ⟨h_140, rfl⟩
        · subst hQ
          exact W.zret (v := iI 1) hx hb hr (by decide) (fun t h9 hW => ⟨_, rfl, Or.inl ⟨by first | (exfalso; omega) | (rw [show k = 2 by omega]; simp [wideF, grpF] <;> first | assumption | omega | grind), rfl⟩, h9⟩) (fun _ h9 => by cases h9) d_MO_widely_143
        · subst hQ
          exact W.zret (v := iI 0) hx hb hr (by decide) (fun t h9 hW => ⟨_, rfl, Or.inr ⟨by first | (exfalso; omega) | (rw [show k = 2 by omega]; simp [wideF, grpF] <;> first | assumption | omega | grind), rfl⟩, h9⟩) (fun _ h9 => by cases h9) d_MO_widely_143
      · refine ix_table (tgt := 250) hx hb d_MO_widely_33 (by omega) 217 (by omega) (by rw [c_33]; rfl) (by decide) ?_
        refine lv_aload_n hx hb d_MO_widely_250 rfl (lv_at hl 2 rfl) ?_
        refine lv_iload_n hx hb d_MO_widely_251 rfl (lv_at hl 3 rfl) ?_
        refine lv_iload_n hx hb d_MO_widely_252 rfl (lv_at hl 4 rfl) ?_
        refine zcV (ci := 4) (q0 := 0) (As := [.int (iI k), .int (iI c)]) (rest := []) ⟨hx, hb, hml, hown, ht⟩ v_MO_146 (c_MO_plainly l g r ut uc la wo bw mt ms k c (by omega) (by omega)) ⟨Nat.le_of_ble_eq_true rfl, Nat.le_of_ble_eq_true rfl⟩ ⟨Nat.zero_le _, Nat.zero_le _⟩ hK hZ hS hP rfl rfl rfl rfl hl.1 rfl (Nat.le_of_ble_eq_true rfl) d_MO_widely_253 (fun r_253 h_253 => ?_)
        rcases h_253 with ⟨h_253, rfl⟩ | ⟨h_253, rfl⟩
        · subst hQ
          exact W.zret (v := iI 1) hx hb hr (by decide) (fun t h9 hW => ⟨_, rfl, Or.inl ⟨by first | (exfalso; omega) | (rw [show k = 3 by omega]; simp [wideF, grpF] <;> first | assumption | omega | grind), rfl⟩, h9⟩) (fun _ h9 => by cases h9) d_MO_widely_256
        · subst hQ
          exact W.zret (v := iI 0) hx hb hr (by decide) (fun t h9 hW => ⟨_, rfl, Or.inr ⟨by first | (exfalso; omega) | (rw [show k = 3 by omega]; simp [wideF, grpF] <;> first | assumption | omega | grind), rfl⟩, h9⟩) (fun _ h9 => by cases h9) d_MO_widely_256
      · refine ix_table (tgt := 250) hx hb d_MO_widely_33 (by omega) 217 (by omega) (by rw [c_33]; rfl) (by decide) ?_
        refine lv_aload_n hx hb d_MO_widely_250 rfl (lv_at hl 2 rfl) ?_
        refine lv_iload_n hx hb d_MO_widely_251 rfl (lv_at hl 3 rfl) ?_
        refine lv_iload_n hx hb d_MO_widely_252 rfl (lv_at hl 4 rfl) ?_
        refine zcV (ci := 4) (q0 := 0) (As := [.int (iI k), .int (iI c)]) (rest := []) ⟨hx, hb, hml, hown, ht⟩ v_MO_146 (c_MO_plainly l g r ut uc la wo bw mt ms k c (by omega) (by omega)) ⟨Nat.le_of_ble_eq_true rfl, Nat.le_of_ble_eq_true rfl⟩ ⟨Nat.zero_le _, Nat.zero_le _⟩ hK hZ hS hP rfl rfl rfl rfl hl.1 rfl (Nat.le_of_ble_eq_true rfl) d_MO_widely_253 (fun r_253 h_253 => ?_)
        rcases h_253 with ⟨h_253, rfl⟩ | ⟨h_253, rfl⟩
        · subst hQ
          exact W.zret (v := iI 1) hx hb hr (by decide) (fun t h9 hW => ⟨_, rfl, Or.inl ⟨by first | (exfalso; omega) | (rw [show k = 4 by omega]; simp [wideF, grpF] <;> first | assumption | omega | grind), rfl⟩, h9⟩) (fun _ h9 => by cases h9) d_MO_widely_256
        · subst hQ
          exact W.zret (v := iI 0) hx hb hr (by decide) (fun t h9 hW => ⟨_, rfl, Or.inr ⟨by first | (exfalso; omega) | (rw [show k = 4 by omega]; simp [wideF, grpF] <;> first | assumption | omega | grind), rfl⟩, h9⟩) (fun _ h9 => by cases h9) d_MO_widely_256
      · refine ix_table (tgt := 150) hx hb d_MO_widely_33 (by omega) 117 (by omega) (by rw [c_33]; rfl) (by decide) ?_
        refine lv_aload_n hx hb d_MO_widely_150 rfl (lv_at hl 2 rfl) ?_
        refine lv_iconst (v := iI 1) hx hb d_MO_widely_151 rfl ?_
        refine lv_iload_n hx hb d_MO_widely_152 rfl (lv_at hl 1 rfl) ?_
        refine zcV (ci := 4) (q0 := 0) (As := [.int (iI 1), .int (iI (catF c))]) (rest := []) ⟨hx, hb, hml, hown, ht⟩ v_MO_127 (c_MO_general l g r ut uc la wo bw mt ms 1 (catF c) (by omega)) ⟨Nat.le_of_ble_eq_true rfl, Nat.le_of_ble_eq_true rfl⟩ ⟨Nat.zero_le _, Nat.zero_le _⟩ hK hZ hS hP rfl rfl rfl rfl hl.1 rfl (Nat.le_of_ble_eq_true rfl) d_MO_widely_153 (fun r_153 h_153 => ?_)
        rcases h_153 with ⟨h_153, rfl⟩ | ⟨h_153, rfl⟩
        · subst hQ
          exact W.zret (v := iI 1) hx hb hr (by decide) (fun t h9 hW => ⟨_, rfl, Or.inl ⟨by first | (exfalso; omega) | (rw [show k = 5 by omega]; simp [wideF, grpF] <;> first | assumption | omega | grind), rfl⟩, h9⟩) (fun _ h9 => by cases h9) d_MO_widely_156
        · subst hQ
          exact W.zret (v := iI 0) hx hb hr (by decide) (fun t h9 hW => ⟨_, rfl, Or.inr ⟨by first | (exfalso; omega) | (rw [show k = 5 by omega]; simp [wideF, grpF] <;> first | assumption | omega | grind), rfl⟩, h9⟩) (fun _ h9 => by cases h9) d_MO_widely_156
      · refine ix_table (tgt := 157) hx hb d_MO_widely_33 (by omega) 124 (by omega) (by rw [c_33]; rfl) (by decide) ?_
        refine lv_iload_n hx hb d_MO_widely_157 rfl (lv_at hl 1 rfl) ?_
        refine lv_iconst (v := iI 4) hx hb d_MO_widely_158 rfl ?_
        refine ix_icmp_ne (tgt := 166) hx hb d_MO_widely_159 (by decide) (by omega) (fun c_159 => ?_) (fun c_159 => ?_)
        · refine lv_iconst (v := iI 0) hx hb d_MO_widely_166 rfl ?_
          subst hQ
          exact W.zret (v := iI 0) hx hb hr (by decide) (fun t h9 hW => ⟨_, rfl, Or.inr ⟨by first | (exfalso; omega) | (rw [show k = 6 by omega]; simp [wideF, grpF] <;> first | assumption | omega | grind), rfl⟩, h9⟩) (fun _ h9 => by cases h9) d_MO_widely_167
        · refine lv_iconst (v := iI 1) hx hb d_MO_widely_162 rfl ?_
          refine lv_goto (tgt := 167) hx hb d_MO_widely_163 (by decide) ?_
          subst hQ
          exact W.zret (v := iI 1) hx hb hr (by decide) (fun t h9 hW => ⟨_, rfl, Or.inl ⟨by first | (exfalso; omega) | (rw [show k = 6 by omega]; simp [wideF, grpF] <;> first | assumption | omega | grind), rfl⟩, h9⟩) (fun _ h9 => by cases h9) d_MO_widely_167
      · refine ix_table (tgt := 168) hx hb d_MO_widely_33 (by omega) 135 (by omega) (by rw [c_33]; rfl) (by decide) ?_
        refine lv_iload_n hx hb d_MO_widely_168 rfl (lv_at hl 1 rfl) ?_
        refine lv_bipush (v := iI 6) hx hb d_MO_widely_169 (by decide) ?_
        refine ix_icmp_ne (tgt := 178) hx hb d_MO_widely_171 (by decide) (by omega) (fun c_171 => ?_) (fun c_171 => ?_)
        · refine lv_iconst (v := iI 0) hx hb d_MO_widely_178 rfl ?_
          subst hQ
          exact W.zret (v := iI 0) hx hb hr (by decide) (fun t h9 hW => ⟨_, rfl, Or.inr ⟨by first | (exfalso; omega) | (rw [show k = 7 by omega]; simp [wideF, grpF] <;> first | assumption | omega | grind), rfl⟩, h9⟩) (fun _ h9 => by cases h9) d_MO_widely_179
        · refine lv_iconst (v := iI 1) hx hb d_MO_widely_174 rfl ?_
          refine lv_goto (tgt := 179) hx hb d_MO_widely_175 (by decide) ?_
          subst hQ
          exact W.zret (v := iI 1) hx hb hr (by decide) (fun t h9 hW => ⟨_, rfl, Or.inl ⟨by first | (exfalso; omega) | (rw [show k = 7 by omega]; simp [wideF, grpF] <;> first | assumption | omega | grind), rfl⟩, h9⟩) (fun _ h9 => by cases h9) d_MO_widely_179
      · refine ix_table (tgt := 116) hx hb d_MO_widely_33 (by omega) 83 (by omega) (by rw [c_33]; rfl) (by decide) ?_
        refine lv_iload_n hx hb d_MO_widely_116 rfl (lv_at hl 1 rfl) ?_
        refine lv_bipush (v := iI 8) hx hb d_MO_widely_117 (by decide) ?_
        refine ix_icmp_ne (tgt := 126) hx hb d_MO_widely_119 (by decide) (by omega) (fun c_119 => ?_) (fun c_119 => ?_)
        · refine lv_iconst (v := iI 0) hx hb d_MO_widely_126 rfl ?_
          subst hQ
          exact W.zret (v := iI 0) hx hb hr (by decide) (fun t h9 hW => ⟨_, rfl, Or.inr ⟨by first | (exfalso; omega) | (rw [show k = 8 by omega]; simp [wideF, grpF] <;> first | assumption | omega | grind), rfl⟩, h9⟩) (fun _ h9 => by cases h9) d_MO_widely_127
        · refine lv_iconst (v := iI 1) hx hb d_MO_widely_122 rfl ?_
          refine lv_goto (tgt := 127) hx hb d_MO_widely_123 (by decide) ?_
          subst hQ
          exact W.zret (v := iI 1) hx hb hr (by decide) (fun t h9 hW => ⟨_, rfl, Or.inl ⟨by first | (exfalso; omega) | (rw [show k = 8 by omega]; simp [wideF, grpF] <;> first | assumption | omega | grind), rfl⟩, h9⟩) (fun _ h9 => by cases h9) d_MO_widely_127
      · refine ix_table (tgt := 180) hx hb d_MO_widely_33 (by omega) 147 (by omega) (by rw [c_33]; rfl) (by decide) ?_
        refine lv_aload_n hx hb d_MO_widely_180 rfl (lv_at hl 2 rfl) ?_
        refine lv_bipush (v := iI 46) hx hb d_MO_widely_181 (by decide) ?_
        refine lv_iload_n hx hb d_MO_widely_183 rfl (lv_at hl 4 rfl) ?_
        refine zcV (ci := 4) (q0 := 0) (As := [.int (iI 46), .int (iI c)]) (rest := []) ⟨hx, hb, hml, hown, ht⟩ v_MO_134 (c_MO_holds l g r ut uc la wo bw mt ms 46 c (by omega) (by omega)) ⟨Nat.le_of_ble_eq_true rfl, Nat.le_of_ble_eq_true rfl⟩ ⟨Nat.zero_le _, Nat.zero_le _⟩ hK hZ hS hP rfl rfl rfl rfl hl.1 rfl (Nat.le_of_ble_eq_true rfl) d_MO_widely_184 (fun r_184 h_184 => ?_)
        rcases h_184 with ⟨h_184, rfl⟩ | ⟨h_184, rfl⟩
        · subst hQ
          exact W.zret (v := iI 1) hx hb hr (by decide) (fun t h9 hW => ⟨_, rfl, Or.inl ⟨by first | (exfalso; omega) | (rw [show k = 9 by omega]; simp [wideF, grpF] <;> first | assumption | omega | grind), rfl⟩, h9⟩) (fun _ h9 => by cases h9) d_MO_widely_187
        · subst hQ
          exact W.zret (v := iI 0) hx hb hr (by decide) (fun t h9 hW => ⟨_, rfl, Or.inr ⟨by first | (exfalso; omega) | (rw [show k = 9 by omega]; simp [wideF, grpF] <;> first | assumption | omega | grind), rfl⟩, h9⟩) (fun _ h9 => by cases h9) d_MO_widely_187
      · refine ix_table (tgt := 128) hx hb d_MO_widely_33 (by omega) 95 (by omega) (by rw [c_33]; rfl) (by decide) ?_
        refine lv_aload_n hx hb d_MO_widely_128 rfl (lv_at hl 2 rfl) ?_
        refine lv_bipush (v := iI 47) hx hb d_MO_widely_129 (by decide) ?_
        refine lv_iload_n hx hb d_MO_widely_131 rfl (lv_at hl 4 rfl) ?_
        refine zcV (ci := 4) (q0 := 0) (As := [.int (iI 47), .int (iI c)]) (rest := []) ⟨hx, hb, hml, hown, ht⟩ v_MO_134 (c_MO_holds l g r ut uc la wo bw mt ms 47 c (by omega) (by omega)) ⟨Nat.le_of_ble_eq_true rfl, Nat.le_of_ble_eq_true rfl⟩ ⟨Nat.zero_le _, Nat.zero_le _⟩ hK hZ hS hP rfl rfl rfl rfl hl.1 rfl (Nat.le_of_ble_eq_true rfl) d_MO_widely_132 (fun r_132 h_132 => ?_)
        rcases h_132 with ⟨h_132, rfl⟩ | ⟨h_132, rfl⟩
        · subst hQ
          exact W.zret (v := iI 1) hx hb hr (by decide) (fun t h9 hW => ⟨_, rfl, Or.inl ⟨by first | (exfalso; omega) | (rw [show k = 10 by omega]; simp [wideF, grpF] <;> first | assumption | omega | grind), rfl⟩, h9⟩) (fun _ h9 => by cases h9) d_MO_widely_135
        · subst hQ
          exact W.zret (v := iI 0) hx hb hr (by decide) (fun t h9 hW => ⟨_, rfl, Or.inr ⟨by first | (exfalso; omega) | (rw [show k = 10 by omega]; simp [wideF, grpF] <;> first | assumption | omega | grind), rfl⟩, h9⟩) (fun _ h9 => by cases h9) d_MO_widely_135
      · refine ix_table (tgt := 136) hx hb d_MO_widely_33 (by omega) 103 (by omega) (by rw [c_33]; rfl) (by decide) ?_
        refine lv_aload_n hx hb d_MO_widely_136 rfl (lv_at hl 2 rfl) ?_
        refine lv_bipush (v := iI 48) hx hb d_MO_widely_137 (by decide) ?_
        refine lv_iload_n hx hb d_MO_widely_139 rfl (lv_at hl 4 rfl) ?_
        refine zcV (ci := 4) (q0 := 0) (As := [.int (iI 48), .int (iI c)]) (rest := []) ⟨hx, hb, hml, hown, ht⟩ v_MO_134 (c_MO_holds l g r ut uc la wo bw mt ms 48 c (by omega) (by omega)) ⟨Nat.le_of_ble_eq_true rfl, Nat.le_of_ble_eq_true rfl⟩ ⟨Nat.zero_le _, Nat.zero_le _⟩ hK hZ hS hP rfl rfl rfl rfl hl.1 rfl (Nat.le_of_ble_eq_true rfl) d_MO_widely_140 (fun r_140 h_140 => ?_)
        rcases h_140 with ⟨h_140, rfl⟩ | ⟨h_140, rfl⟩
        · subst hQ
          exact W.zret (v := iI 1) hx hb hr (by decide) (fun t h9 hW => ⟨_, rfl, Or.inl ⟨by first | (exfalso; omega) | (rw [show k = 11 by omega]; simp [wideF, grpF] <;> first | assumption | omega | grind), rfl⟩, h9⟩) (fun _ h9 => by cases h9) d_MO_widely_143
        · subst hQ
          exact W.zret (v := iI 0) hx hb hr (by decide) (fun t h9 hW => ⟨_, rfl, Or.inr ⟨by first | (exfalso; omega) | (rw [show k = 11 by omega]; simp [wideF, grpF] <;> first | assumption | omega | grind), rfl⟩, h9⟩) (fun _ h9 => by cases h9) d_MO_widely_143
      · refine ix_table (tgt := 144) hx hb d_MO_widely_33 (by omega) 111 (by omega) (by rw [c_33]; rfl) (by decide) ?_
        refine lv_aload_n hx hb d_MO_widely_144 rfl (lv_at hl 2 rfl) ?_
        refine lv_iload_n hx hb d_MO_widely_145 rfl (lv_at hl 4 rfl) ?_
        refine zcV (ci := 4) (q0 := 0) (As := [.int (iI c)]) (rest := []) ⟨hx, hb, hml, hown, ht⟩ v_MO_143 (c_MO_blank l g r ut uc la wo bw mt ms c (by omega)) ⟨Nat.le_of_ble_eq_true rfl, Nat.le_of_ble_eq_true rfl⟩ ⟨Nat.zero_le _, Nat.zero_le _⟩ hK hZ hS hP rfl rfl rfl rfl hl.1 rfl (Nat.le_of_ble_eq_true rfl) d_MO_widely_146 (fun r_146 h_146 => ?_)
        rcases h_146 with ⟨h_146, rfl⟩ | ⟨h_146, rfl⟩
        · subst hQ
          exact W.zret (v := iI 1) hx hb hr (by decide) (fun t h9 hW => ⟨_, rfl, Or.inl ⟨by first | (exfalso; omega) | (rw [show k = 12 by omega]; simp [wideF, grpF] <;> first | assumption | omega | grind), rfl⟩, h9⟩) (fun _ h9 => by cases h9) d_MO_widely_149
        · subst hQ
          exact W.zret (v := iI 0) hx hb hr (by decide) (fun t h9 hW => ⟨_, rfl, Or.inr ⟨by first | (exfalso; omega) | (rw [show k = 12 by omega]; simp [wideF, grpF] <;> first | assumption | omega | grind), rfl⟩, h9⟩) (fun _ h9 => by cases h9) d_MO_widely_149
      · refine ix_table (tgt := 188) hx hb d_MO_widely_33 (by omega) 155 (by omega) (by rw [c_33]; rfl) (by decide) ?_
        refine lv_iload_n hx hb d_MO_widely_188 rfl (lv_at hl 1 rfl) ?_
        refine lv_iconst (v := iI 1) hx hb d_MO_widely_189 rfl ?_
        refine ix_icmp_ne (tgt := 197) hx hb d_MO_widely_190 (by decide) (by omega) (fun c_190 => ?_) (fun c_190 => ?_)
        · refine lv_iconst (v := iI 0) hx hb d_MO_widely_197 rfl ?_
          subst hQ
          exact W.zret (v := iI 0) hx hb hr (by decide) (fun t h9 hW => ⟨_, rfl, Or.inr ⟨by first | (exfalso; omega) | (rw [show k = 13 by omega]; simp [wideF, grpF] <;> first | assumption | omega | grind), rfl⟩, h9⟩) (fun _ h9 => by cases h9) d_MO_widely_198
        · refine lv_iconst (v := iI 1) hx hb d_MO_widely_193 rfl ?_
          refine lv_goto (tgt := 198) hx hb d_MO_widely_194 (by decide) ?_
          subst hQ
          exact W.zret (v := iI 1) hx hb hr (by decide) (fun t h9 hW => ⟨_, rfl, Or.inl ⟨by first | (exfalso; omega) | (rw [show k = 13 by omega]; simp [wideF, grpF] <;> first | assumption | omega | grind), rfl⟩, h9⟩) (fun _ h9 => by cases h9) d_MO_widely_198
      · refine ix_table (tgt := 199) hx hb d_MO_widely_33 (by omega) 166 (by omega) (by rw [c_33]; rfl) (by decide) ?_
        refine lv_iload hx hb d_MO_widely_199 (lv_at hl 0 rfl) ?_
        subst hQ
        exact W.zret (v := iI 0) hx hb hr (by decide) (fun t h9 hW => ⟨_, rfl, Or.inr ⟨by first | (exfalso; omega) | (rw [show k = 14 by omega]; simp [wideF, grpF] <;> first | assumption | omega | grind), rfl⟩, h9⟩) (fun _ h9 => by cases h9) d_MO_widely_201
      · refine ix_table (tgt := 202) hx hb d_MO_widely_33 (by omega) 169 (by omega) (by rw [c_33]; rfl) (by decide) ?_
        refine lv_iload hx hb d_MO_widely_202 (lv_at hl 0 rfl) ?_
        refine ix_if_ne (tgt := 213) hx hb d_MO_widely_204 (by decide) (by omega) (fun c_204 => ?_) (fun c_204 => ?_)
        · exact absurd c_204 (by decide)
        · refine lv_iload_n hx hb d_MO_widely_207 rfl (lv_at hl 1 rfl) ?_
          refine lv_bipush (v := iI 24) hx hb d_MO_widely_208 (by decide) ?_
          refine ix_icmp_ne (tgt := 217) hx hb d_MO_widely_210 (by decide) (by omega) (fun c_210 => ?_) (fun c_210 => ?_)
          · refine lv_iconst (v := iI 0) hx hb d_MO_widely_217 rfl ?_
            subst hQ
            exact W.zret (v := iI 0) hx hb hr (by decide) (fun t h9 hW => ⟨_, rfl, Or.inr ⟨by first | (exfalso; omega) | (rw [show k = 15 by omega]; simp [wideF, grpF] <;> first | assumption | omega | grind), rfl⟩, h9⟩) (fun _ h9 => by cases h9) d_MO_widely_218
          · refine lv_iconst (v := iI 1) hx hb d_MO_widely_213 rfl ?_
            refine lv_goto (tgt := 218) hx hb d_MO_widely_214 (by decide) ?_
            subst hQ
            exact W.zret (v := iI 1) hx hb hr (by decide) (fun t h9 hW => ⟨_, rfl, Or.inl ⟨by first | (exfalso; omega) | (rw [show k = 15 by omega]; simp [wideF, grpF] <;> first | assumption | omega | grind), rfl⟩, h9⟩) (fun _ h9 => by cases h9) d_MO_widely_218
      · refine ix_table (tgt := 219) hx hb d_MO_widely_33 (by omega) 186 (by omega) (by rw [c_33]; rfl) (by decide) ?_
        refine lv_aload_n hx hb d_MO_widely_219 rfl (lv_at hl 2 rfl) ?_
        refine lv_iconst (v := iI 4) hx hb d_MO_widely_220 rfl ?_
        refine lv_iload_n hx hb d_MO_widely_221 rfl (lv_at hl 1 rfl) ?_
        refine zcV (ci := 4) (q0 := 0) (As := [.int (iI 4), .int (iI (catF c))]) (rest := []) ⟨hx, hb, hml, hown, ht⟩ v_MO_127 (c_MO_general l g r ut uc la wo bw mt ms 4 (catF c) (by omega)) ⟨Nat.le_of_ble_eq_true rfl, Nat.le_of_ble_eq_true rfl⟩ ⟨Nat.zero_le _, Nat.zero_le _⟩ hK hZ hS hP rfl rfl rfl rfl hl.1 rfl (Nat.le_of_ble_eq_true rfl) d_MO_widely_222 (fun r_222 h_222 => ?_)
        rcases h_222 with ⟨h_222, rfl⟩ | ⟨h_222, rfl⟩
        · refine ix_if_ne (tgt := 244) hx hb d_MO_widely_225 (by decide) (by omega) (fun c_225 => ?_) (fun c_225 => ?_)
          · refine lv_iconst (v := iI 1) hx hb d_MO_widely_244 rfl ?_
            refine lv_goto (tgt := 249) hx hb d_MO_widely_245 (by decide) ?_
            subst hQ
            exact W.zret (v := iI 1) hx hb hr (by decide) (fun t h9 hW => ⟨_, rfl, Or.inl ⟨by first | (exfalso; omega) | (rw [show k = 16 by omega]; simp [wideF, grpF] <;> first | assumption | omega | grind), rfl⟩, h9⟩) (fun _ h9 => by cases h9) d_MO_widely_249
          · exact absurd c_225 (by decide)
        · refine ix_if_ne (tgt := 244) hx hb d_MO_widely_225 (by decide) (by omega) (fun c_225 => ?_) (fun c_225 => ?_)
          · exact absurd c_225 (by decide)
          · refine lv_aload_n hx hb d_MO_widely_228 rfl (lv_at hl 2 rfl) ?_
            refine lv_iconst (v := iI 5) hx hb d_MO_widely_229 rfl ?_
            refine lv_iload_n hx hb d_MO_widely_230 rfl (lv_at hl 1 rfl) ?_
            refine zcV (ci := 4) (q0 := 0) (As := [.int (iI 5), .int (iI (catF c))]) (rest := []) ⟨hx, hb, hml, hown, ht⟩ v_MO_127 (c_MO_general l g r ut uc la wo bw mt ms 5 (catF c) (by omega)) ⟨Nat.le_of_ble_eq_true rfl, Nat.le_of_ble_eq_true rfl⟩ ⟨Nat.zero_le _, Nat.zero_le _⟩ hK hZ hS hP rfl rfl rfl rfl hl.1 rfl (Nat.le_of_ble_eq_true rfl) d_MO_widely_231 (fun r_231 h_231 => ?_)
            rcases h_231 with ⟨h_231, rfl⟩ | ⟨h_231, rfl⟩
            · refine ix_if_eq (tgt := 248) hx hb d_MO_widely_234 (by decide) (by omega) (fun c_234 => ?_) (fun c_234 => ?_)
              · exact absurd c_234 (by decide)
              · refine lv_iload_n hx hb d_MO_widely_237 rfl (lv_at hl 4 rfl) ?_
                refine lv_sipush (v := iI 128) hx hb d_MO_widely_238 (by decide) ?_
                refine ix_icmp_ge (tgt := 248) hx hb d_MO_widely_241 (by decide) (by omega) (fun c_241 => ?_) (fun c_241 => ?_)
                · refine lv_iconst (v := iI 0) hx hb d_MO_widely_248 rfl ?_
                  subst hQ
                  exact W.zret (v := iI 0) hx hb hr (by decide) (fun t h9 hW => ⟨_, rfl, Or.inr ⟨by first | (exfalso; omega) | (rw [show k = 16 by omega]; simp [wideF, grpF] <;> first | assumption | omega | grind), rfl⟩, h9⟩) (fun _ h9 => by cases h9) d_MO_widely_249
                · refine lv_iconst (v := iI 1) hx hb d_MO_widely_244 rfl ?_
                  refine lv_goto (tgt := 249) hx hb d_MO_widely_245 (by decide) ?_
                  subst hQ
                  exact W.zret (v := iI 1) hx hb hr (by decide) (fun t h9 hW => ⟨_, rfl, Or.inl ⟨by first | (exfalso; omega) | (rw [show k = 16 by omega]; simp [wideF, grpF] <;> first | assumption | omega | grind), rfl⟩, h9⟩) (fun _ h9 => by cases h9) d_MO_widely_249
            · refine ix_if_eq (tgt := 248) hx hb d_MO_widely_234 (by decide) (by omega) (fun c_234 => ?_) (fun c_234 => ?_)
              · refine lv_iconst (v := iI 0) hx hb d_MO_widely_248 rfl ?_
                subst hQ
                exact W.zret (v := iI 0) hx hb hr (by decide) (fun t h9 hW => ⟨_, rfl, Or.inr ⟨by first | (exfalso; omega) | (rw [show k = 16 by omega]; simp [wideF, grpF] <;> first | assumption | omega | grind), rfl⟩, h9⟩) (fun _ h9 => by cases h9) d_MO_widely_249
              · exact absurd c_234 (by decide)
      · refine ix_tableO (tgt := 250) hx hb d_MO_widely_33 (by omega) c_33 (by decide) ?_
        refine lv_aload_n hx hb d_MO_widely_250 rfl (lv_at hl 2 rfl) ?_
        refine lv_iload_n hx hb d_MO_widely_251 rfl (lv_at hl 3 rfl) ?_
        refine lv_iload_n hx hb d_MO_widely_252 rfl (lv_at hl 4 rfl) ?_
        refine zcV (ci := 4) (q0 := 0) (As := [.int (iI k), .int (iI c)]) (rest := []) ⟨hx, hb, hml, hown, ht⟩ v_MO_146 (c_MO_plainly l g r ut uc la wo bw mt ms k c (by omega) (by omega)) ⟨Nat.le_of_ble_eq_true rfl, Nat.le_of_ble_eq_true rfl⟩ ⟨Nat.zero_le _, Nat.zero_le _⟩ hK hZ hS hP rfl rfl rfl rfl hl.1 rfl (Nat.le_of_ble_eq_true rfl) d_MO_widely_253 (fun r_253 h_253 => ?_)
        rcases h_253 with ⟨h_253, rfl⟩ | ⟨h_253, rfl⟩
        · subst hQ
          exact W.zret (v := iI 1) hx hb hr (by decide) (fun t h9 hW => ⟨_, rfl, Or.inl ⟨by first | (exfalso; omega) | (rw [wide_d (by omega)]; assumption), rfl⟩, h9⟩) (fun _ h9 => by cases h9) d_MO_widely_256
        · subst hQ
          exact W.zret (v := iI 0) hx hb hr (by decide) (fun t h9 hW => ⟨_, rfl, Or.inr ⟨by first | (exfalso; omega) | (rw [wide_d (by omega)]; assumption), rfl⟩, h9⟩) (fun _ h9 => by cases h9) d_MO_widely_256
    · exact absurd c_13 (by decide)
  · refine ix_if_ne (tgt := 29) hx hb d_MO_widely_13 (by decide) (by omega) (fun c_13 => ?_) (fun c_13 => ?_)
    · exact absurd c_13 (by decide)
    · refine lv_iload_n hx hb d_MO_widely_16 rfl (lv_at hl 0 rfl) ?_
      refine lv_iconst (v := iI 1) hx hb d_MO_widely_17 rfl ?_
      refine ix_icmp_eq (tgt := 29) hx hb d_MO_widely_18 (by decide) (by omega) (fun c_18 => ?_) (fun c_18 => ?_)
      · refine lv_iconst (v := iI 0) hx hb d_MO_widely_29 rfl ?_
        refine lv_istore (lv' := [(4, .int (iI 0)), (3, .int (iI (catF c))), (0, .ref (r 0)), (1, .int (iI k)), (2, .int (iI c))]) hx hb d_MO_widely_30 hl (by decide) rfl (fun ls hl => ?_)
        refine lv_iload_n hx hb d_MO_widely_32 rfl (lv_at hl 3 rfl) ?_
        rcases (show k = 0 ∨ k = 1 ∨ k = 2 ∨ k = 3 ∨ k = 4 ∨ k = 5 ∨ k = 6 ∨ k = 7 ∨ k = 8 ∨ k = 9 ∨ k = 10 ∨ k = 11 ∨ k = 12 ∨ k = 13 ∨ k = 14 ∨ k = 15 ∨ k = 16 ∨ (k < 0 ∨ 16 < k) from by omega) with c_33 | c_33 | c_33 | c_33 | c_33 | c_33 | c_33 | c_33 | c_33 | c_33 | c_33 | c_33 | c_33 | c_33 | c_33 | c_33 | c_33 | c_33
        · refine ix_table (tgt := 116) hx hb d_MO_widely_33 (by omega) 83 (by omega) (by rw [c_33]; rfl) (by decide) ?_
          refine lv_iload_n hx hb d_MO_widely_116 rfl (lv_at hl 1 rfl) ?_
          refine lv_bipush (v := iI 8) hx hb d_MO_widely_117 (by decide) ?_
          refine ix_icmp_ne (tgt := 126) hx hb d_MO_widely_119 (by decide) (by omega) (fun c_119 => ?_) (fun c_119 => ?_)
          · refine lv_iconst (v := iI 0) hx hb d_MO_widely_126 rfl ?_
            subst hQ
            exact W.zret (v := iI 0) hx hb hr (by decide) (fun t h9 hW => ⟨_, rfl, Or.inr ⟨by first | (exfalso; omega) | (rw [show k = 0 by omega]; simp [wideF, grpF] <;> first | assumption | omega | grind), rfl⟩, h9⟩) (fun _ h9 => by cases h9) d_MO_widely_127
          · refine lv_iconst (v := iI 1) hx hb d_MO_widely_122 rfl ?_
            refine lv_goto (tgt := 127) hx hb d_MO_widely_123 (by decide) ?_
            subst hQ
            exact W.zret (v := iI 1) hx hb hr (by decide) (fun t h9 hW => ⟨_, rfl, Or.inl ⟨by first | (exfalso; omega) | (rw [show k = 0 by omega]; simp [wideF, grpF] <;> first | assumption | omega | grind), rfl⟩, h9⟩) (fun _ h9 => by cases h9) d_MO_widely_127
        · refine ix_table (tgt := 128) hx hb d_MO_widely_33 (by omega) 95 (by omega) (by rw [c_33]; rfl) (by decide) ?_
          refine lv_aload_n hx hb d_MO_widely_128 rfl (lv_at hl 2 rfl) ?_
          refine lv_bipush (v := iI 47) hx hb d_MO_widely_129 (by decide) ?_
          refine lv_iload_n hx hb d_MO_widely_131 rfl (lv_at hl 4 rfl) ?_
          refine zcV (ci := 4) (q0 := 0) (As := [.int (iI 47), .int (iI c)]) (rest := []) ⟨hx, hb, hml, hown, ht⟩ v_MO_134 (c_MO_holds l g r ut uc la wo bw mt ms 47 c (by omega) (by omega)) ⟨Nat.le_of_ble_eq_true rfl, Nat.le_of_ble_eq_true rfl⟩ ⟨Nat.zero_le _, Nat.zero_le _⟩ hK hZ hS hP rfl rfl rfl rfl hl.1 rfl (Nat.le_of_ble_eq_true rfl) d_MO_widely_132 (fun r_132 h_132 => ?_)
          rcases h_132 with ⟨h_132, rfl⟩ | ⟨h_132, rfl⟩
          · subst hQ
            exact W.zret (v := iI 1) hx hb hr (by decide) (fun t h9 hW => ⟨_, rfl, Or.inl ⟨by first | (exfalso; omega) | (rw [show k = 1 by omega]; simp [wideF, grpF] <;> first | assumption | omega | grind), rfl⟩, h9⟩) (fun _ h9 => by cases h9) d_MO_widely_135
          · subst hQ
            exact W.zret (v := iI 0) hx hb hr (by decide) (fun t h9 hW => ⟨_, rfl, Or.inr ⟨by first | (exfalso; omega) | (rw [show k = 1 by omega]; simp [wideF, grpF] <;> first | assumption | omega | grind), rfl⟩, h9⟩) (fun _ h9 => by cases h9) d_MO_widely_135
        · refine ix_table (tgt := 136) hx hb d_MO_widely_33 (by omega) 103 (by omega) (by rw [c_33]; rfl) (by decide) ?_
          refine lv_aload_n hx hb d_MO_widely_136 rfl (lv_at hl 2 rfl) ?_
          refine lv_bipush (v := iI 48) hx hb d_MO_widely_137 (by decide) ?_
          refine lv_iload_n hx hb d_MO_widely_139 rfl (lv_at hl 4 rfl) ?_
          refine zcV (ci := 4) (q0 := 0) (As := [.int (iI 48), .int (iI c)]) (rest := []) ⟨hx, hb, hml, hown, ht⟩ v_MO_134 (c_MO_holds l g r ut uc la wo bw mt ms 48 c (by omega) (by omega)) ⟨Nat.le_of_ble_eq_true rfl, Nat.le_of_ble_eq_true rfl⟩ ⟨Nat.zero_le _, Nat.zero_le _⟩ hK hZ hS hP rfl rfl rfl rfl hl.1 rfl (Nat.le_of_ble_eq_true rfl) d_MO_widely_140 (fun r_140 h_140 => ?_)
          rcases h_140 with ⟨h_140, rfl⟩ | ⟨h_140, rfl⟩
          · subst hQ
            exact W.zret (v := iI 1) hx hb hr (by decide) (fun t h9 hW => ⟨_, rfl, Or.inl ⟨by first | (exfalso; omega) | (rw [show k = 2 by omega]; simp [wideF, grpF] <;> first | assumption | omega | grind), rfl⟩, h9⟩) (fun _ h9 => by cases h9) d_MO_widely_143
          · subst hQ
            exact W.zret (v := iI 0) hx hb hr (by decide) (fun t h9 hW => ⟨_, rfl, Or.inr ⟨by first | (exfalso; omega) | (rw [show k = 2 by omega]; simp [wideF, grpF] <;> first | assumption | omega | grind), rfl⟩, h9⟩) (fun _ h9 => by cases h9) d_MO_widely_143
        · refine ix_table (tgt := 250) hx hb d_MO_widely_33 (by omega) 217 (by omega) (by rw [c_33]; rfl) (by decide) ?_
          refine lv_aload_n hx hb d_MO_widely_250 rfl (lv_at hl 2 rfl) ?_
          refine lv_iload_n hx hb d_MO_widely_251 rfl (lv_at hl 3 rfl) ?_
          refine lv_iload_n hx hb d_MO_widely_252 rfl (lv_at hl 4 rfl) ?_
          refine zcV (ci := 4) (q0 := 0) (As := [.int (iI k), .int (iI c)]) (rest := []) ⟨hx, hb, hml, hown, ht⟩ v_MO_146 (c_MO_plainly l g r ut uc la wo bw mt ms k c (by omega) (by omega)) ⟨Nat.le_of_ble_eq_true rfl, Nat.le_of_ble_eq_true rfl⟩ ⟨Nat.zero_le _, Nat.zero_le _⟩ hK hZ hS hP rfl rfl rfl rfl hl.1 rfl (Nat.le_of_ble_eq_true rfl) d_MO_widely_253 (fun r_253 h_253 => ?_)
          rcases h_253 with ⟨h_253, rfl⟩ | ⟨h_253, rfl⟩
          · subst hQ
            exact W.zret (v := iI 1) hx hb hr (by decide) (fun t h9 hW => ⟨_, rfl, Or.inl ⟨by first | (exfalso; omega) | (rw [show k = 3 by omega]; simp [wideF, grpF] <;> first | assumption | omega | grind), rfl⟩, h9⟩) (fun _ h9 => by cases h9) d_MO_widely_256
          · subst hQ
            exact W.zret (v := iI 0) hx hb hr (by decide) (fun t h9 hW => ⟨_, rfl, Or.inr ⟨by first | (exfalso; omega) | (rw [show k = 3 by omega]; simp [wideF, grpF] <;> first | assumption | omega | grind), rfl⟩, h9⟩) (fun _ h9 => by cases h9) d_MO_widely_256
        · refine ix_table (tgt := 250) hx hb d_MO_widely_33 (by omega) 217 (by omega) (by rw [c_33]; rfl) (by decide) ?_
          refine lv_aload_n hx hb d_MO_widely_250 rfl (lv_at hl 2 rfl) ?_
          refine lv_iload_n hx hb d_MO_widely_251 rfl (lv_at hl 3 rfl) ?_
          refine lv_iload_n hx hb d_MO_widely_252 rfl (lv_at hl 4 rfl) ?_
          refine zcV (ci := 4) (q0 := 0) (As := [.int (iI k), .int (iI c)]) (rest := []) ⟨hx, hb, hml, hown, ht⟩ v_MO_146 (c_MO_plainly l g r ut uc la wo bw mt ms k c (by omega) (by omega)) ⟨Nat.le_of_ble_eq_true rfl, Nat.le_of_ble_eq_true rfl⟩ ⟨Nat.zero_le _, Nat.zero_le _⟩ hK hZ hS hP rfl rfl rfl rfl hl.1 rfl (Nat.le_of_ble_eq_true rfl) d_MO_widely_253 (fun r_253 h_253 => ?_)
          rcases h_253 with ⟨h_253, rfl⟩ | ⟨h_253, rfl⟩
          · subst hQ
            exact W.zret (v := iI 1) hx hb hr (by decide) (fun t h9 hW => ⟨_, rfl, Or.inl ⟨by first | (exfalso; omega) | (rw [show k = 4 by omega]; simp [wideF, grpF] <;> first | assumption | omega | grind), rfl⟩, h9⟩) (fun _ h9 => by cases h9) d_MO_widely_256
          · subst hQ
            exact W.zret (v := iI 0) hx hb hr (by decide) (fun t h9 hW => ⟨_, rfl, Or.inr ⟨by first | (exfalso; omega) | (rw [show k = 4 by omega]; simp [wideF, grpF] <;> first | assumption | omega | grind), rfl⟩, h9⟩) (fun _ h9 => by cases h9) d_MO_widely_256
        · refine ix_table (tgt := 150) hx hb d_MO_widely_33 (by omega) 117 (by omega) (by rw [c_33]; rfl) (by decide) ?_
          refine lv_aload_n hx hb d_MO_widely_150 rfl (lv_at hl 2 rfl) ?_
          refine lv_iconst (v := iI 1) hx hb d_MO_widely_151 rfl ?_
          refine lv_iload_n hx hb d_MO_widely_152 rfl (lv_at hl 1 rfl) ?_
          refine zcV (ci := 4) (q0 := 0) (As := [.int (iI 1), .int (iI (catF c))]) (rest := []) ⟨hx, hb, hml, hown, ht⟩ v_MO_127 (c_MO_general l g r ut uc la wo bw mt ms 1 (catF c) (by omega)) ⟨Nat.le_of_ble_eq_true rfl, Nat.le_of_ble_eq_true rfl⟩ ⟨Nat.zero_le _, Nat.zero_le _⟩ hK hZ hS hP rfl rfl rfl rfl hl.1 rfl (Nat.le_of_ble_eq_true rfl) d_MO_widely_153 (fun r_153 h_153 => ?_)
          rcases h_153 with ⟨h_153, rfl⟩ | ⟨h_153, rfl⟩
          · subst hQ
            exact W.zret (v := iI 1) hx hb hr (by decide) (fun t h9 hW => ⟨_, rfl, Or.inl ⟨by first | (exfalso; omega) | (rw [show k = 5 by omega]; simp [wideF, grpF] <;> first | assumption | omega | grind), rfl⟩, h9⟩) (fun _ h9 => by cases h9) d_MO_widely_156
          · subst hQ
            exact W.zret (v := iI 0) hx hb hr (by decide) (fun t h9 hW => ⟨_, rfl, Or.inr ⟨by first | (exfalso; omega) | (rw [show k = 5 by omega]; simp [wideF, grpF] <;> first | assumption | omega | grind), rfl⟩, h9⟩) (fun _ h9 => by cases h9) d_MO_widely_156
        · refine ix_table (tgt := 157) hx hb d_MO_widely_33 (by omega) 124 (by omega) (by rw [c_33]; rfl) (by decide) ?_
          refine lv_iload_n hx hb d_MO_widely_157 rfl (lv_at hl 1 rfl) ?_
          refine lv_iconst (v := iI 4) hx hb d_MO_widely_158 rfl ?_
          refine ix_icmp_ne (tgt := 166) hx hb d_MO_widely_159 (by decide) (by omega) (fun c_159 => ?_) (fun c_159 => ?_)
          · refine lv_iconst (v := iI 0) hx hb d_MO_widely_166 rfl ?_
            subst hQ
            exact W.zret (v := iI 0) hx hb hr (by decide) (fun t h9 hW => ⟨_, rfl, Or.inr ⟨by first | (exfalso; omega) | (rw [show k = 6 by omega]; simp [wideF, grpF] <;> first | assumption | omega | grind), rfl⟩, h9⟩) (fun _ h9 => by cases h9) d_MO_widely_167
          · refine lv_iconst (v := iI 1) hx hb d_MO_widely_162 rfl ?_
            refine lv_goto (tgt := 167) hx hb d_MO_widely_163 (by decide) ?_
            subst hQ
            exact W.zret (v := iI 1) hx hb hr (by decide) (fun t h9 hW => ⟨_, rfl, Or.inl ⟨by first | (exfalso; omega) | (rw [show k = 6 by omega]; simp [wideF, grpF] <;> first | assumption | omega | grind), rfl⟩, h9⟩) (fun _ h9 => by cases h9) d_MO_widely_167
        · refine ix_table (tgt := 168) hx hb d_MO_widely_33 (by omega) 135 (by omega) (by rw [c_33]; rfl) (by decide) ?_
          refine lv_iload_n hx hb d_MO_widely_168 rfl (lv_at hl 1 rfl) ?_
          refine lv_bipush (v := iI 6) hx hb d_MO_widely_169 (by decide) ?_
          refine ix_icmp_ne (tgt := 178) hx hb d_MO_widely_171 (by decide) (by omega) (fun c_171 => ?_) (fun c_171 => ?_)
          · refine lv_iconst (v := iI 0) hx hb d_MO_widely_178 rfl ?_
            subst hQ
            exact W.zret (v := iI 0) hx hb hr (by decide) (fun t h9 hW => ⟨_, rfl, Or.inr ⟨by first | (exfalso; omega) | (rw [show k = 7 by omega]; simp [wideF, grpF] <;> first | assumption | omega | grind), rfl⟩, h9⟩) (fun _ h9 => by cases h9) d_MO_widely_179
          · refine lv_iconst (v := iI 1) hx hb d_MO_widely_174 rfl ?_
            refine lv_goto (tgt := 179) hx hb d_MO_widely_175 (by decide) ?_
            subst hQ
            exact W.zret (v := iI 1) hx hb hr (by decide) (fun t h9 hW => ⟨_, rfl, Or.inl ⟨by first | (exfalso; omega) | (rw [show k = 7 by omega]; simp [wideF, grpF] <;> first | assumption | omega | grind), rfl⟩, h9⟩) (fun _ h9 => by cases h9) d_MO_widely_179
        · refine ix_table (tgt := 116) hx hb d_MO_widely_33 (by omega) 83 (by omega) (by rw [c_33]; rfl) (by decide) ?_
          refine lv_iload_n hx hb d_MO_widely_116 rfl (lv_at hl 1 rfl) ?_
          refine lv_bipush (v := iI 8) hx hb d_MO_widely_117 (by decide) ?_
          refine ix_icmp_ne (tgt := 126) hx hb d_MO_widely_119 (by decide) (by omega) (fun c_119 => ?_) (fun c_119 => ?_)
          · refine lv_iconst (v := iI 0) hx hb d_MO_widely_126 rfl ?_
            subst hQ
            exact W.zret (v := iI 0) hx hb hr (by decide) (fun t h9 hW => ⟨_, rfl, Or.inr ⟨by first | (exfalso; omega) | (rw [show k = 8 by omega]; simp [wideF, grpF] <;> first | assumption | omega | grind), rfl⟩, h9⟩) (fun _ h9 => by cases h9) d_MO_widely_127
          · refine lv_iconst (v := iI 1) hx hb d_MO_widely_122 rfl ?_
            refine lv_goto (tgt := 127) hx hb d_MO_widely_123 (by decide) ?_
            subst hQ
            exact W.zret (v := iI 1) hx hb hr (by decide) (fun t h9 hW => ⟨_, rfl, Or.inl ⟨by first | (exfalso; omega) | (rw [show k = 8 by omega]; simp [wideF, grpF] <;> first | assumption | omega | grind), rfl⟩, h9⟩) (fun _ h9 => by cases h9) d_MO_widely_127
        · refine ix_table (tgt := 180) hx hb d_MO_widely_33 (by omega) 147 (by omega) (by rw [c_33]; rfl) (by decide) ?_
          refine lv_aload_n hx hb d_MO_widely_180 rfl (lv_at hl 2 rfl) ?_
          refine lv_bipush (v := iI 46) hx hb d_MO_widely_181 (by decide) ?_
          refine lv_iload_n hx hb d_MO_widely_183 rfl (lv_at hl 4 rfl) ?_
          refine zcV (ci := 4) (q0 := 0) (As := [.int (iI 46), .int (iI c)]) (rest := []) ⟨hx, hb, hml, hown, ht⟩ v_MO_134 (c_MO_holds l g r ut uc la wo bw mt ms 46 c (by omega) (by omega)) ⟨Nat.le_of_ble_eq_true rfl, Nat.le_of_ble_eq_true rfl⟩ ⟨Nat.zero_le _, Nat.zero_le _⟩ hK hZ hS hP rfl rfl rfl rfl hl.1 rfl (Nat.le_of_ble_eq_true rfl) d_MO_widely_184 (fun r_184 h_184 => ?_)
          rcases h_184 with ⟨h_184, rfl⟩ | ⟨h_184, rfl⟩
          · subst hQ
            exact W.zret (v := iI 1) hx hb hr (by decide) (fun t h9 hW => ⟨_, rfl, Or.inl ⟨by first | (exfalso; omega) | (rw [show k = 9 by omega]; simp [wideF, grpF] <;> first | assumption | omega | grind), rfl⟩, h9⟩) (fun _ h9 => by cases h9) d_MO_widely_187
          · subst hQ
            exact W.zret (v := iI 0) hx hb hr (by decide) (fun t h9 hW => ⟨_, rfl, Or.inr ⟨by first | (exfalso; omega) | (rw [show k = 9 by omega]; simp [wideF, grpF] <;> first | assumption | omega | grind), rfl⟩, h9⟩) (fun _ h9 => by cases h9) d_MO_widely_187
        · refine ix_table (tgt := 128) hx hb d_MO_widely_33 (by omega) 95 (by omega) (by rw [c_33]; rfl) (by decide) ?_
          refine lv_aload_n hx hb d_MO_widely_128 rfl (lv_at hl 2 rfl) ?_
          refine lv_bipush (v := iI 47) hx hb d_MO_widely_129 (by decide) ?_
          refine lv_iload_n hx hb d_MO_widely_131 rfl (lv_at hl 4 rfl) ?_
          refine zcV (ci := 4) (q0 := 0) (As := [.int (iI 47), .int (iI c)]) (rest := []) ⟨hx, hb, hml, hown, ht⟩ v_MO_134 (c_MO_holds l g r ut uc la wo bw mt ms 47 c (by omega) (by omega)) ⟨Nat.le_of_ble_eq_true rfl, Nat.le_of_ble_eq_true rfl⟩ ⟨Nat.zero_le _, Nat.zero_le _⟩ hK hZ hS hP rfl rfl rfl rfl hl.1 rfl (Nat.le_of_ble_eq_true rfl) d_MO_widely_132 (fun r_132 h_132 => ?_)
          rcases h_132 with ⟨h_132, rfl⟩ | ⟨h_132, rfl⟩
          · subst hQ
            exact W.zret (v := iI 1) hx hb hr (by decide) (fun t h9 hW => ⟨_, rfl, Or.inl ⟨by first | (exfalso; omega) | (rw [show k = 10 by omega]; simp [wideF, grpF] <;> first | assumption | omega | grind), rfl⟩, h9⟩) (fun _ h9 => by cases h9) d_MO_widely_135
          · subst hQ
            exact W.zret (v := iI 0) hx hb hr (by decide) (fun t h9 hW => ⟨_, rfl, Or.inr ⟨by first | (exfalso; omega) | (rw [show k = 10 by omega]; simp [wideF, grpF] <;> first | assumption | omega | grind), rfl⟩, h9⟩) (fun _ h9 => by cases h9) d_MO_widely_135
        · refine ix_table (tgt := 136) hx hb d_MO_widely_33 (by omega) 103 (by omega) (by rw [c_33]; rfl) (by decide) ?_
          refine lv_aload_n hx hb d_MO_widely_136 rfl (lv_at hl 2 rfl) ?_
          refine lv_bipush (v := iI 48) hx hb d_MO_widely_137 (by decide) ?_
          refine lv_iload_n hx hb d_MO_widely_139 rfl (lv_at hl 4 rfl) ?_
          refine zcV (ci := 4) (q0 := 0) (As := [.int (iI 48), .int (iI c)]) (rest := []) ⟨hx, hb, hml, hown, ht⟩ v_MO_134 (c_MO_holds l g r ut uc la wo bw mt ms 48 c (by omega) (by omega)) ⟨Nat.le_of_ble_eq_true rfl, Nat.le_of_ble_eq_true rfl⟩ ⟨Nat.zero_le _, Nat.zero_le _⟩ hK hZ hS hP rfl rfl rfl rfl hl.1 rfl (Nat.le_of_ble_eq_true rfl) d_MO_widely_140 (fun r_140 h_140 => ?_)
          rcases h_140 with ⟨h_140, rfl⟩ | ⟨h_140, rfl⟩
          · subst hQ
            exact W.zret (v := iI 1) hx hb hr (by decide) (fun t h9 hW => ⟨_, rfl, Or.inl ⟨by first | (exfalso; omega) | (rw [show k = 11 by omega]; simp [wideF, grpF] <;> first | assumption | omega | grind), rfl⟩, h9⟩) (fun _ h9 => by cases h9) d_MO_widely_143
          · subst hQ
            exact W.zret (v := iI 0) hx hb hr (by decide) (fun t h9 hW => ⟨_, rfl, Or.inr ⟨by first | (exfalso; omega) | (rw [show k = 11 by omega]; simp [wideF, grpF] <;> first | assumption | omega | grind), rfl⟩, h9⟩) (fun _ h9 => by cases h9) d_MO_widely_143
        · refine ix_table (tgt := 144) hx hb d_MO_widely_33 (by omega) 111 (by omega) (by rw [c_33]; rfl) (by decide) ?_
          refine lv_aload_n hx hb d_MO_widely_144 rfl (lv_at hl 2 rfl) ?_
          refine lv_iload_n hx hb d_MO_widely_145 rfl (lv_at hl 4 rfl) ?_
          refine zcV (ci := 4) (q0 := 0) (As := [.int (iI c)]) (rest := []) ⟨hx, hb, hml, hown, ht⟩ v_MO_143 (c_MO_blank l g r ut uc la wo bw mt ms c (by omega)) ⟨Nat.le_of_ble_eq_true rfl, Nat.le_of_ble_eq_true rfl⟩ ⟨Nat.zero_le _, Nat.zero_le _⟩ hK hZ hS hP rfl rfl rfl rfl hl.1 rfl (Nat.le_of_ble_eq_true rfl) d_MO_widely_146 (fun r_146 h_146 => ?_)
          rcases h_146 with ⟨h_146, rfl⟩ | ⟨h_146, rfl⟩
          · subst hQ
            exact W.zret (v := iI 1) hx hb hr (by decide) (fun t h9 hW => ⟨_, rfl, Or.inl ⟨by first | (exfalso; omega) | (rw [show k = 12 by omega]; simp [wideF, grpF] <;> first | assumption | omega | grind), rfl⟩, h9⟩) (fun _ h9 => by cases h9) d_MO_widely_149
          · subst hQ
            exact W.zret (v := iI 0) hx hb hr (by decide) (fun t h9 hW => ⟨_, rfl, Or.inr ⟨by first | (exfalso; omega) | (rw [show k = 12 by omega]; simp [wideF, grpF] <;> first | assumption | omega | grind), rfl⟩, h9⟩) (fun _ h9 => by cases h9) d_MO_widely_149
        · refine ix_table (tgt := 188) hx hb d_MO_widely_33 (by omega) 155 (by omega) (by rw [c_33]; rfl) (by decide) ?_
          refine lv_iload_n hx hb d_MO_widely_188 rfl (lv_at hl 1 rfl) ?_
          refine lv_iconst (v := iI 1) hx hb d_MO_widely_189 rfl ?_
          refine ix_icmp_ne (tgt := 197) hx hb d_MO_widely_190 (by decide) (by omega) (fun c_190 => ?_) (fun c_190 => ?_)
          · refine lv_iconst (v := iI 0) hx hb d_MO_widely_197 rfl ?_
            subst hQ
            exact W.zret (v := iI 0) hx hb hr (by decide) (fun t h9 hW => ⟨_, rfl, Or.inr ⟨by first | (exfalso; omega) | (rw [show k = 13 by omega]; simp [wideF, grpF] <;> first | assumption | omega | grind), rfl⟩, h9⟩) (fun _ h9 => by cases h9) d_MO_widely_198
          · refine lv_iconst (v := iI 1) hx hb d_MO_widely_193 rfl ?_
            refine lv_goto (tgt := 198) hx hb d_MO_widely_194 (by decide) ?_
            subst hQ
            exact W.zret (v := iI 1) hx hb hr (by decide) (fun t h9 hW => ⟨_, rfl, Or.inl ⟨by first | (exfalso; omega) | (rw [show k = 13 by omega]; simp [wideF, grpF] <;> first | assumption | omega | grind), rfl⟩, h9⟩) (fun _ h9 => by cases h9) d_MO_widely_198
        · refine ix_table (tgt := 199) hx hb d_MO_widely_33 (by omega) 166 (by omega) (by rw [c_33]; rfl) (by decide) ?_
          refine lv_iload hx hb d_MO_widely_199 (lv_at hl 0 rfl) ?_
          subst hQ
          exact W.zret (v := iI 0) hx hb hr (by decide) (fun t h9 hW => ⟨_, rfl, Or.inr ⟨by first | (exfalso; omega) | (rw [show k = 14 by omega]; simp [wideF, grpF] <;> first | assumption | omega | grind), rfl⟩, h9⟩) (fun _ h9 => by cases h9) d_MO_widely_201
        · refine ix_table (tgt := 202) hx hb d_MO_widely_33 (by omega) 169 (by omega) (by rw [c_33]; rfl) (by decide) ?_
          refine lv_iload hx hb d_MO_widely_202 (lv_at hl 0 rfl) ?_
          refine ix_if_ne (tgt := 213) hx hb d_MO_widely_204 (by decide) (by omega) (fun c_204 => ?_) (fun c_204 => ?_)
          · exact absurd c_204 (by decide)
          · refine lv_iload_n hx hb d_MO_widely_207 rfl (lv_at hl 1 rfl) ?_
            refine lv_bipush (v := iI 24) hx hb d_MO_widely_208 (by decide) ?_
            refine ix_icmp_ne (tgt := 217) hx hb d_MO_widely_210 (by decide) (by omega) (fun c_210 => ?_) (fun c_210 => ?_)
            · refine lv_iconst (v := iI 0) hx hb d_MO_widely_217 rfl ?_
              subst hQ
              exact W.zret (v := iI 0) hx hb hr (by decide) (fun t h9 hW => ⟨_, rfl, Or.inr ⟨by first | (exfalso; omega) | (rw [show k = 15 by omega]; simp [wideF, grpF] <;> first | assumption | omega | grind), rfl⟩, h9⟩) (fun _ h9 => by cases h9) d_MO_widely_218
            · refine lv_iconst (v := iI 1) hx hb d_MO_widely_213 rfl ?_
              refine lv_goto (tgt := 218) hx hb d_MO_widely_214 (by decide) ?_
              subst hQ
              exact W.zret (v := iI 1) hx hb hr (by decide) (fun t h9 hW => ⟨_, rfl, Or.inl ⟨by first | (exfalso; omega) | (rw [show k = 15 by omega]; simp [wideF, grpF] <;> first | assumption | omega | grind), rfl⟩, h9⟩) (fun _ h9 => by cases h9) d_MO_widely_218
        · refine ix_table (tgt := 219) hx hb d_MO_widely_33 (by omega) 186 (by omega) (by rw [c_33]; rfl) (by decide) ?_
          refine lv_aload_n hx hb d_MO_widely_219 rfl (lv_at hl 2 rfl) ?_
          refine lv_iconst (v := iI 4) hx hb d_MO_widely_220 rfl ?_
          refine lv_iload_n hx hb d_MO_widely_221 rfl (lv_at hl 1 rfl) ?_
          refine zcV (ci := 4) (q0 := 0) (As := [.int (iI 4), .int (iI (catF c))]) (rest := []) ⟨hx, hb, hml, hown, ht⟩ v_MO_127 (c_MO_general l g r ut uc la wo bw mt ms 4 (catF c) (by omega)) ⟨Nat.le_of_ble_eq_true rfl, Nat.le_of_ble_eq_true rfl⟩ ⟨Nat.zero_le _, Nat.zero_le _⟩ hK hZ hS hP rfl rfl rfl rfl hl.1 rfl (Nat.le_of_ble_eq_true rfl) d_MO_widely_222 (fun r_222 h_222 => ?_)
          rcases h_222 with ⟨h_222, rfl⟩ | ⟨h_222, rfl⟩
          · refine ix_if_ne (tgt := 244) hx hb d_MO_widely_225 (by decide) (by omega) (fun c_225 => ?_) (fun c_225 => ?_)
            · refine lv_iconst (v := iI 1) hx hb d_MO_widely_244 rfl ?_
              refine lv_goto (tgt := 249) hx hb d_MO_widely_245 (by decide) ?_
              subst hQ
              exact W.zret (v := iI 1) hx hb hr (by decide) (fun t h9 hW => ⟨_, rfl, Or.inl ⟨by first | (exfalso; omega) | (rw [show k = 16 by omega]; simp [wideF, grpF] <;> first | assumption | omega | grind), rfl⟩, h9⟩) (fun _ h9 => by cases h9) d_MO_widely_249
            · exact absurd c_225 (by decide)
          · refine ix_if_ne (tgt := 244) hx hb d_MO_widely_225 (by decide) (by omega) (fun c_225 => ?_) (fun c_225 => ?_)
            · exact absurd c_225 (by decide)
            · refine lv_aload_n hx hb d_MO_widely_228 rfl (lv_at hl 2 rfl) ?_
              refine lv_iconst (v := iI 5) hx hb d_MO_widely_229 rfl ?_
              refine lv_iload_n hx hb d_MO_widely_230 rfl (lv_at hl 1 rfl) ?_
              refine zcV (ci := 4) (q0 := 0) (As := [.int (iI 5), .int (iI (catF c))]) (rest := []) ⟨hx, hb, hml, hown, ht⟩ v_MO_127 (c_MO_general l g r ut uc la wo bw mt ms 5 (catF c) (by omega)) ⟨Nat.le_of_ble_eq_true rfl, Nat.le_of_ble_eq_true rfl⟩ ⟨Nat.zero_le _, Nat.zero_le _⟩ hK hZ hS hP rfl rfl rfl rfl hl.1 rfl (Nat.le_of_ble_eq_true rfl) d_MO_widely_231 (fun r_231 h_231 => ?_)
              rcases h_231 with ⟨h_231, rfl⟩ | ⟨h_231, rfl⟩
              · refine ix_if_eq (tgt := 248) hx hb d_MO_widely_234 (by decide) (by omega) (fun c_234 => ?_) (fun c_234 => ?_)
                · exact absurd c_234 (by decide)
                · refine lv_iload_n hx hb d_MO_widely_237 rfl (lv_at hl 4 rfl) ?_
                  refine lv_sipush (v := iI 128) hx hb d_MO_widely_238 (by decide) ?_
                  refine ix_icmp_ge (tgt := 248) hx hb d_MO_widely_241 (by decide) (by omega) (fun c_241 => ?_) (fun c_241 => ?_)
                  · refine lv_iconst (v := iI 0) hx hb d_MO_widely_248 rfl ?_
                    subst hQ
                    exact W.zret (v := iI 0) hx hb hr (by decide) (fun t h9 hW => ⟨_, rfl, Or.inr ⟨by first | (exfalso; omega) | (rw [show k = 16 by omega]; simp [wideF, grpF] <;> first | assumption | omega | grind), rfl⟩, h9⟩) (fun _ h9 => by cases h9) d_MO_widely_249
                  · refine lv_iconst (v := iI 1) hx hb d_MO_widely_244 rfl ?_
                    refine lv_goto (tgt := 249) hx hb d_MO_widely_245 (by decide) ?_
                    subst hQ
                    exact W.zret (v := iI 1) hx hb hr (by decide) (fun t h9 hW => ⟨_, rfl, Or.inl ⟨by first | (exfalso; omega) | (rw [show k = 16 by omega]; simp [wideF, grpF] <;> first | assumption | omega | grind), rfl⟩, h9⟩) (fun _ h9 => by cases h9) d_MO_widely_249
              · refine ix_if_eq (tgt := 248) hx hb d_MO_widely_234 (by decide) (by omega) (fun c_234 => ?_) (fun c_234 => ?_)
                · refine lv_iconst (v := iI 0) hx hb d_MO_widely_248 rfl ?_
                  subst hQ
                  exact W.zret (v := iI 0) hx hb hr (by decide) (fun t h9 hW => ⟨_, rfl, Or.inr ⟨by first | (exfalso; omega) | (rw [show k = 16 by omega]; simp [wideF, grpF] <;> first | assumption | omega | grind), rfl⟩, h9⟩) (fun _ h9 => by cases h9) d_MO_widely_249
                · exact absurd c_234 (by decide)
        · refine ix_tableO (tgt := 250) hx hb d_MO_widely_33 (by omega) c_33 (by decide) ?_
          refine lv_aload_n hx hb d_MO_widely_250 rfl (lv_at hl 2 rfl) ?_
          refine lv_iload_n hx hb d_MO_widely_251 rfl (lv_at hl 3 rfl) ?_
          refine lv_iload_n hx hb d_MO_widely_252 rfl (lv_at hl 4 rfl) ?_
          refine zcV (ci := 4) (q0 := 0) (As := [.int (iI k), .int (iI c)]) (rest := []) ⟨hx, hb, hml, hown, ht⟩ v_MO_146 (c_MO_plainly l g r ut uc la wo bw mt ms k c (by omega) (by omega)) ⟨Nat.le_of_ble_eq_true rfl, Nat.le_of_ble_eq_true rfl⟩ ⟨Nat.zero_le _, Nat.zero_le _⟩ hK hZ hS hP rfl rfl rfl rfl hl.1 rfl (Nat.le_of_ble_eq_true rfl) d_MO_widely_253 (fun r_253 h_253 => ?_)
          rcases h_253 with ⟨h_253, rfl⟩ | ⟨h_253, rfl⟩
          · subst hQ
            exact W.zret (v := iI 1) hx hb hr (by decide) (fun t h9 hW => ⟨_, rfl, Or.inl ⟨by first | (exfalso; omega) | (rw [wide_d (by omega)]; assumption), rfl⟩, h9⟩) (fun _ h9 => by cases h9) d_MO_widely_256
          · subst hQ
            exact W.zret (v := iI 0) hx hb hr (by decide) (fun t h9 hW => ⟨_, rfl, Or.inr ⟨by first | (exfalso; omega) | (rw [wide_d (by omega)]; assumption), rfl⟩, h9⟩) (fun _ h9 => by cases h9) d_MO_widely_256
      · refine lv_iload_n hx hb d_MO_widely_21 rfl (lv_at hl 0 rfl) ?_
        refine ix_if_eq (tgt := 29) hx hb d_MO_widely_22 (by decide) (by omega) (fun c_22 => ?_) (fun c_22 => ?_)
        · refine lv_iconst (v := iI 0) hx hb d_MO_widely_29 rfl ?_
          refine lv_istore (lv' := [(4, .int (iI 0)), (3, .int (iI (catF c))), (0, .ref (r 0)), (1, .int (iI k)), (2, .int (iI c))]) hx hb d_MO_widely_30 hl (by decide) rfl (fun ls hl => ?_)
          refine lv_iload_n hx hb d_MO_widely_32 rfl (lv_at hl 3 rfl) ?_
          rcases (show k = 0 ∨ k = 1 ∨ k = 2 ∨ k = 3 ∨ k = 4 ∨ k = 5 ∨ k = 6 ∨ k = 7 ∨ k = 8 ∨ k = 9 ∨ k = 10 ∨ k = 11 ∨ k = 12 ∨ k = 13 ∨ k = 14 ∨ k = 15 ∨ k = 16 ∨ (k < 0 ∨ 16 < k) from by omega) with c_33 | c_33 | c_33 | c_33 | c_33 | c_33 | c_33 | c_33 | c_33 | c_33 | c_33 | c_33 | c_33 | c_33 | c_33 | c_33 | c_33 | c_33
          · refine ix_table (tgt := 116) hx hb d_MO_widely_33 (by omega) 83 (by omega) (by rw [c_33]; rfl) (by decide) ?_
            refine lv_iload_n hx hb d_MO_widely_116 rfl (lv_at hl 1 rfl) ?_
            refine lv_bipush (v := iI 8) hx hb d_MO_widely_117 (by decide) ?_
            refine ix_icmp_ne (tgt := 126) hx hb d_MO_widely_119 (by decide) (by omega) (fun c_119 => ?_) (fun c_119 => ?_)
            · refine lv_iconst (v := iI 0) hx hb d_MO_widely_126 rfl ?_
              subst hQ
              exact W.zret (v := iI 0) hx hb hr (by decide) (fun t h9 hW => ⟨_, rfl, Or.inr ⟨by first | (exfalso; omega) | (rw [show k = 0 by omega]; simp [wideF, grpF] <;> first | assumption | omega | grind), rfl⟩, h9⟩) (fun _ h9 => by cases h9) d_MO_widely_127
            · refine lv_iconst (v := iI 1) hx hb d_MO_widely_122 rfl ?_
              refine lv_goto (tgt := 127) hx hb d_MO_widely_123 (by decide) ?_
              subst hQ
              exact W.zret (v := iI 1) hx hb hr (by decide) (fun t h9 hW => ⟨_, rfl, Or.inl ⟨by first | (exfalso; omega) | (rw [show k = 0 by omega]; simp [wideF, grpF] <;> first | assumption | omega | grind), rfl⟩, h9⟩) (fun _ h9 => by cases h9) d_MO_widely_127
          · refine ix_table (tgt := 128) hx hb d_MO_widely_33 (by omega) 95 (by omega) (by rw [c_33]; rfl) (by decide) ?_
            refine lv_aload_n hx hb d_MO_widely_128 rfl (lv_at hl 2 rfl) ?_
            refine lv_bipush (v := iI 47) hx hb d_MO_widely_129 (by decide) ?_
            refine lv_iload_n hx hb d_MO_widely_131 rfl (lv_at hl 4 rfl) ?_
            refine zcV (ci := 4) (q0 := 0) (As := [.int (iI 47), .int (iI c)]) (rest := []) ⟨hx, hb, hml, hown, ht⟩ v_MO_134 (c_MO_holds l g r ut uc la wo bw mt ms 47 c (by omega) (by omega)) ⟨Nat.le_of_ble_eq_true rfl, Nat.le_of_ble_eq_true rfl⟩ ⟨Nat.zero_le _, Nat.zero_le _⟩ hK hZ hS hP rfl rfl rfl rfl hl.1 rfl (Nat.le_of_ble_eq_true rfl) d_MO_widely_132 (fun r_132 h_132 => ?_)
            rcases h_132 with ⟨h_132, rfl⟩ | ⟨h_132, rfl⟩
            · subst hQ
              exact W.zret (v := iI 1) hx hb hr (by decide) (fun t h9 hW => ⟨_, rfl, Or.inl ⟨by first | (exfalso; omega) | (rw [show k = 1 by omega]; simp [wideF, grpF] <;> first | assumption | omega | grind), rfl⟩, h9⟩) (fun _ h9 => by cases h9) d_MO_widely_135
            · subst hQ
              exact W.zret (v := iI 0) hx hb hr (by decide) (fun t h9 hW => ⟨_, rfl, Or.inr ⟨by first | (exfalso; omega) | (rw [show k = 1 by omega]; simp [wideF, grpF] <;> first | assumption | omega | grind), rfl⟩, h9⟩) (fun _ h9 => by cases h9) d_MO_widely_135
          · refine ix_table (tgt := 136) hx hb d_MO_widely_33 (by omega) 103 (by omega) (by rw [c_33]; rfl) (by decide) ?_
            refine lv_aload_n hx hb d_MO_widely_136 rfl (lv_at hl 2 rfl) ?_
            refine lv_bipush (v := iI 48) hx hb d_MO_widely_137 (by decide) ?_
            refine lv_iload_n hx hb d_MO_widely_139 rfl (lv_at hl 4 rfl) ?_
            refine zcV (ci := 4) (q0 := 0) (As := [.int (iI 48), .int (iI c)]) (rest := []) ⟨hx, hb, hml, hown, ht⟩ v_MO_134 (c_MO_holds l g r ut uc la wo bw mt ms 48 c (by omega) (by omega)) ⟨Nat.le_of_ble_eq_true rfl, Nat.le_of_ble_eq_true rfl⟩ ⟨Nat.zero_le _, Nat.zero_le _⟩ hK hZ hS hP rfl rfl rfl rfl hl.1 rfl (Nat.le_of_ble_eq_true rfl) d_MO_widely_140 (fun r_140 h_140 => ?_)
            rcases h_140 with ⟨h_140, rfl⟩ | ⟨h_140, rfl⟩
            · subst hQ
              exact W.zret (v := iI 1) hx hb hr (by decide) (fun t h9 hW => ⟨_, rfl, Or.inl ⟨by first | (exfalso; omega) | (rw [show k = 2 by omega]; simp [wideF, grpF] <;> first | assumption | omega | grind), rfl⟩, h9⟩) (fun _ h9 => by cases h9) d_MO_widely_143
            · subst hQ
              exact W.zret (v := iI 0) hx hb hr (by decide) (fun t h9 hW => ⟨_, rfl, Or.inr ⟨by first | (exfalso; omega) | (rw [show k = 2 by omega]; simp [wideF, grpF] <;> first | assumption | omega | grind), rfl⟩, h9⟩) (fun _ h9 => by cases h9) d_MO_widely_143
          · refine ix_table (tgt := 250) hx hb d_MO_widely_33 (by omega) 217 (by omega) (by rw [c_33]; rfl) (by decide) ?_
            refine lv_aload_n hx hb d_MO_widely_250 rfl (lv_at hl 2 rfl) ?_
            refine lv_iload_n hx hb d_MO_widely_251 rfl (lv_at hl 3 rfl) ?_
            refine lv_iload_n hx hb d_MO_widely_252 rfl (lv_at hl 4 rfl) ?_
            refine zcV (ci := 4) (q0 := 0) (As := [.int (iI k), .int (iI c)]) (rest := []) ⟨hx, hb, hml, hown, ht⟩ v_MO_146 (c_MO_plainly l g r ut uc la wo bw mt ms k c (by omega) (by omega)) ⟨Nat.le_of_ble_eq_true rfl, Nat.le_of_ble_eq_true rfl⟩ ⟨Nat.zero_le _, Nat.zero_le _⟩ hK hZ hS hP rfl rfl rfl rfl hl.1 rfl (Nat.le_of_ble_eq_true rfl) d_MO_widely_253 (fun r_253 h_253 => ?_)
            rcases h_253 with ⟨h_253, rfl⟩ | ⟨h_253, rfl⟩
            · subst hQ
              exact W.zret (v := iI 1) hx hb hr (by decide) (fun t h9 hW => ⟨_, rfl, Or.inl ⟨by first | (exfalso; omega) | (rw [show k = 3 by omega]; simp [wideF, grpF] <;> first | assumption | omega | grind), rfl⟩, h9⟩) (fun _ h9 => by cases h9) d_MO_widely_256
            · subst hQ
              exact W.zret (v := iI 0) hx hb hr (by decide) (fun t h9 hW => ⟨_, rfl, Or.inr ⟨by first | (exfalso; omega) | (rw [show k = 3 by omega]; simp [wideF, grpF] <;> first | assumption | omega | grind), rfl⟩, h9⟩) (fun _ h9 => by cases h9) d_MO_widely_256
          · refine ix_table (tgt := 250) hx hb d_MO_widely_33 (by omega) 217 (by omega) (by rw [c_33]; rfl) (by decide) ?_
            refine lv_aload_n hx hb d_MO_widely_250 rfl (lv_at hl 2 rfl) ?_
            refine lv_iload_n hx hb d_MO_widely_251 rfl (lv_at hl 3 rfl) ?_
            refine lv_iload_n hx hb d_MO_widely_252 rfl (lv_at hl 4 rfl) ?_
            refine zcV (ci := 4) (q0 := 0) (As := [.int (iI k), .int (iI c)]) (rest := []) ⟨hx, hb, hml, hown, ht⟩ v_MO_146 (c_MO_plainly l g r ut uc la wo bw mt ms k c (by omega) (by omega)) ⟨Nat.le_of_ble_eq_true rfl, Nat.le_of_ble_eq_true rfl⟩ ⟨Nat.zero_le _, Nat.zero_le _⟩ hK hZ hS hP rfl rfl rfl rfl hl.1 rfl (Nat.le_of_ble_eq_true rfl) d_MO_widely_253 (fun r_253 h_253 => ?_)
            rcases h_253 with ⟨h_253, rfl⟩ | ⟨h_253, rfl⟩
            · subst hQ
              exact W.zret (v := iI 1) hx hb hr (by decide) (fun t h9 hW => ⟨_, rfl, Or.inl ⟨by first | (exfalso; omega) | (rw [show k = 4 by omega]; simp [wideF, grpF] <;> first | assumption | omega | grind), rfl⟩, h9⟩) (fun _ h9 => by cases h9) d_MO_widely_256
            · subst hQ
              exact W.zret (v := iI 0) hx hb hr (by decide) (fun t h9 hW => ⟨_, rfl, Or.inr ⟨by first | (exfalso; omega) | (rw [show k = 4 by omega]; simp [wideF, grpF] <;> first | assumption | omega | grind), rfl⟩, h9⟩) (fun _ h9 => by cases h9) d_MO_widely_256
          · refine ix_table (tgt := 150) hx hb d_MO_widely_33 (by omega) 117 (by omega) (by rw [c_33]; rfl) (by decide) ?_
            refine lv_aload_n hx hb d_MO_widely_150 rfl (lv_at hl 2 rfl) ?_
            refine lv_iconst (v := iI 1) hx hb d_MO_widely_151 rfl ?_
            refine lv_iload_n hx hb d_MO_widely_152 rfl (lv_at hl 1 rfl) ?_
            refine zcV (ci := 4) (q0 := 0) (As := [.int (iI 1), .int (iI (catF c))]) (rest := []) ⟨hx, hb, hml, hown, ht⟩ v_MO_127 (c_MO_general l g r ut uc la wo bw mt ms 1 (catF c) (by omega)) ⟨Nat.le_of_ble_eq_true rfl, Nat.le_of_ble_eq_true rfl⟩ ⟨Nat.zero_le _, Nat.zero_le _⟩ hK hZ hS hP rfl rfl rfl rfl hl.1 rfl (Nat.le_of_ble_eq_true rfl) d_MO_widely_153 (fun r_153 h_153 => ?_)
            rcases h_153 with ⟨h_153, rfl⟩ | ⟨h_153, rfl⟩
            · subst hQ
              exact W.zret (v := iI 1) hx hb hr (by decide) (fun t h9 hW => ⟨_, rfl, Or.inl ⟨by first | (exfalso; omega) | (rw [show k = 5 by omega]; simp [wideF, grpF] <;> first | assumption | omega | grind), rfl⟩, h9⟩) (fun _ h9 => by cases h9) d_MO_widely_156
            · subst hQ
              exact W.zret (v := iI 0) hx hb hr (by decide) (fun t h9 hW => ⟨_, rfl, Or.inr ⟨by first | (exfalso; omega) | (rw [show k = 5 by omega]; simp [wideF, grpF] <;> first | assumption | omega | grind), rfl⟩, h9⟩) (fun _ h9 => by cases h9) d_MO_widely_156
          · refine ix_table (tgt := 157) hx hb d_MO_widely_33 (by omega) 124 (by omega) (by rw [c_33]; rfl) (by decide) ?_
            refine lv_iload_n hx hb d_MO_widely_157 rfl (lv_at hl 1 rfl) ?_
            refine lv_iconst (v := iI 4) hx hb d_MO_widely_158 rfl ?_
            refine ix_icmp_ne (tgt := 166) hx hb d_MO_widely_159 (by decide) (by omega) (fun c_159 => ?_) (fun c_159 => ?_)
            · refine lv_iconst (v := iI 0) hx hb d_MO_widely_166 rfl ?_
              subst hQ
              exact W.zret (v := iI 0) hx hb hr (by decide) (fun t h9 hW => ⟨_, rfl, Or.inr ⟨by first | (exfalso; omega) | (rw [show k = 6 by omega]; simp [wideF, grpF] <;> first | assumption | omega | grind), rfl⟩, h9⟩) (fun _ h9 => by cases h9) d_MO_widely_167
            · refine lv_iconst (v := iI 1) hx hb d_MO_widely_162 rfl ?_
              refine lv_goto (tgt := 167) hx hb d_MO_widely_163 (by decide) ?_
              subst hQ
              exact W.zret (v := iI 1) hx hb hr (by decide) (fun t h9 hW => ⟨_, rfl, Or.inl ⟨by first | (exfalso; omega) | (rw [show k = 6 by omega]; simp [wideF, grpF] <;> first | assumption | omega | grind), rfl⟩, h9⟩) (fun _ h9 => by cases h9) d_MO_widely_167
          · refine ix_table (tgt := 168) hx hb d_MO_widely_33 (by omega) 135 (by omega) (by rw [c_33]; rfl) (by decide) ?_
            refine lv_iload_n hx hb d_MO_widely_168 rfl (lv_at hl 1 rfl) ?_
            refine lv_bipush (v := iI 6) hx hb d_MO_widely_169 (by decide) ?_
            refine ix_icmp_ne (tgt := 178) hx hb d_MO_widely_171 (by decide) (by omega) (fun c_171 => ?_) (fun c_171 => ?_)
            · refine lv_iconst (v := iI 0) hx hb d_MO_widely_178 rfl ?_
              subst hQ
              exact W.zret (v := iI 0) hx hb hr (by decide) (fun t h9 hW => ⟨_, rfl, Or.inr ⟨by first | (exfalso; omega) | (rw [show k = 7 by omega]; simp [wideF, grpF] <;> first | assumption | omega | grind), rfl⟩, h9⟩) (fun _ h9 => by cases h9) d_MO_widely_179
            · refine lv_iconst (v := iI 1) hx hb d_MO_widely_174 rfl ?_
              refine lv_goto (tgt := 179) hx hb d_MO_widely_175 (by decide) ?_
              subst hQ
              exact W.zret (v := iI 1) hx hb hr (by decide) (fun t h9 hW => ⟨_, rfl, Or.inl ⟨by first | (exfalso; omega) | (rw [show k = 7 by omega]; simp [wideF, grpF] <;> first | assumption | omega | grind), rfl⟩, h9⟩) (fun _ h9 => by cases h9) d_MO_widely_179
          · refine ix_table (tgt := 116) hx hb d_MO_widely_33 (by omega) 83 (by omega) (by rw [c_33]; rfl) (by decide) ?_
            refine lv_iload_n hx hb d_MO_widely_116 rfl (lv_at hl 1 rfl) ?_
            refine lv_bipush (v := iI 8) hx hb d_MO_widely_117 (by decide) ?_
            refine ix_icmp_ne (tgt := 126) hx hb d_MO_widely_119 (by decide) (by omega) (fun c_119 => ?_) (fun c_119 => ?_)
            · refine lv_iconst (v := iI 0) hx hb d_MO_widely_126 rfl ?_
              subst hQ
              exact W.zret (v := iI 0) hx hb hr (by decide) (fun t h9 hW => ⟨_, rfl, Or.inr ⟨by first | (exfalso; omega) | (rw [show k = 8 by omega]; simp [wideF, grpF] <;> first | assumption | omega | grind), rfl⟩, h9⟩) (fun _ h9 => by cases h9) d_MO_widely_127
            · refine lv_iconst (v := iI 1) hx hb d_MO_widely_122 rfl ?_
              refine lv_goto (tgt := 127) hx hb d_MO_widely_123 (by decide) ?_
              subst hQ
              exact W.zret (v := iI 1) hx hb hr (by decide) (fun t h9 hW => ⟨_, rfl, Or.inl ⟨by first | (exfalso; omega) | (rw [show k = 8 by omega]; simp [wideF, grpF] <;> first | assumption | omega | grind), rfl⟩, h9⟩) (fun _ h9 => by cases h9) d_MO_widely_127
          · refine ix_table (tgt := 180) hx hb d_MO_widely_33 (by omega) 147 (by omega) (by rw [c_33]; rfl) (by decide) ?_
            refine lv_aload_n hx hb d_MO_widely_180 rfl (lv_at hl 2 rfl) ?_
            refine lv_bipush (v := iI 46) hx hb d_MO_widely_181 (by decide) ?_
            refine lv_iload_n hx hb d_MO_widely_183 rfl (lv_at hl 4 rfl) ?_
            refine zcV (ci := 4) (q0 := 0) (As := [.int (iI 46), .int (iI c)]) (rest := []) ⟨hx, hb, hml, hown, ht⟩ v_MO_134 (c_MO_holds l g r ut uc la wo bw mt ms 46 c (by omega) (by omega)) ⟨Nat.le_of_ble_eq_true rfl, Nat.le_of_ble_eq_true rfl⟩ ⟨Nat.zero_le _, Nat.zero_le _⟩ hK hZ hS hP rfl rfl rfl rfl hl.1 rfl (Nat.le_of_ble_eq_true rfl) d_MO_widely_184 (fun r_184 h_184 => ?_)
            rcases h_184 with ⟨h_184, rfl⟩ | ⟨h_184, rfl⟩
            · subst hQ
              exact W.zret (v := iI 1) hx hb hr (by decide) (fun t h9 hW => ⟨_, rfl, Or.inl ⟨by first | (exfalso; omega) | (rw [show k = 9 by omega]; simp [wideF, grpF] <;> first | assumption | omega | grind), rfl⟩, h9⟩) (fun _ h9 => by cases h9) d_MO_widely_187
            · subst hQ
              exact W.zret (v := iI 0) hx hb hr (by decide) (fun t h9 hW => ⟨_, rfl, Or.inr ⟨by first | (exfalso; omega) | (rw [show k = 9 by omega]; simp [wideF, grpF] <;> first | assumption | omega | grind), rfl⟩, h9⟩) (fun _ h9 => by cases h9) d_MO_widely_187
          · refine ix_table (tgt := 128) hx hb d_MO_widely_33 (by omega) 95 (by omega) (by rw [c_33]; rfl) (by decide) ?_
            refine lv_aload_n hx hb d_MO_widely_128 rfl (lv_at hl 2 rfl) ?_
            refine lv_bipush (v := iI 47) hx hb d_MO_widely_129 (by decide) ?_
            refine lv_iload_n hx hb d_MO_widely_131 rfl (lv_at hl 4 rfl) ?_
            refine zcV (ci := 4) (q0 := 0) (As := [.int (iI 47), .int (iI c)]) (rest := []) ⟨hx, hb, hml, hown, ht⟩ v_MO_134 (c_MO_holds l g r ut uc la wo bw mt ms 47 c (by omega) (by omega)) ⟨Nat.le_of_ble_eq_true rfl, Nat.le_of_ble_eq_true rfl⟩ ⟨Nat.zero_le _, Nat.zero_le _⟩ hK hZ hS hP rfl rfl rfl rfl hl.1 rfl (Nat.le_of_ble_eq_true rfl) d_MO_widely_132 (fun r_132 h_132 => ?_)
            rcases h_132 with ⟨h_132, rfl⟩ | ⟨h_132, rfl⟩
            · subst hQ
              exact W.zret (v := iI 1) hx hb hr (by decide) (fun t h9 hW => ⟨_, rfl, Or.inl ⟨by first | (exfalso; omega) | (rw [show k = 10 by omega]; simp [wideF, grpF] <;> first | assumption | omega | grind), rfl⟩, h9⟩) (fun _ h9 => by cases h9) d_MO_widely_135
            · subst hQ
              exact W.zret (v := iI 0) hx hb hr (by decide) (fun t h9 hW => ⟨_, rfl, Or.inr ⟨by first | (exfalso; omega) | (rw [show k = 10 by omega]; simp [wideF, grpF] <;> first | assumption | omega | grind), rfl⟩, h9⟩) (fun _ h9 => by cases h9) d_MO_widely_135
          · refine ix_table (tgt := 136) hx hb d_MO_widely_33 (by omega) 103 (by omega) (by rw [c_33]; rfl) (by decide) ?_
            refine lv_aload_n hx hb d_MO_widely_136 rfl (lv_at hl 2 rfl) ?_
            refine lv_bipush (v := iI 48) hx hb d_MO_widely_137 (by decide) ?_
            refine lv_iload_n hx hb d_MO_widely_139 rfl (lv_at hl 4 rfl) ?_
            refine zcV (ci := 4) (q0 := 0) (As := [.int (iI 48), .int (iI c)]) (rest := []) ⟨hx, hb, hml, hown, ht⟩ v_MO_134 (c_MO_holds l g r ut uc la wo bw mt ms 48 c (by omega) (by omega)) ⟨Nat.le_of_ble_eq_true rfl, Nat.le_of_ble_eq_true rfl⟩ ⟨Nat.zero_le _, Nat.zero_le _⟩ hK hZ hS hP rfl rfl rfl rfl hl.1 rfl (Nat.le_of_ble_eq_true rfl) d_MO_widely_140 (fun r_140 h_140 => ?_)
            rcases h_140 with ⟨h_140, rfl⟩ | ⟨h_140, rfl⟩
            · subst hQ
              exact W.zret (v := iI 1) hx hb hr (by decide) (fun t h9 hW => ⟨_, rfl, Or.inl ⟨by first | (exfalso; omega) | (rw [show k = 11 by omega]; simp [wideF, grpF] <;> first | assumption | omega | grind), rfl⟩, h9⟩) (fun _ h9 => by cases h9) d_MO_widely_143
            · subst hQ
              exact W.zret (v := iI 0) hx hb hr (by decide) (fun t h9 hW => ⟨_, rfl, Or.inr ⟨by first | (exfalso; omega) | (rw [show k = 11 by omega]; simp [wideF, grpF] <;> first | assumption | omega | grind), rfl⟩, h9⟩) (fun _ h9 => by cases h9) d_MO_widely_143
          · refine ix_table (tgt := 144) hx hb d_MO_widely_33 (by omega) 111 (by omega) (by rw [c_33]; rfl) (by decide) ?_
            refine lv_aload_n hx hb d_MO_widely_144 rfl (lv_at hl 2 rfl) ?_
            refine lv_iload_n hx hb d_MO_widely_145 rfl (lv_at hl 4 rfl) ?_
            refine zcV (ci := 4) (q0 := 0) (As := [.int (iI c)]) (rest := []) ⟨hx, hb, hml, hown, ht⟩ v_MO_143 (c_MO_blank l g r ut uc la wo bw mt ms c (by omega)) ⟨Nat.le_of_ble_eq_true rfl, Nat.le_of_ble_eq_true rfl⟩ ⟨Nat.zero_le _, Nat.zero_le _⟩ hK hZ hS hP rfl rfl rfl rfl hl.1 rfl (Nat.le_of_ble_eq_true rfl) d_MO_widely_146 (fun r_146 h_146 => ?_)
            rcases h_146 with ⟨h_146, rfl⟩ | ⟨h_146, rfl⟩
            · subst hQ
              exact W.zret (v := iI 1) hx hb hr (by decide) (fun t h9 hW => ⟨_, rfl, Or.inl ⟨by first | (exfalso; omega) | (rw [show k = 12 by omega]; simp [wideF, grpF] <;> first | assumption | omega | grind), rfl⟩, h9⟩) (fun _ h9 => by cases h9) d_MO_widely_149
            · subst hQ
              exact W.zret (v := iI 0) hx hb hr (by decide) (fun t h9 hW => ⟨_, rfl, Or.inr ⟨by first | (exfalso; omega) | (rw [show k = 12 by omega]; simp [wideF, grpF] <;> first | assumption | omega | grind), rfl⟩, h9⟩) (fun _ h9 => by cases h9) d_MO_widely_149
          · refine ix_table (tgt := 188) hx hb d_MO_widely_33 (by omega) 155 (by omega) (by rw [c_33]; rfl) (by decide) ?_
            refine lv_iload_n hx hb d_MO_widely_188 rfl (lv_at hl 1 rfl) ?_
            refine lv_iconst (v := iI 1) hx hb d_MO_widely_189 rfl ?_
            refine ix_icmp_ne (tgt := 197) hx hb d_MO_widely_190 (by decide) (by omega) (fun c_190 => ?_) (fun c_190 => ?_)
            · refine lv_iconst (v := iI 0) hx hb d_MO_widely_197 rfl ?_
              subst hQ
              exact W.zret (v := iI 0) hx hb hr (by decide) (fun t h9 hW => ⟨_, rfl, Or.inr ⟨by first | (exfalso; omega) | (rw [show k = 13 by omega]; simp [wideF, grpF] <;> first | assumption | omega | grind), rfl⟩, h9⟩) (fun _ h9 => by cases h9) d_MO_widely_198
            · refine lv_iconst (v := iI 1) hx hb d_MO_widely_193 rfl ?_
              refine lv_goto (tgt := 198) hx hb d_MO_widely_194 (by decide) ?_
              subst hQ
              exact W.zret (v := iI 1) hx hb hr (by decide) (fun t h9 hW => ⟨_, rfl, Or.inl ⟨by first | (exfalso; omega) | (rw [show k = 13 by omega]; simp [wideF, grpF] <;> first | assumption | omega | grind), rfl⟩, h9⟩) (fun _ h9 => by cases h9) d_MO_widely_198
          · refine ix_table (tgt := 199) hx hb d_MO_widely_33 (by omega) 166 (by omega) (by rw [c_33]; rfl) (by decide) ?_
            refine lv_iload hx hb d_MO_widely_199 (lv_at hl 0 rfl) ?_
            subst hQ
            exact W.zret (v := iI 0) hx hb hr (by decide) (fun t h9 hW => ⟨_, rfl, Or.inr ⟨by first | (exfalso; omega) | (rw [show k = 14 by omega]; simp [wideF, grpF] <;> first | assumption | omega | grind), rfl⟩, h9⟩) (fun _ h9 => by cases h9) d_MO_widely_201
          · refine ix_table (tgt := 202) hx hb d_MO_widely_33 (by omega) 169 (by omega) (by rw [c_33]; rfl) (by decide) ?_
            refine lv_iload hx hb d_MO_widely_202 (lv_at hl 0 rfl) ?_
            refine ix_if_ne (tgt := 213) hx hb d_MO_widely_204 (by decide) (by omega) (fun c_204 => ?_) (fun c_204 => ?_)
            · exact absurd c_204 (by decide)
            · refine lv_iload_n hx hb d_MO_widely_207 rfl (lv_at hl 1 rfl) ?_
              refine lv_bipush (v := iI 24) hx hb d_MO_widely_208 (by decide) ?_
              refine ix_icmp_ne (tgt := 217) hx hb d_MO_widely_210 (by decide) (by omega) (fun c_210 => ?_) (fun c_210 => ?_)
              · refine lv_iconst (v := iI 0) hx hb d_MO_widely_217 rfl ?_
                subst hQ
                exact W.zret (v := iI 0) hx hb hr (by decide) (fun t h9 hW => ⟨_, rfl, Or.inr ⟨by first | (exfalso; omega) | (rw [show k = 15 by omega]; simp [wideF, grpF] <;> first | assumption | omega | grind), rfl⟩, h9⟩) (fun _ h9 => by cases h9) d_MO_widely_218
              · refine lv_iconst (v := iI 1) hx hb d_MO_widely_213 rfl ?_
                refine lv_goto (tgt := 218) hx hb d_MO_widely_214 (by decide) ?_
                subst hQ
                exact W.zret (v := iI 1) hx hb hr (by decide) (fun t h9 hW => ⟨_, rfl, Or.inl ⟨by first | (exfalso; omega) | (rw [show k = 15 by omega]; simp [wideF, grpF] <;> first | assumption | omega | grind), rfl⟩, h9⟩) (fun _ h9 => by cases h9) d_MO_widely_218
          · refine ix_table (tgt := 219) hx hb d_MO_widely_33 (by omega) 186 (by omega) (by rw [c_33]; rfl) (by decide) ?_
            refine lv_aload_n hx hb d_MO_widely_219 rfl (lv_at hl 2 rfl) ?_
            refine lv_iconst (v := iI 4) hx hb d_MO_widely_220 rfl ?_
            refine lv_iload_n hx hb d_MO_widely_221 rfl (lv_at hl 1 rfl) ?_
            refine zcV (ci := 4) (q0 := 0) (As := [.int (iI 4), .int (iI (catF c))]) (rest := []) ⟨hx, hb, hml, hown, ht⟩ v_MO_127 (c_MO_general l g r ut uc la wo bw mt ms 4 (catF c) (by omega)) ⟨Nat.le_of_ble_eq_true rfl, Nat.le_of_ble_eq_true rfl⟩ ⟨Nat.zero_le _, Nat.zero_le _⟩ hK hZ hS hP rfl rfl rfl rfl hl.1 rfl (Nat.le_of_ble_eq_true rfl) d_MO_widely_222 (fun r_222 h_222 => ?_)
            rcases h_222 with ⟨h_222, rfl⟩ | ⟨h_222, rfl⟩
            · refine ix_if_ne (tgt := 244) hx hb d_MO_widely_225 (by decide) (by omega) (fun c_225 => ?_) (fun c_225 => ?_)
              · refine lv_iconst (v := iI 1) hx hb d_MO_widely_244 rfl ?_
                refine lv_goto (tgt := 249) hx hb d_MO_widely_245 (by decide) ?_
                subst hQ
                exact W.zret (v := iI 1) hx hb hr (by decide) (fun t h9 hW => ⟨_, rfl, Or.inl ⟨by first | (exfalso; omega) | (rw [show k = 16 by omega]; simp [wideF, grpF] <;> first | assumption | omega | grind), rfl⟩, h9⟩) (fun _ h9 => by cases h9) d_MO_widely_249
              · exact absurd c_225 (by decide)
            · refine ix_if_ne (tgt := 244) hx hb d_MO_widely_225 (by decide) (by omega) (fun c_225 => ?_) (fun c_225 => ?_)
              · exact absurd c_225 (by decide)
              · refine lv_aload_n hx hb d_MO_widely_228 rfl (lv_at hl 2 rfl) ?_
                refine lv_iconst (v := iI 5) hx hb d_MO_widely_229 rfl ?_
                refine lv_iload_n hx hb d_MO_widely_230 rfl (lv_at hl 1 rfl) ?_
                refine zcV (ci := 4) (q0 := 0) (As := [.int (iI 5), .int (iI (catF c))]) (rest := []) ⟨hx, hb, hml, hown, ht⟩ v_MO_127 (c_MO_general l g r ut uc la wo bw mt ms 5 (catF c) (by omega)) ⟨Nat.le_of_ble_eq_true rfl, Nat.le_of_ble_eq_true rfl⟩ ⟨Nat.zero_le _, Nat.zero_le _⟩ hK hZ hS hP rfl rfl rfl rfl hl.1 rfl (Nat.le_of_ble_eq_true rfl) d_MO_widely_231 (fun r_231 h_231 => ?_)
                rcases h_231 with ⟨h_231, rfl⟩ | ⟨h_231, rfl⟩
                · refine ix_if_eq (tgt := 248) hx hb d_MO_widely_234 (by decide) (by omega) (fun c_234 => ?_) (fun c_234 => ?_)
                  · exact absurd c_234 (by decide)
                  · refine lv_iload_n hx hb d_MO_widely_237 rfl (lv_at hl 4 rfl) ?_
                    refine lv_sipush (v := iI 128) hx hb d_MO_widely_238 (by decide) ?_
                    refine ix_icmp_ge (tgt := 248) hx hb d_MO_widely_241 (by decide) (by omega) (fun c_241 => ?_) (fun c_241 => ?_)
                    · refine lv_iconst (v := iI 0) hx hb d_MO_widely_248 rfl ?_
                      subst hQ
                      exact W.zret (v := iI 0) hx hb hr (by decide) (fun t h9 hW => ⟨_, rfl, Or.inr ⟨by first | (exfalso; omega) | (rw [show k = 16 by omega]; simp [wideF, grpF] <;> first | assumption | omega | grind), rfl⟩, h9⟩) (fun _ h9 => by cases h9) d_MO_widely_249
                    · refine lv_iconst (v := iI 1) hx hb d_MO_widely_244 rfl ?_
                      refine lv_goto (tgt := 249) hx hb d_MO_widely_245 (by decide) ?_
                      subst hQ
                      exact W.zret (v := iI 1) hx hb hr (by decide) (fun t h9 hW => ⟨_, rfl, Or.inl ⟨by first | (exfalso; omega) | (rw [show k = 16 by omega]; simp [wideF, grpF] <;> first | assumption | omega | grind), rfl⟩, h9⟩) (fun _ h9 => by cases h9) d_MO_widely_249
                · refine ix_if_eq (tgt := 248) hx hb d_MO_widely_234 (by decide) (by omega) (fun c_234 => ?_) (fun c_234 => ?_)
                  · refine lv_iconst (v := iI 0) hx hb d_MO_widely_248 rfl ?_
                    subst hQ
                    exact W.zret (v := iI 0) hx hb hr (by decide) (fun t h9 hW => ⟨_, rfl, Or.inr ⟨by first | (exfalso; omega) | (rw [show k = 16 by omega]; simp [wideF, grpF] <;> first | assumption | omega | grind), rfl⟩, h9⟩) (fun _ h9 => by cases h9) d_MO_widely_249
                  · exact absurd c_234 (by decide)
          · refine ix_tableO (tgt := 250) hx hb d_MO_widely_33 (by omega) c_33 (by decide) ?_
            refine lv_aload_n hx hb d_MO_widely_250 rfl (lv_at hl 2 rfl) ?_
            refine lv_iload_n hx hb d_MO_widely_251 rfl (lv_at hl 3 rfl) ?_
            refine lv_iload_n hx hb d_MO_widely_252 rfl (lv_at hl 4 rfl) ?_
            refine zcV (ci := 4) (q0 := 0) (As := [.int (iI k), .int (iI c)]) (rest := []) ⟨hx, hb, hml, hown, ht⟩ v_MO_146 (c_MO_plainly l g r ut uc la wo bw mt ms k c (by omega) (by omega)) ⟨Nat.le_of_ble_eq_true rfl, Nat.le_of_ble_eq_true rfl⟩ ⟨Nat.zero_le _, Nat.zero_le _⟩ hK hZ hS hP rfl rfl rfl rfl hl.1 rfl (Nat.le_of_ble_eq_true rfl) d_MO_widely_253 (fun r_253 h_253 => ?_)
            rcases h_253 with ⟨h_253, rfl⟩ | ⟨h_253, rfl⟩
            · subst hQ
              exact W.zret (v := iI 1) hx hb hr (by decide) (fun t h9 hW => ⟨_, rfl, Or.inl ⟨by first | (exfalso; omega) | (rw [wide_d (by omega)]; assumption), rfl⟩, h9⟩) (fun _ h9 => by cases h9) d_MO_widely_256
            · subst hQ
              exact W.zret (v := iI 0) hx hb hr (by decide) (fun t h9 hW => ⟨_, rfl, Or.inr ⟨by first | (exfalso; omega) | (rw [wide_d (by omega)]; assumption), rfl⟩, h9⟩) (fun _ h9 => by cases h9) d_MO_widely_256
        · refine lv_iconst (v := iI 1) hx hb d_MO_widely_25 rfl ?_
          refine lv_goto (tgt := 30) hx hb d_MO_widely_26 (by decide) ?_
          refine lv_istore (lv' := [(4, .int (iI 1)), (3, .int (iI (catF c))), (0, .ref (r 0)), (1, .int (iI k)), (2, .int (iI c))]) hx hb d_MO_widely_30 hl (by decide) rfl (fun ls hl => ?_)
          refine lv_iload_n hx hb d_MO_widely_32 rfl (lv_at hl 3 rfl) ?_
          rcases (show k = 0 ∨ k = 1 ∨ k = 2 ∨ k = 3 ∨ k = 4 ∨ k = 5 ∨ k = 6 ∨ k = 7 ∨ k = 8 ∨ k = 9 ∨ k = 10 ∨ k = 11 ∨ k = 12 ∨ k = 13 ∨ k = 14 ∨ k = 15 ∨ k = 16 ∨ (k < 0 ∨ 16 < k) from by omega) with c_33 | c_33 | c_33 | c_33 | c_33 | c_33 | c_33 | c_33 | c_33 | c_33 | c_33 | c_33 | c_33 | c_33 | c_33 | c_33 | c_33 | c_33
          · refine ix_table (tgt := 116) hx hb d_MO_widely_33 (by omega) 83 (by omega) (by rw [c_33]; rfl) (by decide) ?_
            refine lv_iload_n hx hb d_MO_widely_116 rfl (lv_at hl 1 rfl) ?_
            refine lv_bipush (v := iI 8) hx hb d_MO_widely_117 (by decide) ?_
            refine ix_icmp_ne (tgt := 126) hx hb d_MO_widely_119 (by decide) (by omega) (fun c_119 => ?_) (fun c_119 => ?_)
            · refine lv_iconst (v := iI 0) hx hb d_MO_widely_126 rfl ?_
              subst hQ
              exact W.zret (v := iI 0) hx hb hr (by decide) (fun t h9 hW => ⟨_, rfl, Or.inr ⟨by first | (exfalso; omega) | (rw [show k = 0 by omega]; simp [wideF, grpF] <;> first | assumption | omega | grind), rfl⟩, h9⟩) (fun _ h9 => by cases h9) d_MO_widely_127
            · refine lv_iconst (v := iI 1) hx hb d_MO_widely_122 rfl ?_
              refine lv_goto (tgt := 127) hx hb d_MO_widely_123 (by decide) ?_
              subst hQ
              exact W.zret (v := iI 1) hx hb hr (by decide) (fun t h9 hW => ⟨_, rfl, Or.inl ⟨by first | (exfalso; omega) | (rw [show k = 0 by omega]; simp [wideF, grpF] <;> first | assumption | omega | grind), rfl⟩, h9⟩) (fun _ h9 => by cases h9) d_MO_widely_127
          · refine ix_table (tgt := 128) hx hb d_MO_widely_33 (by omega) 95 (by omega) (by rw [c_33]; rfl) (by decide) ?_
            refine lv_aload_n hx hb d_MO_widely_128 rfl (lv_at hl 2 rfl) ?_
            refine lv_bipush (v := iI 47) hx hb d_MO_widely_129 (by decide) ?_
            refine lv_iload_n hx hb d_MO_widely_131 rfl (lv_at hl 4 rfl) ?_
            refine zcV (ci := 4) (q0 := 0) (As := [.int (iI 47), .int (iI c)]) (rest := []) ⟨hx, hb, hml, hown, ht⟩ v_MO_134 (c_MO_holds l g r ut uc la wo bw mt ms 47 c (by omega) (by omega)) ⟨Nat.le_of_ble_eq_true rfl, Nat.le_of_ble_eq_true rfl⟩ ⟨Nat.zero_le _, Nat.zero_le _⟩ hK hZ hS hP rfl rfl rfl rfl hl.1 rfl (Nat.le_of_ble_eq_true rfl) d_MO_widely_132 (fun r_132 h_132 => ?_)
            rcases h_132 with ⟨h_132, rfl⟩ | ⟨h_132, rfl⟩
            · subst hQ
              exact W.zret (v := iI 1) hx hb hr (by decide) (fun t h9 hW => ⟨_, rfl, Or.inl ⟨by first | (exfalso; omega) | (rw [show k = 1 by omega]; simp [wideF, grpF] <;> first | assumption | omega | grind), rfl⟩, h9⟩) (fun _ h9 => by cases h9) d_MO_widely_135
            · subst hQ
              exact W.zret (v := iI 0) hx hb hr (by decide) (fun t h9 hW => ⟨_, rfl, Or.inr ⟨by first | (exfalso; omega) | (rw [show k = 1 by omega]; simp [wideF, grpF] <;> first | assumption | omega | grind), rfl⟩, h9⟩) (fun _ h9 => by cases h9) d_MO_widely_135
          · refine ix_table (tgt := 136) hx hb d_MO_widely_33 (by omega) 103 (by omega) (by rw [c_33]; rfl) (by decide) ?_
            refine lv_aload_n hx hb d_MO_widely_136 rfl (lv_at hl 2 rfl) ?_
            refine lv_bipush (v := iI 48) hx hb d_MO_widely_137 (by decide) ?_
            refine lv_iload_n hx hb d_MO_widely_139 rfl (lv_at hl 4 rfl) ?_
            refine zcV (ci := 4) (q0 := 0) (As := [.int (iI 48), .int (iI c)]) (rest := []) ⟨hx, hb, hml, hown, ht⟩ v_MO_134 (c_MO_holds l g r ut uc la wo bw mt ms 48 c (by omega) (by omega)) ⟨Nat.le_of_ble_eq_true rfl, Nat.le_of_ble_eq_true rfl⟩ ⟨Nat.zero_le _, Nat.zero_le _⟩ hK hZ hS hP rfl rfl rfl rfl hl.1 rfl (Nat.le_of_ble_eq_true rfl) d_MO_widely_140 (fun r_140 h_140 => ?_)
            rcases h_140 with ⟨h_140, rfl⟩ | ⟨h_140, rfl⟩
            · subst hQ
              exact W.zret (v := iI 1) hx hb hr (by decide) (fun t h9 hW => ⟨_, rfl, Or.inl ⟨by first | (exfalso; omega) | (rw [show k = 2 by omega]; simp [wideF, grpF] <;> first | assumption | omega | grind), rfl⟩, h9⟩) (fun _ h9 => by cases h9) d_MO_widely_143
            · subst hQ
              exact W.zret (v := iI 0) hx hb hr (by decide) (fun t h9 hW => ⟨_, rfl, Or.inr ⟨by first | (exfalso; omega) | (rw [show k = 2 by omega]; simp [wideF, grpF] <;> first | assumption | omega | grind), rfl⟩, h9⟩) (fun _ h9 => by cases h9) d_MO_widely_143
          · refine ix_table (tgt := 250) hx hb d_MO_widely_33 (by omega) 217 (by omega) (by rw [c_33]; rfl) (by decide) ?_
            refine lv_aload_n hx hb d_MO_widely_250 rfl (lv_at hl 2 rfl) ?_
            refine lv_iload_n hx hb d_MO_widely_251 rfl (lv_at hl 3 rfl) ?_
            refine lv_iload_n hx hb d_MO_widely_252 rfl (lv_at hl 4 rfl) ?_
            refine zcV (ci := 4) (q0 := 0) (As := [.int (iI k), .int (iI c)]) (rest := []) ⟨hx, hb, hml, hown, ht⟩ v_MO_146 (c_MO_plainly l g r ut uc la wo bw mt ms k c (by omega) (by omega)) ⟨Nat.le_of_ble_eq_true rfl, Nat.le_of_ble_eq_true rfl⟩ ⟨Nat.zero_le _, Nat.zero_le _⟩ hK hZ hS hP rfl rfl rfl rfl hl.1 rfl (Nat.le_of_ble_eq_true rfl) d_MO_widely_253 (fun r_253 h_253 => ?_)
            rcases h_253 with ⟨h_253, rfl⟩ | ⟨h_253, rfl⟩
            · subst hQ
              exact W.zret (v := iI 1) hx hb hr (by decide) (fun t h9 hW => ⟨_, rfl, Or.inl ⟨by first | (exfalso; omega) | (rw [show k = 3 by omega]; simp [wideF, grpF] <;> first | assumption | omega | grind), rfl⟩, h9⟩) (fun _ h9 => by cases h9) d_MO_widely_256
            · subst hQ
              exact W.zret (v := iI 0) hx hb hr (by decide) (fun t h9 hW => ⟨_, rfl, Or.inr ⟨by first | (exfalso; omega) | (rw [show k = 3 by omega]; simp [wideF, grpF] <;> first | assumption | omega | grind), rfl⟩, h9⟩) (fun _ h9 => by cases h9) d_MO_widely_256
          · refine ix_table (tgt := 250) hx hb d_MO_widely_33 (by omega) 217 (by omega) (by rw [c_33]; rfl) (by decide) ?_
            refine lv_aload_n hx hb d_MO_widely_250 rfl (lv_at hl 2 rfl) ?_
            refine lv_iload_n hx hb d_MO_widely_251 rfl (lv_at hl 3 rfl) ?_
            refine lv_iload_n hx hb d_MO_widely_252 rfl (lv_at hl 4 rfl) ?_
            refine zcV (ci := 4) (q0 := 0) (As := [.int (iI k), .int (iI c)]) (rest := []) ⟨hx, hb, hml, hown, ht⟩ v_MO_146 (c_MO_plainly l g r ut uc la wo bw mt ms k c (by omega) (by omega)) ⟨Nat.le_of_ble_eq_true rfl, Nat.le_of_ble_eq_true rfl⟩ ⟨Nat.zero_le _, Nat.zero_le _⟩ hK hZ hS hP rfl rfl rfl rfl hl.1 rfl (Nat.le_of_ble_eq_true rfl) d_MO_widely_253 (fun r_253 h_253 => ?_)
            rcases h_253 with ⟨h_253, rfl⟩ | ⟨h_253, rfl⟩
            · subst hQ
              exact W.zret (v := iI 1) hx hb hr (by decide) (fun t h9 hW => ⟨_, rfl, Or.inl ⟨by first | (exfalso; omega) | (rw [show k = 4 by omega]; simp [wideF, grpF] <;> first | assumption | omega | grind), rfl⟩, h9⟩) (fun _ h9 => by cases h9) d_MO_widely_256
            · subst hQ
              exact W.zret (v := iI 0) hx hb hr (by decide) (fun t h9 hW => ⟨_, rfl, Or.inr ⟨by first | (exfalso; omega) | (rw [show k = 4 by omega]; simp [wideF, grpF] <;> first | assumption | omega | grind), rfl⟩, h9⟩) (fun _ h9 => by cases h9) d_MO_widely_256
          · refine ix_table (tgt := 150) hx hb d_MO_widely_33 (by omega) 117 (by omega) (by rw [c_33]; rfl) (by decide) ?_
            refine lv_aload_n hx hb d_MO_widely_150 rfl (lv_at hl 2 rfl) ?_
            refine lv_iconst (v := iI 1) hx hb d_MO_widely_151 rfl ?_
            refine lv_iload_n hx hb d_MO_widely_152 rfl (lv_at hl 1 rfl) ?_
            refine zcV (ci := 4) (q0 := 0) (As := [.int (iI 1), .int (iI (catF c))]) (rest := []) ⟨hx, hb, hml, hown, ht⟩ v_MO_127 (c_MO_general l g r ut uc la wo bw mt ms 1 (catF c) (by omega)) ⟨Nat.le_of_ble_eq_true rfl, Nat.le_of_ble_eq_true rfl⟩ ⟨Nat.zero_le _, Nat.zero_le _⟩ hK hZ hS hP rfl rfl rfl rfl hl.1 rfl (Nat.le_of_ble_eq_true rfl) d_MO_widely_153 (fun r_153 h_153 => ?_)
            rcases h_153 with ⟨h_153, rfl⟩ | ⟨h_153, rfl⟩
            · subst hQ
              exact W.zret (v := iI 1) hx hb hr (by decide) (fun t h9 hW => ⟨_, rfl, Or.inl ⟨by first | (exfalso; omega) | (rw [show k = 5 by omega]; simp [wideF, grpF] <;> first | assumption | omega | grind), rfl⟩, h9⟩) (fun _ h9 => by cases h9) d_MO_widely_156
            · subst hQ
              exact W.zret (v := iI 0) hx hb hr (by decide) (fun t h9 hW => ⟨_, rfl, Or.inr ⟨by first | (exfalso; omega) | (rw [show k = 5 by omega]; simp [wideF, grpF] <;> first | assumption | omega | grind), rfl⟩, h9⟩) (fun _ h9 => by cases h9) d_MO_widely_156
          · refine ix_table (tgt := 157) hx hb d_MO_widely_33 (by omega) 124 (by omega) (by rw [c_33]; rfl) (by decide) ?_
            refine lv_iload_n hx hb d_MO_widely_157 rfl (lv_at hl 1 rfl) ?_
            refine lv_iconst (v := iI 4) hx hb d_MO_widely_158 rfl ?_
            refine ix_icmp_ne (tgt := 166) hx hb d_MO_widely_159 (by decide) (by omega) (fun c_159 => ?_) (fun c_159 => ?_)
            · refine lv_iconst (v := iI 0) hx hb d_MO_widely_166 rfl ?_
              subst hQ
              exact W.zret (v := iI 0) hx hb hr (by decide) (fun t h9 hW => ⟨_, rfl, Or.inr ⟨by first | (exfalso; omega) | (rw [show k = 6 by omega]; simp [wideF, grpF] <;> first | assumption | omega | grind), rfl⟩, h9⟩) (fun _ h9 => by cases h9) d_MO_widely_167
            · refine lv_iconst (v := iI 1) hx hb d_MO_widely_162 rfl ?_
              refine lv_goto (tgt := 167) hx hb d_MO_widely_163 (by decide) ?_
              subst hQ
              exact W.zret (v := iI 1) hx hb hr (by decide) (fun t h9 hW => ⟨_, rfl, Or.inl ⟨by first | (exfalso; omega) | (rw [show k = 6 by omega]; simp [wideF, grpF] <;> first | assumption | omega | grind), rfl⟩, h9⟩) (fun _ h9 => by cases h9) d_MO_widely_167
          · refine ix_table (tgt := 168) hx hb d_MO_widely_33 (by omega) 135 (by omega) (by rw [c_33]; rfl) (by decide) ?_
            refine lv_iload_n hx hb d_MO_widely_168 rfl (lv_at hl 1 rfl) ?_
            refine lv_bipush (v := iI 6) hx hb d_MO_widely_169 (by decide) ?_
            refine ix_icmp_ne (tgt := 178) hx hb d_MO_widely_171 (by decide) (by omega) (fun c_171 => ?_) (fun c_171 => ?_)
            · refine lv_iconst (v := iI 0) hx hb d_MO_widely_178 rfl ?_
              subst hQ
              exact W.zret (v := iI 0) hx hb hr (by decide) (fun t h9 hW => ⟨_, rfl, Or.inr ⟨by first | (exfalso; omega) | (rw [show k = 7 by omega]; simp [wideF, grpF] <;> first | assumption | omega | grind), rfl⟩, h9⟩) (fun _ h9 => by cases h9) d_MO_widely_179
            · refine lv_iconst (v := iI 1) hx hb d_MO_widely_174 rfl ?_
              refine lv_goto (tgt := 179) hx hb d_MO_widely_175 (by decide) ?_
              subst hQ
              exact W.zret (v := iI 1) hx hb hr (by decide) (fun t h9 hW => ⟨_, rfl, Or.inl ⟨by first | (exfalso; omega) | (rw [show k = 7 by omega]; simp [wideF, grpF] <;> first | assumption | omega | grind), rfl⟩, h9⟩) (fun _ h9 => by cases h9) d_MO_widely_179
          · refine ix_table (tgt := 116) hx hb d_MO_widely_33 (by omega) 83 (by omega) (by rw [c_33]; rfl) (by decide) ?_
            refine lv_iload_n hx hb d_MO_widely_116 rfl (lv_at hl 1 rfl) ?_
            refine lv_bipush (v := iI 8) hx hb d_MO_widely_117 (by decide) ?_
            refine ix_icmp_ne (tgt := 126) hx hb d_MO_widely_119 (by decide) (by omega) (fun c_119 => ?_) (fun c_119 => ?_)
            · refine lv_iconst (v := iI 0) hx hb d_MO_widely_126 rfl ?_
              subst hQ
              exact W.zret (v := iI 0) hx hb hr (by decide) (fun t h9 hW => ⟨_, rfl, Or.inr ⟨by first | (exfalso; omega) | (rw [show k = 8 by omega]; simp [wideF, grpF] <;> first | assumption | omega | grind), rfl⟩, h9⟩) (fun _ h9 => by cases h9) d_MO_widely_127
            · refine lv_iconst (v := iI 1) hx hb d_MO_widely_122 rfl ?_
              refine lv_goto (tgt := 127) hx hb d_MO_widely_123 (by decide) ?_
              subst hQ
              exact W.zret (v := iI 1) hx hb hr (by decide) (fun t h9 hW => ⟨_, rfl, Or.inl ⟨by first | (exfalso; omega) | (rw [show k = 8 by omega]; simp [wideF, grpF] <;> first | assumption | omega | grind), rfl⟩, h9⟩) (fun _ h9 => by cases h9) d_MO_widely_127
          · refine ix_table (tgt := 180) hx hb d_MO_widely_33 (by omega) 147 (by omega) (by rw [c_33]; rfl) (by decide) ?_
            refine lv_aload_n hx hb d_MO_widely_180 rfl (lv_at hl 2 rfl) ?_
            refine lv_bipush (v := iI 46) hx hb d_MO_widely_181 (by decide) ?_
            refine lv_iload_n hx hb d_MO_widely_183 rfl (lv_at hl 4 rfl) ?_
            refine zcV (ci := 4) (q0 := 0) (As := [.int (iI 46), .int (iI c)]) (rest := []) ⟨hx, hb, hml, hown, ht⟩ v_MO_134 (c_MO_holds l g r ut uc la wo bw mt ms 46 c (by omega) (by omega)) ⟨Nat.le_of_ble_eq_true rfl, Nat.le_of_ble_eq_true rfl⟩ ⟨Nat.zero_le _, Nat.zero_le _⟩ hK hZ hS hP rfl rfl rfl rfl hl.1 rfl (Nat.le_of_ble_eq_true rfl) d_MO_widely_184 (fun r_184 h_184 => ?_)
            rcases h_184 with ⟨h_184, rfl⟩ | ⟨h_184, rfl⟩
            · subst hQ
              exact W.zret (v := iI 1) hx hb hr (by decide) (fun t h9 hW => ⟨_, rfl, Or.inl ⟨by first | (exfalso; omega) | (rw [show k = 9 by omega]; simp [wideF, grpF] <;> first | assumption | omega | grind), rfl⟩, h9⟩) (fun _ h9 => by cases h9) d_MO_widely_187
            · subst hQ
              exact W.zret (v := iI 0) hx hb hr (by decide) (fun t h9 hW => ⟨_, rfl, Or.inr ⟨by first | (exfalso; omega) | (rw [show k = 9 by omega]; simp [wideF, grpF] <;> first | assumption | omega | grind), rfl⟩, h9⟩) (fun _ h9 => by cases h9) d_MO_widely_187
          · refine ix_table (tgt := 128) hx hb d_MO_widely_33 (by omega) 95 (by omega) (by rw [c_33]; rfl) (by decide) ?_
            refine lv_aload_n hx hb d_MO_widely_128 rfl (lv_at hl 2 rfl) ?_
            refine lv_bipush (v := iI 47) hx hb d_MO_widely_129 (by decide) ?_
            refine lv_iload_n hx hb d_MO_widely_131 rfl (lv_at hl 4 rfl) ?_
            refine zcV (ci := 4) (q0 := 0) (As := [.int (iI 47), .int (iI c)]) (rest := []) ⟨hx, hb, hml, hown, ht⟩ v_MO_134 (c_MO_holds l g r ut uc la wo bw mt ms 47 c (by omega) (by omega)) ⟨Nat.le_of_ble_eq_true rfl, Nat.le_of_ble_eq_true rfl⟩ ⟨Nat.zero_le _, Nat.zero_le _⟩ hK hZ hS hP rfl rfl rfl rfl hl.1 rfl (Nat.le_of_ble_eq_true rfl) d_MO_widely_132 (fun r_132 h_132 => ?_)
            rcases h_132 with ⟨h_132, rfl⟩ | ⟨h_132, rfl⟩
            · subst hQ
              exact W.zret (v := iI 1) hx hb hr (by decide) (fun t h9 hW => ⟨_, rfl, Or.inl ⟨by first | (exfalso; omega) | (rw [show k = 10 by omega]; simp [wideF, grpF] <;> first | assumption | omega | grind), rfl⟩, h9⟩) (fun _ h9 => by cases h9) d_MO_widely_135
            · subst hQ
              exact W.zret (v := iI 0) hx hb hr (by decide) (fun t h9 hW => ⟨_, rfl, Or.inr ⟨by first | (exfalso; omega) | (rw [show k = 10 by omega]; simp [wideF, grpF] <;> first | assumption | omega | grind), rfl⟩, h9⟩) (fun _ h9 => by cases h9) d_MO_widely_135
          · refine ix_table (tgt := 136) hx hb d_MO_widely_33 (by omega) 103 (by omega) (by rw [c_33]; rfl) (by decide) ?_
            refine lv_aload_n hx hb d_MO_widely_136 rfl (lv_at hl 2 rfl) ?_
            refine lv_bipush (v := iI 48) hx hb d_MO_widely_137 (by decide) ?_
            refine lv_iload_n hx hb d_MO_widely_139 rfl (lv_at hl 4 rfl) ?_
            refine zcV (ci := 4) (q0 := 0) (As := [.int (iI 48), .int (iI c)]) (rest := []) ⟨hx, hb, hml, hown, ht⟩ v_MO_134 (c_MO_holds l g r ut uc la wo bw mt ms 48 c (by omega) (by omega)) ⟨Nat.le_of_ble_eq_true rfl, Nat.le_of_ble_eq_true rfl⟩ ⟨Nat.zero_le _, Nat.zero_le _⟩ hK hZ hS hP rfl rfl rfl rfl hl.1 rfl (Nat.le_of_ble_eq_true rfl) d_MO_widely_140 (fun r_140 h_140 => ?_)
            rcases h_140 with ⟨h_140, rfl⟩ | ⟨h_140, rfl⟩
            · subst hQ
              exact W.zret (v := iI 1) hx hb hr (by decide) (fun t h9 hW => ⟨_, rfl, Or.inl ⟨by first | (exfalso; omega) | (rw [show k = 11 by omega]; simp [wideF, grpF] <;> first | assumption | omega | grind), rfl⟩, h9⟩) (fun _ h9 => by cases h9) d_MO_widely_143
            · subst hQ
              exact W.zret (v := iI 0) hx hb hr (by decide) (fun t h9 hW => ⟨_, rfl, Or.inr ⟨by first | (exfalso; omega) | (rw [show k = 11 by omega]; simp [wideF, grpF] <;> first | assumption | omega | grind), rfl⟩, h9⟩) (fun _ h9 => by cases h9) d_MO_widely_143
          · refine ix_table (tgt := 144) hx hb d_MO_widely_33 (by omega) 111 (by omega) (by rw [c_33]; rfl) (by decide) ?_
            refine lv_aload_n hx hb d_MO_widely_144 rfl (lv_at hl 2 rfl) ?_
            refine lv_iload_n hx hb d_MO_widely_145 rfl (lv_at hl 4 rfl) ?_
            refine zcV (ci := 4) (q0 := 0) (As := [.int (iI c)]) (rest := []) ⟨hx, hb, hml, hown, ht⟩ v_MO_143 (c_MO_blank l g r ut uc la wo bw mt ms c (by omega)) ⟨Nat.le_of_ble_eq_true rfl, Nat.le_of_ble_eq_true rfl⟩ ⟨Nat.zero_le _, Nat.zero_le _⟩ hK hZ hS hP rfl rfl rfl rfl hl.1 rfl (Nat.le_of_ble_eq_true rfl) d_MO_widely_146 (fun r_146 h_146 => ?_)
            rcases h_146 with ⟨h_146, rfl⟩ | ⟨h_146, rfl⟩
            · subst hQ
              exact W.zret (v := iI 1) hx hb hr (by decide) (fun t h9 hW => ⟨_, rfl, Or.inl ⟨by first | (exfalso; omega) | (rw [show k = 12 by omega]; simp [wideF, grpF] <;> first | assumption | omega | grind), rfl⟩, h9⟩) (fun _ h9 => by cases h9) d_MO_widely_149
            · subst hQ
              exact W.zret (v := iI 0) hx hb hr (by decide) (fun t h9 hW => ⟨_, rfl, Or.inr ⟨by first | (exfalso; omega) | (rw [show k = 12 by omega]; simp [wideF, grpF] <;> first | assumption | omega | grind), rfl⟩, h9⟩) (fun _ h9 => by cases h9) d_MO_widely_149
          · refine ix_table (tgt := 188) hx hb d_MO_widely_33 (by omega) 155 (by omega) (by rw [c_33]; rfl) (by decide) ?_
            refine lv_iload_n hx hb d_MO_widely_188 rfl (lv_at hl 1 rfl) ?_
            refine lv_iconst (v := iI 1) hx hb d_MO_widely_189 rfl ?_
            refine ix_icmp_ne (tgt := 197) hx hb d_MO_widely_190 (by decide) (by omega) (fun c_190 => ?_) (fun c_190 => ?_)
            · refine lv_iconst (v := iI 0) hx hb d_MO_widely_197 rfl ?_
              subst hQ
              exact W.zret (v := iI 0) hx hb hr (by decide) (fun t h9 hW => ⟨_, rfl, Or.inr ⟨by first | (exfalso; omega) | (rw [show k = 13 by omega]; simp [wideF, grpF] <;> first | assumption | omega | grind), rfl⟩, h9⟩) (fun _ h9 => by cases h9) d_MO_widely_198
            · refine lv_iconst (v := iI 1) hx hb d_MO_widely_193 rfl ?_
              refine lv_goto (tgt := 198) hx hb d_MO_widely_194 (by decide) ?_
              subst hQ
              exact W.zret (v := iI 1) hx hb hr (by decide) (fun t h9 hW => ⟨_, rfl, Or.inl ⟨by first | (exfalso; omega) | (rw [show k = 13 by omega]; simp [wideF, grpF] <;> first | assumption | omega | grind), rfl⟩, h9⟩) (fun _ h9 => by cases h9) d_MO_widely_198
          · refine ix_table (tgt := 199) hx hb d_MO_widely_33 (by omega) 166 (by omega) (by rw [c_33]; rfl) (by decide) ?_
            refine lv_iload hx hb d_MO_widely_199 (lv_at hl 0 rfl) ?_
            subst hQ
            exact W.zret (v := iI 1) hx hb hr (by decide) (fun t h9 hW => ⟨_, rfl, Or.inl ⟨by first | (exfalso; omega) | (rw [show k = 14 by omega]; simp [wideF, grpF] <;> first | assumption | omega | grind), rfl⟩, h9⟩) (fun _ h9 => by cases h9) d_MO_widely_201
          · refine ix_table (tgt := 202) hx hb d_MO_widely_33 (by omega) 169 (by omega) (by rw [c_33]; rfl) (by decide) ?_
            refine lv_iload hx hb d_MO_widely_202 (lv_at hl 0 rfl) ?_
            refine ix_if_ne (tgt := 213) hx hb d_MO_widely_204 (by decide) (by omega) (fun c_204 => ?_) (fun c_204 => ?_)
            · refine lv_iconst (v := iI 1) hx hb d_MO_widely_213 rfl ?_
              refine lv_goto (tgt := 218) hx hb d_MO_widely_214 (by decide) ?_
              subst hQ
              exact W.zret (v := iI 1) hx hb hr (by decide) (fun t h9 hW => ⟨_, rfl, Or.inl ⟨by first | (exfalso; omega) | (rw [show k = 15 by omega]; simp [wideF, grpF] <;> first | assumption | omega | grind), rfl⟩, h9⟩) (fun _ h9 => by cases h9) d_MO_widely_218
            · exact absurd c_204 (by decide)
          · refine ix_table (tgt := 219) hx hb d_MO_widely_33 (by omega) 186 (by omega) (by rw [c_33]; rfl) (by decide) ?_
            refine lv_aload_n hx hb d_MO_widely_219 rfl (lv_at hl 2 rfl) ?_
            refine lv_iconst (v := iI 4) hx hb d_MO_widely_220 rfl ?_
            refine lv_iload_n hx hb d_MO_widely_221 rfl (lv_at hl 1 rfl) ?_
            refine zcV (ci := 4) (q0 := 0) (As := [.int (iI 4), .int (iI (catF c))]) (rest := []) ⟨hx, hb, hml, hown, ht⟩ v_MO_127 (c_MO_general l g r ut uc la wo bw mt ms 4 (catF c) (by omega)) ⟨Nat.le_of_ble_eq_true rfl, Nat.le_of_ble_eq_true rfl⟩ ⟨Nat.zero_le _, Nat.zero_le _⟩ hK hZ hS hP rfl rfl rfl rfl hl.1 rfl (Nat.le_of_ble_eq_true rfl) d_MO_widely_222 (fun r_222 h_222 => ?_)
            rcases h_222 with ⟨h_222, rfl⟩ | ⟨h_222, rfl⟩
            · refine ix_if_ne (tgt := 244) hx hb d_MO_widely_225 (by decide) (by omega) (fun c_225 => ?_) (fun c_225 => ?_)
              · refine lv_iconst (v := iI 1) hx hb d_MO_widely_244 rfl ?_
                refine lv_goto (tgt := 249) hx hb d_MO_widely_245 (by decide) ?_
                subst hQ
                exact W.zret (v := iI 1) hx hb hr (by decide) (fun t h9 hW => ⟨_, rfl, Or.inl ⟨by first | (exfalso; omega) | (rw [show k = 16 by omega]; simp [wideF, grpF] <;> first | assumption | omega | grind), rfl⟩, h9⟩) (fun _ h9 => by cases h9) d_MO_widely_249
              · exact absurd c_225 (by decide)
            · refine ix_if_ne (tgt := 244) hx hb d_MO_widely_225 (by decide) (by omega) (fun c_225 => ?_) (fun c_225 => ?_)
              · exact absurd c_225 (by decide)
              · refine lv_aload_n hx hb d_MO_widely_228 rfl (lv_at hl 2 rfl) ?_
                refine lv_iconst (v := iI 5) hx hb d_MO_widely_229 rfl ?_
                refine lv_iload_n hx hb d_MO_widely_230 rfl (lv_at hl 1 rfl) ?_
                refine zcV (ci := 4) (q0 := 0) (As := [.int (iI 5), .int (iI (catF c))]) (rest := []) ⟨hx, hb, hml, hown, ht⟩ v_MO_127 (c_MO_general l g r ut uc la wo bw mt ms 5 (catF c) (by omega)) ⟨Nat.le_of_ble_eq_true rfl, Nat.le_of_ble_eq_true rfl⟩ ⟨Nat.zero_le _, Nat.zero_le _⟩ hK hZ hS hP rfl rfl rfl rfl hl.1 rfl (Nat.le_of_ble_eq_true rfl) d_MO_widely_231 (fun r_231 h_231 => ?_)
                rcases h_231 with ⟨h_231, rfl⟩ | ⟨h_231, rfl⟩
                · refine ix_if_eq (tgt := 248) hx hb d_MO_widely_234 (by decide) (by omega) (fun c_234 => ?_) (fun c_234 => ?_)
                  · exact absurd c_234 (by decide)
                  · refine lv_iload_n hx hb d_MO_widely_237 rfl (lv_at hl 4 rfl) ?_
                    refine lv_sipush (v := iI 128) hx hb d_MO_widely_238 (by decide) ?_
                    refine ix_icmp_ge (tgt := 248) hx hb d_MO_widely_241 (by decide) (by omega) (fun c_241 => ?_) (fun c_241 => ?_)
                    · refine lv_iconst (v := iI 0) hx hb d_MO_widely_248 rfl ?_
                      subst hQ
                      exact W.zret (v := iI 0) hx hb hr (by decide) (fun t h9 hW => ⟨_, rfl, Or.inr ⟨by first | (exfalso; omega) | (rw [show k = 16 by omega]; simp [wideF, grpF] <;> first | assumption | omega | grind), rfl⟩, h9⟩) (fun _ h9 => by cases h9) d_MO_widely_249
                    · refine lv_iconst (v := iI 1) hx hb d_MO_widely_244 rfl ?_
                      refine lv_goto (tgt := 249) hx hb d_MO_widely_245 (by decide) ?_
                      subst hQ
                      exact W.zret (v := iI 1) hx hb hr (by decide) (fun t h9 hW => ⟨_, rfl, Or.inl ⟨by first | (exfalso; omega) | (rw [show k = 16 by omega]; simp [wideF, grpF] <;> first | assumption | omega | grind), rfl⟩, h9⟩) (fun _ h9 => by cases h9) d_MO_widely_249
                · refine ix_if_eq (tgt := 248) hx hb d_MO_widely_234 (by decide) (by omega) (fun c_234 => ?_) (fun c_234 => ?_)
                  · refine lv_iconst (v := iI 0) hx hb d_MO_widely_248 rfl ?_
                    subst hQ
                    exact W.zret (v := iI 0) hx hb hr (by decide) (fun t h9 hW => ⟨_, rfl, Or.inr ⟨by first | (exfalso; omega) | (rw [show k = 16 by omega]; simp [wideF, grpF] <;> first | assumption | omega | grind), rfl⟩, h9⟩) (fun _ h9 => by cases h9) d_MO_widely_249
                  · exact absurd c_234 (by decide)
          · refine ix_tableO (tgt := 250) hx hb d_MO_widely_33 (by omega) c_33 (by decide) ?_
            refine lv_aload_n hx hb d_MO_widely_250 rfl (lv_at hl 2 rfl) ?_
            refine lv_iload_n hx hb d_MO_widely_251 rfl (lv_at hl 3 rfl) ?_
            refine lv_iload_n hx hb d_MO_widely_252 rfl (lv_at hl 4 rfl) ?_
            refine zcV (ci := 4) (q0 := 0) (As := [.int (iI k), .int (iI c)]) (rest := []) ⟨hx, hb, hml, hown, ht⟩ v_MO_146 (c_MO_plainly l g r ut uc la wo bw mt ms k c (by omega) (by omega)) ⟨Nat.le_of_ble_eq_true rfl, Nat.le_of_ble_eq_true rfl⟩ ⟨Nat.zero_le _, Nat.zero_le _⟩ hK hZ hS hP rfl rfl rfl rfl hl.1 rfl (Nat.le_of_ble_eq_true rfl) d_MO_widely_253 (fun r_253 h_253 => ?_)
            rcases h_253 with ⟨h_253, rfl⟩ | ⟨h_253, rfl⟩
            · subst hQ
              exact W.zret (v := iI 1) hx hb hr (by decide) (fun t h9 hW => ⟨_, rfl, Or.inl ⟨by first | (exfalso; omega) | (rw [wide_d (by omega)]; assumption), rfl⟩, h9⟩) (fun _ h9 => by cases h9) d_MO_widely_256
            · subst hQ
              exact W.zret (v := iI 0) hx hb hr (by decide) (fun t h9 hW => ⟨_, rfl, Or.inr ⟨by first | (exfalso; omega) | (rw [wide_d (by omega)]; assumption), rfl⟩, h9⟩) (fun _ h9 => by cases h9) d_MO_widely_256
set_option maxHeartbeats 4000000 in
set_option maxRecDepth 100000 in
theorem c_MO_names (l : Launch) (g : zG) (r : Nat → Nat) (ut uc la wo : Int) (bw : Nat → Nat) (mt : Nat → Int) (ms : Int) (k c : Int) (huc : uc = 0 ∨ uc = 1) (hk : 0 ≤ k ∧ k ≤ 18) (hc : 0 ≤ c ∧ c ≤ 1114111) : Met l y_MO_names w_MO_names (zr 4 90) (zP g [.ref (r 0), .int (iI k), .int (iI c)] [(r 0, .inr (4, [.int (iI ut), .int (iI uc), .int (iI la), .int (iI wo), .ref (r 1), .ref (r 2), .ref (r 3), .int (iI ms), .ref (r 4)])), (r 1, .inl (zJ g, 139264, .inr (.inl (lA bw)))), (r 2, .inl (zBt g, 12544, .inl (ai kF))), (r 3, .inl (zI g, 4, .inl (ai mt))), (r 4, .inl (zI g, 14, .inl (ai PT)))]) (vp_Si (fun z => ((nameF uc k c) ∧ z = iI 1) ∨ (¬ (nameF uc k c) ∧ z = iI 0))) 0 0 (fun _ => False) := by
  refine Met.ofW (cc := b_MO_names) (maxL := 3) (ret := (some .boolean)) (by decide) rfl ?_
  intro p e s m args below meth cd s₁ B hml hv
  obtain ⟨hargs, hP, hK, hZ⟩ := hv
  have hx := B.exec
  have hb := B.bytes
  have hr := B.returns
  have ht : ∀ w ∈ lw_ok, w.before args s = true := fun w h => atoms_spec (ws := w_MO_names) B.pre w (List.mem_cons_of_mem _ h)
  have hown : s.vm.findClass R_MO = some m.cls := findClass_of_methodNamed B.named
  have hlocks := B.notSynchronized
  have hS : va_S (fun _ => False) s.heap s.heap [] := va_S.rf
  generalize hQ : MQ below _ args s 0 0 _ = Q
  have hl := lv_entry ([.ref (r 0), .int (iI k), .int (iI c)]) (n := 3) (Nat.le_of_ble_eq_true rfl)
  rw [show entryFrame m args 3 = entryFrame m ([.ref (r 0), .int (iI k), .int (iI c)] : List Value).toArray 3 by rw [hargs], lg_entry_eq]
  generalize (lg_sl ([.ref (r 0), .int (iI k), .int (iI c)]) ++ List.replicate (3 - (lg_sl ([.ref (r 0), .int (iI k), .int (iI c)])).length) Slot.unset).toArray = ls at hl ⊢
  have hl : lv_has ls 3 [(0, .ref (r 0)), (1, .int (iI k)), (2, .int (iI c))] := hl
  refine lv_aload_n hx hb d_MO_names_0 rfl (lv_at hl 0 rfl) ?_
  refine va_get (D := g.1) (ci := 4) (v := .int (iI uc)) (C := R_MO) (T := F_MO) (N := 9) hx hb ht i_MO hown hK hP 0 rfl rfl 1 (by decide) (ht _ k_419) (fun _ h9 => h9) rfl d_MO_names_1 ?_
  refine ix_if_eq (tgt := 16) hx hb d_MO_names_4 (by decide) (by omega) (fun c_4 => ?_) (fun c_4 => ?_)
  · refine lv_aload_n hx hb d_MO_names_16 rfl (lv_at hl 0 rfl) ?_
    refine lv_iload_n hx hb d_MO_names_17 rfl (lv_at hl 1 rfl) ?_
    refine lv_iload_n hx hb d_MO_names_18 rfl (lv_at hl 2 rfl) ?_
    refine zcV (ci := 4) (q0 := 0) (As := [.int (iI k), .int (iI c)]) (rest := []) ⟨hx, hb, hml, hown, ht⟩ v_MO_146 (c_MO_plainly l g r ut uc la wo bw mt ms k c (by omega) (by omega)) ⟨Nat.le_of_ble_eq_true rfl, Nat.le_of_ble_eq_true rfl⟩ ⟨Nat.zero_le _, Nat.zero_le _⟩ hK hZ hS hP rfl rfl rfl rfl hl.1 rfl (Nat.le_of_ble_eq_true rfl) d_MO_names_19 (fun r_19 h_19 => ?_)
    rcases h_19 with ⟨h_19, rfl⟩ | ⟨h_19, rfl⟩
    · subst hQ
      exact W.zret (v := iI 1) hx hb hr (by decide) (fun t h9 hW => ⟨_, rfl, Or.inl ⟨by first | (exfalso; omega) | (rw [name_0 (by omega)]; assumption) | (rw [name_1 (by omega)]; assumption), rfl⟩, h9⟩) (fun _ h9 => by cases h9) d_MO_names_22
    · subst hQ
      exact W.zret (v := iI 0) hx hb hr (by decide) (fun t h9 hW => ⟨_, rfl, Or.inr ⟨by first | (exfalso; omega) | (rw [name_0 (by omega)]; assumption) | (rw [name_1 (by omega)]; assumption), rfl⟩, h9⟩) (fun _ h9 => by cases h9) d_MO_names_22
  · refine lv_aload_n hx hb d_MO_names_7 rfl (lv_at hl 0 rfl) ?_
    refine lv_iload_n hx hb d_MO_names_8 rfl (lv_at hl 1 rfl) ?_
    refine lv_iload_n hx hb d_MO_names_9 rfl (lv_at hl 2 rfl) ?_
    refine zcV (ci := 4) (q0 := 0) (As := [.int (iI k), .int (iI c)]) (rest := []) ⟨hx, hb, hml, hown, ht⟩ v_MO_149 (c_MO_widely l g r ut uc la wo bw mt ms k c (by omega) (by omega)) ⟨Nat.le_of_ble_eq_true rfl, Nat.le_of_ble_eq_true rfl⟩ ⟨Nat.zero_le _, Nat.zero_le _⟩ hK hZ hS hP rfl rfl rfl rfl hl.1 rfl (Nat.le_of_ble_eq_true rfl) d_MO_names_10 (fun r_10 h_10 => ?_)
    rcases h_10 with ⟨h_10, rfl⟩ | ⟨h_10, rfl⟩
    · refine lv_goto (tgt := 22) hx hb d_MO_names_13 (by decide) ?_
      subst hQ
      exact W.zret (v := iI 1) hx hb hr (by decide) (fun t h9 hW => ⟨_, rfl, Or.inl ⟨by first | (exfalso; omega) | (rw [name_0 (by omega)]; assumption) | (rw [name_1 (by omega)]; assumption), rfl⟩, h9⟩) (fun _ h9 => by cases h9) d_MO_names_22
    · refine lv_goto (tgt := 22) hx hb d_MO_names_13 (by decide) ?_
      subst hQ
      exact W.zret (v := iI 0) hx hb hr (by decide) (fun t h9 hW => ⟨_, rfl, Or.inr ⟨by first | (exfalso; omega) | (rw [name_0 (by omega)]; assumption) | (rw [name_1 (by omega)]; assumption), rfl⟩, h9⟩) (fun _ h9 => by cases h9) d_MO_names_22
