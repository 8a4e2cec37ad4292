set_option maxHeartbeats 4000000 in
set_option maxRecDepth 100000 in
theorem c_MO_plainly (l : Launch) (g : zG) (r : Nat → Nat) (ut uc la wo : Int) (bw : Nat → Nat) (mt : Nat → Int) (ms : Int) (k c : Int) (hk : 0 ≤ k ∧ k ≤ 18) (hc : 0 ≤ c ∧ c ≤ 1114111) : Met l y_MO_plainly w_MO_plainly (zr 1 21) (zP g [.ref (r 0), .int (iI k), .int (iI c)] [(r 0, .inr (4, [.int (iI ut), .int (iI uc), .int (iI la), .int (iI wo), .ref (r 1), .ref (r 2), .ref (r 3), .int (iI ms), .ref (r 4)])), (r 1, .inl (zJ g, 139264, .inr (.inl (lA bw)))), (r 2, .inl (zBt g, 12544, .inl (ai kF))), (r 3, .inl (zI g, 4, .inl (ai mt))), (r 4, .inl (zI g, 14, .inl (ai PT)))]) (vp_Si (fun z => ((plainF k c) ∧ z = iI 1) ∨ (¬ (plainF k c) ∧ z = iI 0))) 0 0 (fun _ => False) := by
  refine Met.ofW (cc := b_MO_plainly) (maxL := 4) (ret := (some .boolean)) (by decide) rfl ?_
  intro p e s m args below meth cd s₁ B hml hv
  obtain ⟨hargs, hP, hK, hZ⟩ := hv
  have hx := B.exec
  have hb := B.bytes
  have hr := B.returns
  have ht : ∀ w ∈ lw_ok, w.before args s = true := fun w h => atoms_spec (ws := w_MO_plainly) B.pre w (List.mem_cons_of_mem _ h)
  have hown : s.vm.findClass R_MO = some m.cls := findClass_of_methodNamed B.named
  have hlocks := B.notSynchronized
  have hS : va_S (fun _ => False) s.heap s.heap [] := va_S.rf
  generalize hQ : MQ below _ args s 0 0 _ = Q
  have hl := lv_entry ([.ref (r 0), .int (iI k), .int (iI c)]) (n := 4) (Nat.le_of_ble_eq_true rfl)
  rw [show entryFrame m args 4 = entryFrame m ([.ref (r 0), .int (iI k), .int (iI c)] : List Value).toArray 4 by rw [hargs], lg_entry_eq]
  generalize (lg_sl ([.ref (r 0), .int (iI k), .int (iI c)]) ++ List.replicate (4 - (lg_sl ([.ref (r 0), .int (iI k), .int (iI c)])).length) Slot.unset).toArray = ls at hl ⊢
  have hl : lv_has ls 4 [(0, .ref (r 0)), (1, .int (iI k)), (2, .int (iI c))] := hl
  refine lv_iload_n hx hb d_MO_plainly_0 rfl (lv_at hl 2 rfl) ?_
  refine lv_bipush (v := iI 33) hx hb d_MO_plainly_1 (by decide) ?_
  refine ix_icmp_lt (tgt := 16) hx hb d_MO_plainly_3 (by decide) (by omega) (fun c_3 => ?_) (fun c_3 => ?_)
  · refine lv_iconst (v := iI 0) hx hb d_MO_plainly_16 rfl ?_
    refine lv_istore_n (lv' := [(3, .int (iI 0)), (0, .ref (r 0)), (1, .int (iI k)), (2, .int (iI c))]) hx hb d_MO_plainly_17 rfl hl (by decide) rfl (fun ls hl => ?_)
    refine lv_iload_n hx hb d_MO_plainly_18 rfl (lv_at hl 2 rfl) ?_
    rcases (show k = 0 ∨ k = 1 ∨ k = 2 ∨ k = 3 ∨ k = 4 ∨ k = 5 ∨ k = 6 ∨ k = 7 ∨ k = 8 ∨ k = 9 ∨ k = 10 ∨ k = 11 ∨ k = 12 ∨ k = 13 ∨ k = 14 ∨ k = 15 ∨ k = 16 ∨ k = 17 ∨ (k < 0 ∨ 17 < k) from by omega) with c_19 | c_19 | c_19 | c_19 | c_19 | c_19 | c_19 | c_19 | c_19 | c_19 | c_19 | c_19 | c_19 | c_19 | c_19 | c_19 | c_19 | c_19 | c_19
    · refine ix_table (tgt := 104) hx hb d_MO_plainly_19 (by omega) 85 (by omega) (by rw [c_19]; rfl) (by decide) ?_
      refine lv_aload_n hx hb d_MO_plainly_104 rfl (lv_at hl 1 rfl) ?_
      refine lv_iload_n hx hb d_MO_plainly_105 rfl (lv_at hl 3 rfl) ?_
      refine zcV (ci := 4) (q0 := 0) (As := [.int (iI c)]) (rest := []) ⟨hx, hb, hml, hown, ht⟩ v_MO_137 (c_MO_digit l g r ut uc la wo bw mt ms c (by omega)) ⟨Nat.le_of_ble_eq_true rfl, Nat.le_of_ble_eq_true rfl⟩ ⟨Nat.zero_le _, Nat.zero_le _⟩ hK hZ hS hP rfl rfl rfl rfl hl.1 rfl (Nat.le_of_ble_eq_true rfl) d_MO_plainly_106 (fun r_106 h_106 => ?_)
      rcases h_106 with ⟨h_106, rfl⟩ | ⟨h_106, rfl⟩
      · subst hQ
        exact W.zret (v := iI 1) hx hb hr (by decide) (fun t h9 hW => ⟨_, rfl, Or.inl ⟨by first | (exfalso; omega) | (rw [show k = 0 by omega]; simp [plainF] <;> first | assumption | omega | grind), rfl⟩, h9⟩) (fun _ h9 => by cases h9) d_MO_plainly_109
      · subst hQ
        exact W.zret (v := iI 0) hx hb hr (by decide) (fun t h9 hW => ⟨_, rfl, Or.inr ⟨by first | (exfalso; omega) | (rw [show k = 0 by omega]; simp [plainF] <;> first | assumption | omega | grind), rfl⟩, h9⟩) (fun _ h9 => by cases h9) d_MO_plainly_109
    · refine ix_table (tgt := 110) hx hb d_MO_plainly_19 (by omega) 91 (by omega) (by rw [c_19]; rfl) (by decide) ?_
      refine lv_aload_n hx hb d_MO_plainly_110 rfl (lv_at hl 1 rfl) ?_
      refine lv_iload_n hx hb d_MO_plainly_111 rfl (lv_at hl 3 rfl) ?_
      refine zcV (ci := 4) (q0 := 0) (As := [.int (iI c)]) (rest := []) ⟨hx, hb, hml, hown, ht⟩ v_MO_140 (c_MO_alpha l g r ut uc la wo bw mt ms c (by omega)) ⟨Nat.le_of_ble_eq_true rfl, Nat.le_of_ble_eq_true rfl⟩ ⟨Nat.zero_le _, Nat.zero_le _⟩ hK hZ hS hP rfl rfl rfl rfl hl.1 rfl (Nat.le_of_ble_eq_true rfl) d_MO_plainly_112 (fun r_112 h_112 => ?_)
      rcases h_112 with ⟨h_112, rfl⟩ | ⟨h_112, rfl⟩
      · refine ix_if_ne (tgt := 132) hx hb d_MO_plainly_115 (by decide) (by omega) (fun c_115 => ?_) (fun c_115 => ?_)
        · refine lv_iconst (v := iI 1) hx hb d_MO_plainly_132 rfl ?_
          refine lv_goto (tgt := 137) hx hb d_MO_plainly_133 (by decide) ?_
          subst hQ
          exact W.zret (v := iI 1) hx hb hr (by decide) (fun t h9 hW => ⟨_, rfl, Or.inl ⟨by first | (exfalso; omega) | (rw [show k = 1 by omega]; simp [plainF] <;> first | assumption | omega | grind), rfl⟩, h9⟩) (fun _ h9 => by cases h9) d_MO_plainly_137
        · exact absurd c_115 (by decide)
      · refine ix_if_ne (tgt := 132) hx hb d_MO_plainly_115 (by decide) (by omega) (fun c_115 => ?_) (fun c_115 => ?_)
        · exact absurd c_115 (by decide)
        · refine lv_aload_n hx hb d_MO_plainly_118 rfl (lv_at hl 1 rfl) ?_
          refine lv_iload_n hx hb d_MO_plainly_119 rfl (lv_at hl 3 rfl) ?_
          refine zcV (ci := 4) (q0 := 0) (As := [.int (iI c)]) (rest := []) ⟨hx, hb, hml, hown, ht⟩ v_MO_137 (c_MO_digit l g r ut uc la wo bw mt ms c (by omega)) ⟨Nat.le_of_ble_eq_true rfl, Nat.le_of_ble_eq_true rfl⟩ ⟨Nat.zero_le _, Nat.zero_le _⟩ hK hZ hS hP rfl rfl rfl rfl hl.1 rfl (Nat.le_of_ble_eq_true rfl) d_MO_plainly_120 (fun r_120 h_120 => ?_)
          rcases h_120 with ⟨h_120, rfl⟩ | ⟨h_120, rfl⟩
          · refine ix_if_ne (tgt := 132) hx hb d_MO_plainly_123 (by decide) (by omega) (fun c_123 => ?_) (fun c_123 => ?_)
            · refine lv_iconst (v := iI 1) hx hb d_MO_plainly_132 rfl ?_
              refine lv_goto (tgt := 137) hx hb d_MO_plainly_133 (by decide) ?_
              subst hQ
              exact W.zret (v := iI 1) hx hb hr (by decide) (fun t h9 hW => ⟨_, rfl, Or.inl ⟨by first | (exfalso; omega) | (rw [show k = 1 by omega]; simp [plainF] <;> first | assumption | omega | grind), rfl⟩, h9⟩) (fun _ h9 => by cases h9) d_MO_plainly_137
            · exact absurd c_123 (by decide)
          · refine ix_if_ne (tgt := 132) hx hb d_MO_plainly_123 (by decide) (by omega) (fun c_123 => ?_) (fun c_123 => ?_)
            · exact absurd c_123 (by decide)
            · refine lv_iload_n hx hb d_MO_plainly_126 rfl (lv_at hl 3 rfl) ?_
              refine lv_bipush (v := iI 95) hx hb d_MO_plainly_127 (by decide) ?_
              refine ix_icmp_ne (tgt := 136) hx hb d_MO_plainly_129 (by decide) (by omega) (fun c_129 => ?_) (fun c_129 => ?_)
              · refine lv_iconst (v := iI 0) hx hb d_MO_plainly_136 rfl ?_
                subst hQ
                exact W.zret (v := iI 0) hx hb hr (by decide) (fun t h9 hW => ⟨_, rfl, Or.inr ⟨by first | (exfalso; omega) | (rw [show k = 1 by omega]; simp [plainF] <;> first | assumption | omega | grind), rfl⟩, h9⟩) (fun _ h9 => by cases h9) d_MO_plainly_137
              · refine lv_iconst (v := iI 1) hx hb d_MO_plainly_132 rfl ?_
                refine lv_goto (tgt := 137) hx hb d_MO_plainly_133 (by decide) ?_
                subst hQ
                exact W.zret (v := iI 1) hx hb hr (by decide) (fun t h9 hW => ⟨_, rfl, Or.inl ⟨by first | (exfalso; omega) | (rw [show k = 1 by omega]; simp [plainF] <;> first | assumption | omega | grind), rfl⟩, h9⟩) (fun _ h9 => by cases h9) d_MO_plainly_137
    · refine ix_table (tgt := 138) hx hb d_MO_plainly_19 (by omega) 119 (by omega) (by rw [c_19]; rfl) (by decide) ?_
      refine lv_iload_n hx hb d_MO_plainly_138 rfl (lv_at hl 3 rfl) ?_
      refine lv_bipush (v := iI 9) hx hb d_MO_plainly_139 (by decide) ?_
      refine ix_icmp_lt (tgt := 150) hx hb d_MO_plainly_141 (by decide) (by omega) (fun c_141 => ?_) (fun c_141 => ?_)
      · refine lv_iload_n hx hb d_MO_plainly_150 rfl (lv_at hl 3 rfl) ?_
        refine lv_bipush (v := iI 32) hx hb d_MO_plainly_151 (by decide) ?_
        refine ix_icmp_ne (tgt := 160) hx hb d_MO_plainly_153 (by decide) (by omega) (fun c_153 => ?_) (fun c_153 => ?_)
        · refine lv_iconst (v := iI 0) hx hb d_MO_plainly_160 rfl ?_
          subst hQ
          exact W.zret (v := iI 0) hx hb hr (by decide) (fun t h9 hW => ⟨_, rfl, Or.inr ⟨by first | (exfalso; omega) | (rw [show k = 2 by omega]; simp [plainF] <;> first | assumption | omega | grind), rfl⟩, h9⟩) (fun _ h9 => by cases h9) d_MO_plainly_161
        · refine lv_iconst (v := iI 1) hx hb d_MO_plainly_156 rfl ?_
          refine lv_goto (tgt := 161) hx hb d_MO_plainly_157 (by decide) ?_
          subst hQ
          exact W.zret (v := iI 1) hx hb hr (by decide) (fun t h9 hW => ⟨_, rfl, Or.inl ⟨by first | (exfalso; omega) | (rw [show k = 2 by omega]; simp [plainF] <;> first | assumption | omega | grind), rfl⟩, h9⟩) (fun _ h9 => by cases h9) d_MO_plainly_161
      · refine lv_iload_n hx hb d_MO_plainly_144 rfl (lv_at hl 3 rfl) ?_
        refine lv_bipush (v := iI 13) hx hb d_MO_plainly_145 (by decide) ?_
        refine ix_icmp_le (tgt := 156) hx hb d_MO_plainly_147 (by decide) (by omega) (fun c_147 => ?_) (fun c_147 => ?_)
        · refine lv_iconst (v := iI 1) hx hb d_MO_plainly_156 rfl ?_
          refine lv_goto (tgt := 161) hx hb d_MO_plainly_157 (by decide) ?_
          subst hQ
          exact W.zret (v := iI 1) hx hb hr (by decide) (fun t h9 hW => ⟨_, rfl, Or.inl ⟨by first | (exfalso; omega) | (rw [show k = 2 by omega]; simp [plainF] <;> first | assumption | omega | grind), rfl⟩, h9⟩) (fun _ h9 => by cases h9) d_MO_plainly_161
        · refine lv_iload_n hx hb d_MO_plainly_150 rfl (lv_at hl 3 rfl) ?_
          refine lv_bipush (v := iI 32) hx hb d_MO_plainly_151 (by decide) ?_
          refine ix_icmp_ne (tgt := 160) hx hb d_MO_plainly_153 (by decide) (by omega) (fun c_153 => ?_) (fun c_153 => ?_)
          · refine lv_iconst (v := iI 0) hx hb d_MO_plainly_160 rfl ?_
            subst hQ
            exact W.zret (v := iI 0) hx hb hr (by decide) (fun t h9 hW => ⟨_, rfl, Or.inr ⟨by first | (exfalso; omega) | (rw [show k = 2 by omega]; simp [plainF] <;> first | assumption | omega | grind), rfl⟩, h9⟩) (fun _ h9 => by cases h9) d_MO_plainly_161
          · refine lv_iconst (v := iI 1) hx hb d_MO_plainly_156 rfl ?_
            refine lv_goto (tgt := 161) hx hb d_MO_plainly_157 (by decide) ?_
            subst hQ
            exact W.zret (v := iI 1) hx hb hr (by decide) (fun t h9 hW => ⟨_, rfl, Or.inl ⟨by first | (exfalso; omega) | (rw [show k = 2 by omega]; simp [plainF] <;> first | assumption | omega | grind), rfl⟩, h9⟩) (fun _ h9 => by cases h9) d_MO_plainly_161
    · refine ix_table (tgt := 162) hx hb d_MO_plainly_19 (by omega) 143 (by omega) (by rw [c_19]; rfl) (by decide) ?_
      refine lv_aload_n hx hb d_MO_plainly_162 rfl (lv_at hl 1 rfl) ?_
      refine lv_iload_n hx hb d_MO_plainly_163 rfl (lv_at hl 3 rfl) ?_
      refine zcV (ci := 4) (q0 := 0) (As := [.int (iI c)]) (rest := []) ⟨hx, hb, hml, hown, ht⟩ v_MO_143 (c_MO_blank l g r ut uc la wo bw mt ms c (by omega)) ⟨Nat.le_of_ble_eq_true rfl, Nat.le_of_ble_eq_true rfl⟩ ⟨Nat.zero_le _, Nat.zero_le _⟩ hK hZ hS hP rfl rfl rfl rfl hl.1 rfl (Nat.le_of_ble_eq_true rfl) d_MO_plainly_164 (fun r_164 h_164 => ?_)
      rcases h_164 with ⟨h_164, rfl⟩ | ⟨h_164, rfl⟩
      · subst hQ
        exact W.zret (v := iI 1) hx hb hr (by decide) (fun t h9 hW => ⟨_, rfl, Or.inl ⟨by first | (exfalso; omega) | (rw [show k = 3 by omega]; simp [plainF] <;> first | assumption | omega | grind), rfl⟩, h9⟩) (fun _ h9 => by cases h9) d_MO_plainly_167
      · subst hQ
        exact W.zret (v := iI 0) hx hb hr (by decide) (fun t h9 hW => ⟨_, rfl, Or.inr ⟨by first | (exfalso; omega) | (rw [show k = 3 by omega]; simp [plainF] <;> first | assumption | omega | grind), rfl⟩, h9⟩) (fun _ h9 => by cases h9) d_MO_plainly_167
    · refine ix_table (tgt := 168) hx hb d_MO_plainly_19 (by omega) 149 (by omega) (by rw [c_19]; rfl) (by decide) ?_
      refine lv_iload_n hx hb d_MO_plainly_168 rfl (lv_at hl 3 rfl) ?_
      refine lv_bipush (v := iI 10) hx hb d_MO_plainly_169 (by decide) ?_
      refine ix_icmp_lt (tgt := 180) hx hb d_MO_plainly_171 (by decide) (by omega) (fun c_171 => ?_) (fun c_171 => ?_)
      · refine lv_iload_n hx hb d_MO_plainly_180 rfl (lv_at hl 3 rfl) ?_
        refine lv_sipush (v := iI 133) hx hb d_MO_plainly_181 (by decide) ?_
        refine ix_icmp_eq (tgt := 201) hx hb d_MO_plainly_184 (by decide) (by omega) (fun c_184 => ?_) (fun c_184 => ?_)
        · refine lv_iconst (v := iI 1) hx hb d_MO_plainly_201 rfl ?_
          refine lv_goto (tgt := 206) hx hb d_MO_plainly_202 (by decide) ?_
          subst hQ
          exact W.zret (v := iI 1) hx hb hr (by decide) (fun t h9 hW => ⟨_, rfl, Or.inl ⟨by first | (exfalso; omega) | (rw [show k = 4 by omega]; simp [plainF] <;> first | assumption | omega | grind), rfl⟩, h9⟩) (fun _ h9 => by cases h9) d_MO_plainly_206
        · refine lv_iload_n hx hb d_MO_plainly_187 rfl (lv_at hl 3 rfl) ?_
          refine lv_sipush (v := iI 8232) hx hb d_MO_plainly_188 (by decide) ?_
          refine ix_icmp_eq (tgt := 201) hx hb d_MO_plainly_191 (by decide) (by omega) (fun c_191 => ?_) (fun c_191 => ?_)
          · refine lv_iconst (v := iI 1) hx hb d_MO_plainly_201 rfl ?_
            refine lv_goto (tgt := 206) hx hb d_MO_plainly_202 (by decide) ?_
            subst hQ
            exact W.zret (v := iI 1) hx hb hr (by decide) (fun t h9 hW => ⟨_, rfl, Or.inl ⟨by first | (exfalso; omega) | (rw [show k = 4 by omega]; simp [plainF] <;> first | assumption | omega | grind), rfl⟩, h9⟩) (fun _ h9 => by cases h9) d_MO_plainly_206
          · refine lv_iload_n hx hb d_MO_plainly_194 rfl (lv_at hl 3 rfl) ?_
            refine lv_sipush (v := iI 8233) hx hb d_MO_plainly_195 (by decide) ?_
            refine ix_icmp_ne (tgt := 205) hx hb d_MO_plainly_198 (by decide) (by omega) (fun c_198 => ?_) (fun c_198 => ?_)
            · refine lv_iconst (v := iI 0) hx hb d_MO_plainly_205 rfl ?_
              subst hQ
              exact W.zret (v := iI 0) hx hb hr (by decide) (fun t h9 hW => ⟨_, rfl, Or.inr ⟨by first | (exfalso; omega) | (rw [show k = 4 by omega]; simp [plainF] <;> first | assumption | omega | grind), rfl⟩, h9⟩) (fun _ h9 => by cases h9) d_MO_plainly_206
            · refine lv_iconst (v := iI 1) hx hb d_MO_plainly_201 rfl ?_
              refine lv_goto (tgt := 206) hx hb d_MO_plainly_202 (by decide) ?_
              subst hQ
              exact W.zret (v := iI 1) hx hb hr (by decide) (fun t h9 hW => ⟨_, rfl, Or.inl ⟨by first | (exfalso; omega) | (rw [show k = 4 by omega]; simp [plainF] <;> first | assumption | omega | grind), rfl⟩, h9⟩) (fun _ h9 => by cases h9) d_MO_plainly_206
      · refine lv_iload_n hx hb d_MO_plainly_174 rfl (lv_at hl 3 rfl) ?_
        refine lv_bipush (v := iI 13) hx hb d_MO_plainly_175 (by decide) ?_
        refine ix_icmp_le (tgt := 201) hx hb d_MO_plainly_177 (by decide) (by omega) (fun c_177 => ?_) (fun c_177 => ?_)
        · refine lv_iconst (v := iI 1) hx hb d_MO_plainly_201 rfl ?_
          refine lv_goto (tgt := 206) hx hb d_MO_plainly_202 (by decide) ?_
          subst hQ
          exact W.zret (v := iI 1) hx hb hr (by decide) (fun t h9 hW => ⟨_, rfl, Or.inl ⟨by first | (exfalso; omega) | (rw [show k = 4 by omega]; simp [plainF] <;> first | assumption | omega | grind), rfl⟩, h9⟩) (fun _ h9 => by cases h9) d_MO_plainly_206
        · refine lv_iload_n hx hb d_MO_plainly_180 rfl (lv_at hl 3 rfl) ?_
          refine lv_sipush (v := iI 133) hx hb d_MO_plainly_181 (by decide) ?_
          refine ix_icmp_eq (tgt := 201) hx hb d_MO_plainly_184 (by decide) (by omega) (fun c_184 => ?_) (fun c_184 => ?_)
          · refine lv_iconst (v := iI 1) hx hb d_MO_plainly_201 rfl ?_
            refine lv_goto (tgt := 206) hx hb d_MO_plainly_202 (by decide) ?_
            subst hQ
            exact W.zret (v := iI 1) hx hb hr (by decide) (fun t h9 hW => ⟨_, rfl, Or.inl ⟨by first | (exfalso; omega) | (rw [show k = 4 by omega]; simp [plainF] <;> first | assumption | omega | grind), rfl⟩, h9⟩) (fun _ h9 => by cases h9) d_MO_plainly_206
          · refine lv_iload_n hx hb d_MO_plainly_187 rfl (lv_at hl 3 rfl) ?_
            refine lv_sipush (v := iI 8232) hx hb d_MO_plainly_188 (by decide) ?_
            refine ix_icmp_eq (tgt := 201) hx hb d_MO_plainly_191 (by decide) (by omega) (fun c_191 => ?_) (fun c_191 => ?_)
            · refine lv_iconst (v := iI 1) hx hb d_MO_plainly_201 rfl ?_
              refine lv_goto (tgt := 206) hx hb d_MO_plainly_202 (by decide) ?_
              subst hQ
              exact W.zret (v := iI 1) hx hb hr (by decide) (fun t h9 hW => ⟨_, rfl, Or.inl ⟨by first | (exfalso; omega) | (rw [show k = 4 by omega]; simp [plainF] <;> first | assumption | omega | grind), rfl⟩, h9⟩) (fun _ h9 => by cases h9) d_MO_plainly_206
            · refine lv_iload_n hx hb d_MO_plainly_194 rfl (lv_at hl 3 rfl) ?_
              refine lv_sipush (v := iI 8233) hx hb d_MO_plainly_195 (by decide) ?_
              refine ix_icmp_ne (tgt := 205) hx hb d_MO_plainly_198 (by decide) (by omega) (fun c_198 => ?_) (fun c_198 => ?_)
              · refine lv_iconst (v := iI 0) hx hb d_MO_plainly_205 rfl ?_
                subst hQ
                exact W.zret (v := iI 0) hx hb hr (by decide) (fun t h9 hW => ⟨_, rfl, Or.inr ⟨by first | (exfalso; omega) | (rw [show k = 4 by omega]; simp [plainF] <;> first | assumption | omega | grind), rfl⟩, h9⟩) (fun _ h9 => by cases h9) d_MO_plainly_206
              · refine lv_iconst (v := iI 1) hx hb d_MO_plainly_201 rfl ?_
                refine lv_goto (tgt := 206) hx hb d_MO_plainly_202 (by decide) ?_
                subst hQ
                exact W.zret (v := iI 1) hx hb hr (by decide) (fun t h9 hW => ⟨_, rfl, Or.inl ⟨by first | (exfalso; omega) | (rw [show k = 4 by omega]; simp [plainF] <;> first | assumption | omega | grind), rfl⟩, h9⟩) (fun _ h9 => by cases h9) d_MO_plainly_206
    · refine ix_table (tgt := 207) hx hb d_MO_plainly_19 (by omega) 188 (by omega) (by rw [c_19]; rfl) (by decide) ?_
      refine lv_aload_n hx hb d_MO_plainly_207 rfl (lv_at hl 1 rfl) ?_
      refine lv_iload_n hx hb d_MO_plainly_208 rfl (lv_at hl 3 rfl) ?_
      refine zcV (ci := 4) (q0 := 0) (As := [.int (iI c)]) (rest := []) ⟨hx, hb, hml, hown, ht⟩ v_MO_140 (c_MO_alpha l g r ut uc la wo bw mt ms c (by omega)) ⟨Nat.le_of_ble_eq_true rfl, Nat.le_of_ble_eq_true rfl⟩ ⟨Nat.zero_le _, Nat.zero_le _⟩ hK hZ hS hP rfl rfl rfl rfl hl.1 rfl (Nat.le_of_ble_eq_true rfl) d_MO_plainly_209 (fun r_209 h_209 => ?_)
      rcases h_209 with ⟨h_209, rfl⟩ | ⟨h_209, rfl⟩
      · subst hQ
        exact W.zret (v := iI 1) hx hb hr (by decide) (fun t h9 hW => ⟨_, rfl, Or.inl ⟨by first | (exfalso; omega) | (rw [show k = 5 by omega]; simp [plainF] <;> first | assumption | omega | grind), rfl⟩, h9⟩) (fun _ h9 => by cases h9) d_MO_plainly_212
      · subst hQ
        exact W.zret (v := iI 0) hx hb hr (by decide) (fun t h9 hW => ⟨_, rfl, Or.inr ⟨by first | (exfalso; omega) | (rw [show k = 5 by omega]; simp [plainF] <;> first | assumption | omega | grind), rfl⟩, h9⟩) (fun _ h9 => by cases h9) d_MO_plainly_212
    · refine ix_table (tgt := 213) hx hb d_MO_plainly_19 (by omega) 194 (by omega) (by rw [c_19]; rfl) (by decide) ?_
      refine lv_aload_n hx hb d_MO_plainly_213 rfl (lv_at hl 1 rfl) ?_
      refine lv_iload_n hx hb d_MO_plainly_214 rfl (lv_at hl 3 rfl) ?_
      refine zcV (ci := 4) (q0 := 0) (As := [.int (iI c)]) (rest := []) ⟨hx, hb, hml, hown, ht⟩ v_MO_140 (c_MO_alpha l g r ut uc la wo bw mt ms c (by omega)) ⟨Nat.le_of_ble_eq_true rfl, Nat.le_of_ble_eq_true rfl⟩ ⟨Nat.zero_le _, Nat.zero_le _⟩ hK hZ hS hP rfl rfl rfl rfl hl.1 rfl (Nat.le_of_ble_eq_true rfl) d_MO_plainly_215 (fun r_215 h_215 => ?_)
      rcases h_215 with ⟨h_215, rfl⟩ | ⟨h_215, rfl⟩
      · refine ix_if_eq (tgt := 231) hx hb d_MO_plainly_218 (by decide) (by omega) (fun c_218 => ?_) (fun c_218 => ?_)
        · exact absurd c_218 (by decide)
        · refine lv_iload_n hx hb d_MO_plainly_221 rfl (lv_at hl 3 rfl) ?_
          refine lv_bipush (v := iI 96) hx hb d_MO_plainly_222 (by decide) ?_
          refine ix_icmp_le (tgt := 231) hx hb d_MO_plainly_224 (by decide) (by omega) (fun c_224 => ?_) (fun c_224 => ?_)
          · refine lv_iconst (v := iI 0) hx hb d_MO_plainly_231 rfl ?_
            subst hQ
            exact W.zret (v := iI 0) hx hb hr (by decide) (fun t h9 hW => ⟨_, rfl, Or.inr ⟨by first | (exfalso; omega) | (rw [show k = 6 by omega]; simp [plainF] <;> first | assumption | omega | grind), rfl⟩, h9⟩) (fun _ h9 => by cases h9) d_MO_plainly_232
          · refine lv_iconst (v := iI 1) hx hb d_MO_plainly_227 rfl ?_
            refine lv_goto (tgt := 232) hx hb d_MO_plainly_228 (by decide) ?_
            subst hQ
            exact W.zret (v := iI 1) hx hb hr (by decide) (fun t h9 hW => ⟨_, rfl, Or.inl ⟨by first | (exfalso; omega) | (rw [show k = 6 by omega]; simp [plainF] <;> first | assumption | omega | grind), rfl⟩, h9⟩) (fun _ h9 => by cases h9) d_MO_plainly_232
      · refine ix_if_eq (tgt := 231) hx hb d_MO_plainly_218 (by decide) (by omega) (fun c_218 => ?_) (fun c_218 => ?_)
        · refine lv_iconst (v := iI 0) hx hb d_MO_plainly_231 rfl ?_
          subst hQ
          exact W.zret (v := iI 0) hx hb hr (by decide) (fun t h9 hW => ⟨_, rfl, Or.inr ⟨by first | (exfalso; omega) | (rw [show k = 6 by omega]; simp [plainF] <;> first | assumption | omega | grind), rfl⟩, h9⟩) (fun _ h9 => by cases h9) d_MO_plainly_232
        · exact absurd c_218 (by decide)
    · refine ix_table (tgt := 233) hx hb d_MO_plainly_19 (by omega) 214 (by omega) (by rw [c_19]; rfl) (by decide) ?_
      refine lv_aload_n hx hb d_MO_plainly_233 rfl (lv_at hl 1 rfl) ?_
      refine lv_iload_n hx hb d_MO_plainly_234 rfl (lv_at hl 3 rfl) ?_
      refine zcV (ci := 4) (q0 := 0) (As := [.int (iI c)]) (rest := []) ⟨hx, hb, hml, hown, ht⟩ v_MO_140 (c_MO_alpha l g r ut uc la wo bw mt ms c (by omega)) ⟨Nat.le_of_ble_eq_true rfl, Nat.le_of_ble_eq_true rfl⟩ ⟨Nat.zero_le _, Nat.zero_le _⟩ hK hZ hS hP rfl rfl rfl rfl hl.1 rfl (Nat.le_of_ble_eq_true rfl) d_MO_plainly_235 (fun r_235 h_235 => ?_)
      rcases h_235 with ⟨h_235, rfl⟩ | ⟨h_235, rfl⟩
      · refine ix_if_eq (tgt := 251) hx hb d_MO_plainly_238 (by decide) (by omega) (fun c_238 => ?_) (fun c_238 => ?_)
        · exact absurd c_238 (by decide)
        · refine lv_iload_n hx hb d_MO_plainly_241 rfl (lv_at hl 3 rfl) ?_
          refine lv_bipush (v := iI 96) hx hb d_MO_plainly_242 (by decide) ?_
          refine ix_icmp_ge (tgt := 251) hx hb d_MO_plainly_244 (by decide) (by omega) (fun c_244 => ?_) (fun c_244 => ?_)
          · refine lv_iconst (v := iI 0) hx hb d_MO_plainly_251 rfl ?_
            subst hQ
            exact W.zret (v := iI 0) hx hb hr (by decide) (fun t h9 hW => ⟨_, rfl, Or.inr ⟨by first | (exfalso; omega) | (rw [show k = 7 by omega]; simp [plainF] <;> first | assumption | omega | grind), rfl⟩, h9⟩) (fun _ h9 => by cases h9) d_MO_plainly_252
          · refine lv_iconst (v := iI 1) hx hb d_MO_plainly_247 rfl ?_
            refine lv_goto (tgt := 252) hx hb d_MO_plainly_248 (by decide) ?_
            subst hQ
            exact W.zret (v := iI 1) hx hb hr (by decide) (fun t h9 hW => ⟨_, rfl, Or.inl ⟨by first | (exfalso; omega) | (rw [show k = 7 by omega]; simp [plainF] <;> first | assumption | omega | grind), rfl⟩, h9⟩) (fun _ h9 => by cases h9) d_MO_plainly_252
      · refine ix_if_eq (tgt := 251) hx hb d_MO_plainly_238 (by decide) (by omega) (fun c_238 => ?_) (fun c_238 => ?_)
        · refine lv_iconst (v := iI 0) hx hb d_MO_plainly_251 rfl ?_
          subst hQ
          exact W.zret (v := iI 0) hx hb hr (by decide) (fun t h9 hW => ⟨_, rfl, Or.inr ⟨by first | (exfalso; omega) | (rw [show k = 7 by omega]; simp [plainF] <;> first | assumption | omega | grind), rfl⟩, h9⟩) (fun _ h9 => by cases h9) d_MO_plainly_252
        · exact absurd c_238 (by decide)
    · refine ix_table (tgt := 104) hx hb d_MO_plainly_19 (by omega) 85 (by omega) (by rw [c_19]; rfl) (by decide) ?_
      refine lv_aload_n hx hb d_MO_plainly_104 rfl (lv_at hl 1 rfl) ?_
      refine lv_iload_n hx hb d_MO_plainly_105 rfl (lv_at hl 3 rfl) ?_
      refine zcV (ci := 4) (q0 := 0) (As := [.int (iI c)]) (rest := []) ⟨hx, hb, hml, hown, ht⟩ v_MO_137 (c_MO_digit l g r ut uc la wo bw mt ms c (by omega)) ⟨Nat.le_of_ble_eq_true rfl, Nat.le_of_ble_eq_true rfl⟩ ⟨Nat.zero_le _, Nat.zero_le _⟩ hK hZ hS hP rfl rfl rfl rfl hl.1 rfl (Nat.le_of_ble_eq_true rfl) d_MO_plainly_106 (fun r_106 h_106 => ?_)
      rcases h_106 with ⟨h_106, rfl⟩ | ⟨h_106, rfl⟩
      · subst hQ
        exact W.zret (v := iI 1) hx hb hr (by decide) (fun t h9 hW => ⟨_, rfl, Or.inl ⟨by first | (exfalso; omega) | (rw [show k = 8 by omega]; simp [plainF] <;> first | assumption | omega | grind), rfl⟩, h9⟩) (fun _ h9 => by cases h9) d_MO_plainly_109
      · subst hQ
        exact W.zret (v := iI 0) hx hb hr (by decide) (fun t h9 hW => ⟨_, rfl, Or.inr ⟨by first | (exfalso; omega) | (rw [show k = 8 by omega]; simp [plainF] <;> first | assumption | omega | grind), rfl⟩, h9⟩) (fun _ h9 => by cases h9) d_MO_plainly_109
    · refine ix_table (tgt := 253) hx hb d_MO_plainly_19 (by omega) 234 (by omega) (by rw [c_19]; rfl) (by decide) ?_
      refine lv_aload_n hx hb d_MO_plainly_253 rfl (lv_at hl 1 rfl) ?_
      refine lv_iload_n hx hb d_MO_plainly_254 rfl (lv_at hl 3 rfl) ?_
      refine zcV (ci := 4) (q0 := 0) (As := [.int (iI c)]) (rest := []) ⟨hx, hb, hml, hown, ht⟩ v_MO_140 (c_MO_alpha l g r ut uc la wo bw mt ms c (by omega)) ⟨Nat.le_of_ble_eq_true rfl, Nat.le_of_ble_eq_true rfl⟩ ⟨Nat.zero_le _, Nat.zero_le _⟩ hK hZ hS hP rfl rfl rfl rfl hl.1 rfl (Nat.le_of_ble_eq_true rfl) d_MO_plainly_255 (fun r_255 h_255 => ?_)
      rcases h_255 with ⟨h_255, rfl⟩ | ⟨h_255, rfl⟩
      · refine ix_if_ne (tgt := 269) hx hb d_MO_plainly_258 (by decide) (by omega) (fun c_258 => ?_) (fun c_258 => ?_)
        · refine lv_iconst (v := iI 1) hx hb d_MO_plainly_269 rfl ?_
          refine lv_goto (tgt := 274) hx hb d_MO_plainly_270 (by decide) ?_
          subst hQ
          exact W.zret (v := iI 1) hx hb hr (by decide) (fun t h9 hW => ⟨_, rfl, Or.inl ⟨by first | (exfalso; omega) | (rw [show k = 9 by omega]; simp [plainF] <;> first | assumption | omega | grind), rfl⟩, h9⟩) (fun _ h9 => by cases h9) d_MO_plainly_274
        · exact absurd c_258 (by decide)
      · refine ix_if_ne (tgt := 269) hx hb d_MO_plainly_258 (by decide) (by omega) (fun c_258 => ?_) (fun c_258 => ?_)
        · exact absurd c_258 (by decide)
        · refine lv_aload_n hx hb d_MO_plainly_261 rfl (lv_at hl 1 rfl) ?_
          refine lv_iload_n hx hb d_MO_plainly_262 rfl (lv_at hl 3 rfl) ?_
          refine zcV (ci := 4) (q0 := 0) (As := [.int (iI c)]) (rest := []) ⟨hx, hb, hml, hown, ht⟩ v_MO_137 (c_MO_digit l g r ut uc la wo bw mt ms c (by omega)) ⟨Nat.le_of_ble_eq_true rfl, Nat.le_of_ble_eq_true rfl⟩ ⟨Nat.zero_le _, Nat.zero_le _⟩ hK hZ hS hP rfl rfl rfl rfl hl.1 rfl (Nat.le_of_ble_eq_true rfl) d_MO_plainly_263 (fun r_263 h_263 => ?_)
          rcases h_263 with ⟨h_263, rfl⟩ | ⟨h_263, rfl⟩
          · refine ix_if_eq (tgt := 273) hx hb d_MO_plainly_266 (by decide) (by omega) (fun c_266 => ?_) (fun c_266 => ?_)
            · exact absurd c_266 (by decide)
            · refine lv_iconst (v := iI 1) hx hb d_MO_plainly_269 rfl ?_
              refine lv_goto (tgt := 274) hx hb d_MO_plainly_270 (by decide) ?_
              subst hQ
              exact W.zret (v := iI 1) hx hb hr (by decide) (fun t h9 hW => ⟨_, rfl, Or.inl ⟨by first | (exfalso; omega) | (rw [show k = 9 by omega]; simp [plainF] <;> first | assumption | omega | grind), rfl⟩, h9⟩) (fun _ h9 => by cases h9) d_MO_plainly_274
          · refine ix_if_eq (tgt := 273) hx hb d_MO_plainly_266 (by decide) (by omega) (fun c_266 => ?_) (fun c_266 => ?_)
            · refine lv_iconst (v := iI 0) hx hb d_MO_plainly_273 rfl ?_
              subst hQ
              exact W.zret (v := iI 0) hx hb hr (by decide) (fun t h9 hW => ⟨_, rfl, Or.inr ⟨by first | (exfalso; omega) | (rw [show k = 9 by omega]; simp [plainF] <;> first | assumption | omega | grind), rfl⟩, h9⟩) (fun _ h9 => by cases h9) d_MO_plainly_274
            · exact absurd c_266 (by decide)
    · refine ix_table (tgt := 110) hx hb d_MO_plainly_19 (by omega) 91 (by omega) (by rw [c_19]; rfl) (by decide) ?_
      refine lv_aload_n hx hb d_MO_plainly_110 rfl (lv_at hl 1 rfl) ?_
      refine lv_iload_n hx hb d_MO_plainly_111 rfl (lv_at hl 3 rfl) ?_
      refine zcV (ci := 4) (q0 := 0) (As := [.int (iI c)]) (rest := []) ⟨hx, hb, hml, hown, ht⟩ v_MO_140 (c_MO_alpha l g r ut uc la wo bw mt ms c (by omega)) ⟨Nat.le_of_ble_eq_true rfl, Nat.le_of_ble_eq_true rfl⟩ ⟨Nat.zero_le _, Nat.zero_le _⟩ hK hZ hS hP rfl rfl rfl rfl hl.1 rfl (Nat.le_of_ble_eq_true rfl) d_MO_plainly_112 (fun r_112 h_112 => ?_)
      rcases h_112 with ⟨h_112, rfl⟩ | ⟨h_112, rfl⟩
      · refine ix_if_ne (tgt := 132) hx hb d_MO_plainly_115 (by decide) (by omega) (fun c_115 => ?_) (fun c_115 => ?_)
        · refine lv_iconst (v := iI 1) hx hb d_MO_plainly_132 rfl ?_
          refine lv_goto (tgt := 137) hx hb d_MO_plainly_133 (by decide) ?_
          subst hQ
          exact W.zret (v := iI 1) hx hb hr (by decide) (fun t h9 hW => ⟨_, rfl, Or.inl ⟨by first | (exfalso; omega) | (rw [show k = 10 by omega]; simp [plainF] <;> first | assumption | omega | grind), rfl⟩, h9⟩) (fun _ h9 => by cases h9) d_MO_plainly_137
        · exact absurd c_115 (by decide)
      · refine ix_if_ne (tgt := 132) hx hb d_MO_plainly_115 (by decide) (by omega) (fun c_115 => ?_) (fun c_115 => ?_)
        · exact absurd c_115 (by decide)
        · refine lv_aload_n hx hb d_MO_plainly_118 rfl (lv_at hl 1 rfl) ?_
          refine lv_iload_n hx hb d_MO_plainly_119 rfl (lv_at hl 3 rfl) ?_
          refine zcV (ci := 4) (q0 := 0) (As := [.int (iI c)]) (rest := []) ⟨hx, hb, hml, hown, ht⟩ v_MO_137 (c_MO_digit l g r ut uc la wo bw mt ms c (by omega)) ⟨Nat.le_of_ble_eq_true rfl, Nat.le_of_ble_eq_true rfl⟩ ⟨Nat.zero_le _, Nat.zero_le _⟩ hK hZ hS hP rfl rfl rfl rfl hl.1 rfl (Nat.le_of_ble_eq_true rfl) d_MO_plainly_120 (fun r_120 h_120 => ?_)
          rcases h_120 with ⟨h_120, rfl⟩ | ⟨h_120, rfl⟩
          · refine ix_if_ne (tgt := 132) hx hb d_MO_plainly_123 (by decide) (by omega) (fun c_123 => ?_) (fun c_123 => ?_)
            · refine lv_iconst (v := iI 1) hx hb d_MO_plainly_132 rfl ?_
              refine lv_goto (tgt := 137) hx hb d_MO_plainly_133 (by decide) ?_
              subst hQ
              exact W.zret (v := iI 1) hx hb hr (by decide) (fun t h9 hW => ⟨_, rfl, Or.inl ⟨by first | (exfalso; omega) | (rw [show k = 10 by omega]; simp [plainF] <;> first | assumption | omega | grind), rfl⟩, h9⟩) (fun _ h9 => by cases h9) d_MO_plainly_137
            · exact absurd c_123 (by decide)
          · refine ix_if_ne (tgt := 132) hx hb d_MO_plainly_123 (by decide) (by omega) (fun c_123 => ?_) (fun c_123 => ?_)
            · exact absurd c_123 (by decide)
            · refine lv_iload_n hx hb d_MO_plainly_126 rfl (lv_at hl 3 rfl) ?_
              refine lv_bipush (v := iI 95) hx hb d_MO_plainly_127 (by decide) ?_
              refine ix_icmp_ne (tgt := 136) hx hb d_MO_plainly_129 (by decide) (by omega) (fun c_129 => ?_) (fun c_129 => ?_)
              · refine lv_iconst (v := iI 0) hx hb d_MO_plainly_136 rfl ?_
                subst hQ
                exact W.zret (v := iI 0) hx hb hr (by decide) (fun t h9 hW => ⟨_, rfl, Or.inr ⟨by first | (exfalso; omega) | (rw [show k = 10 by omega]; simp [plainF] <;> first | assumption | omega | grind), rfl⟩, h9⟩) (fun _ h9 => by cases h9) d_MO_plainly_137
              · refine lv_iconst (v := iI 1) hx hb d_MO_plainly_132 rfl ?_
                refine lv_goto (tgt := 137) hx hb d_MO_plainly_133 (by decide) ?_
                subst hQ
                exact W.zret (v := iI 1) hx hb hr (by decide) (fun t h9 hW => ⟨_, rfl, Or.inl ⟨by first | (exfalso; omega) | (rw [show k = 10 by omega]; simp [plainF] <;> first | assumption | omega | grind), rfl⟩, h9⟩) (fun _ h9 => by cases h9) d_MO_plainly_137
    · refine ix_table (tgt := 138) hx hb d_MO_plainly_19 (by omega) 119 (by omega) (by rw [c_19]; rfl) (by decide) ?_
      refine lv_iload_n hx hb d_MO_plainly_138 rfl (lv_at hl 3 rfl) ?_
      refine lv_bipush (v := iI 9) hx hb d_MO_plainly_139 (by decide) ?_
      refine ix_icmp_lt (tgt := 150) hx hb d_MO_plainly_141 (by decide) (by omega) (fun c_141 => ?_) (fun c_141 => ?_)
      · refine lv_iload_n hx hb d_MO_plainly_150 rfl (lv_at hl 3 rfl) ?_
        refine lv_bipush (v := iI 32) hx hb d_MO_plainly_151 (by decide) ?_
        refine ix_icmp_ne (tgt := 160) hx hb d_MO_plainly_153 (by decide) (by omega) (fun c_153 => ?_) (fun c_153 => ?_)
        · refine lv_iconst (v := iI 0) hx hb d_MO_plainly_160 rfl ?_
          subst hQ
          exact W.zret (v := iI 0) hx hb hr (by decide) (fun t h9 hW => ⟨_, rfl, Or.inr ⟨by first | (exfalso; omega) | (rw [show k = 11 by omega]; simp [plainF] <;> first | assumption | omega | grind), rfl⟩, h9⟩) (fun _ h9 => by cases h9) d_MO_plainly_161
        · refine lv_iconst (v := iI 1) hx hb d_MO_plainly_156 rfl ?_
          refine lv_goto (tgt := 161) hx hb d_MO_plainly_157 (by decide) ?_
          subst hQ
          exact W.zret (v := iI 1) hx hb hr (by decide) (fun t h9 hW => ⟨_, rfl, Or.inl ⟨by first | (exfalso; omega) | (rw [show k = 11 by omega]; simp [plainF] <;> first | assumption | omega | grind), rfl⟩, h9⟩) (fun _ h9 => by cases h9) d_MO_plainly_161
      · refine lv_iload_n hx hb d_MO_plainly_144 rfl (lv_at hl 3 rfl) ?_
        refine lv_bipush (v := iI 13) hx hb d_MO_plainly_145 (by decide) ?_
        refine ix_icmp_le (tgt := 156) hx hb d_MO_plainly_147 (by decide) (by omega) (fun c_147 => ?_) (fun c_147 => ?_)
        · refine lv_iconst (v := iI 1) hx hb d_MO_plainly_156 rfl ?_
          refine lv_goto (tgt := 161) hx hb d_MO_plainly_157 (by decide) ?_
          subst hQ
          exact W.zret (v := iI 1) hx hb hr (by decide) (fun t h9 hW => ⟨_, rfl, Or.inl ⟨by first | (exfalso; omega) | (rw [show k = 11 by omega]; simp [plainF] <;> first | assumption | omega | grind), rfl⟩, h9⟩) (fun _ h9 => by cases h9) d_MO_plainly_161
        · refine lv_iload_n hx hb d_MO_plainly_150 rfl (lv_at hl 3 rfl) ?_
          refine lv_bipush (v := iI 32) hx hb d_MO_plainly_151 (by decide) ?_
          refine ix_icmp_ne (tgt := 160) hx hb d_MO_plainly_153 (by decide) (by omega) (fun c_153 => ?_) (fun c_153 => ?_)
          · refine lv_iconst (v := iI 0) hx hb d_MO_plainly_160 rfl ?_
            subst hQ
            exact W.zret (v := iI 0) hx hb hr (by decide) (fun t h9 hW => ⟨_, rfl, Or.inr ⟨by first | (exfalso; omega) | (rw [show k = 11 by omega]; simp [plainF] <;> first | assumption | omega | grind), rfl⟩, h9⟩) (fun _ h9 => by cases h9) d_MO_plainly_161
          · refine lv_iconst (v := iI 1) hx hb d_MO_plainly_156 rfl ?_
            refine lv_goto (tgt := 161) hx hb d_MO_plainly_157 (by decide) ?_
            subst hQ
            exact W.zret (v := iI 1) hx hb hr (by decide) (fun t h9 hW => ⟨_, rfl, Or.inl ⟨by first | (exfalso; omega) | (rw [show k = 11 by omega]; simp [plainF] <;> first | assumption | omega | grind), rfl⟩, h9⟩) (fun _ h9 => by cases h9) d_MO_plainly_161
    · refine ix_table (tgt := 275) hx hb d_MO_plainly_19 (by omega) 256 (by omega) (by rw [c_19]; rfl) (by decide) ?_
      refine lv_iload_n hx hb d_MO_plainly_275 rfl (lv_at hl 3 rfl) ?_
      refine lv_bipush (v := iI 9) hx hb d_MO_plainly_276 (by decide) ?_
      refine ix_icmp_eq (tgt := 287) hx hb d_MO_plainly_278 (by decide) (by omega) (fun c_278 => ?_) (fun c_278 => ?_)
      · refine lv_iconst (v := iI 1) hx hb d_MO_plainly_287 rfl ?_
        refine lv_goto (tgt := 292) hx hb d_MO_plainly_288 (by decide) ?_
        subst hQ
        exact W.zret (v := iI 1) hx hb hr (by decide) (fun t h9 hW => ⟨_, rfl, Or.inl ⟨by first | (exfalso; omega) | (rw [show k = 12 by omega]; simp [plainF] <;> first | assumption | omega | grind), rfl⟩, h9⟩) (fun _ h9 => by cases h9) d_MO_plainly_292
      · refine lv_iload_n hx hb d_MO_plainly_281 rfl (lv_at hl 3 rfl) ?_
        refine lv_bipush (v := iI 32) hx hb d_MO_plainly_282 (by decide) ?_
        refine ix_icmp_ne (tgt := 291) hx hb d_MO_plainly_284 (by decide) (by omega) (fun c_284 => ?_) (fun c_284 => ?_)
        · refine lv_iconst (v := iI 0) hx hb d_MO_plainly_291 rfl ?_
          subst hQ
          exact W.zret (v := iI 0) hx hb hr (by decide) (fun t h9 hW => ⟨_, rfl, Or.inr ⟨by first | (exfalso; omega) | (rw [show k = 12 by omega]; simp [plainF] <;> first | assumption | omega | grind), rfl⟩, h9⟩) (fun _ h9 => by cases h9) d_MO_plainly_292
        · refine lv_iconst (v := iI 1) hx hb d_MO_plainly_287 rfl ?_
          refine lv_goto (tgt := 292) hx hb d_MO_plainly_288 (by decide) ?_
          subst hQ
          exact W.zret (v := iI 1) hx hb hr (by decide) (fun t h9 hW => ⟨_, rfl, Or.inl ⟨by first | (exfalso; omega) | (rw [show k = 12 by omega]; simp [plainF] <;> first | assumption | omega | grind), rfl⟩, h9⟩) (fun _ h9 => by cases h9) d_MO_plainly_292
    · refine ix_table (tgt := 293) hx hb d_MO_plainly_19 (by omega) 274 (by omega) (by rw [c_19]; rfl) (by decide) ?_
      refine lv_iload_n hx hb d_MO_plainly_293 rfl (lv_at hl 3 rfl) ?_
      refine lv_bipush (v := iI 32) hx hb d_MO_plainly_294 (by decide) ?_
      refine ix_icmp_lt (tgt := 305) hx hb d_MO_plainly_296 (by decide) (by omega) (fun c_296 => ?_) (fun c_296 => ?_)
      · refine lv_iconst (v := iI 1) hx hb d_MO_plainly_305 rfl ?_
        refine lv_goto (tgt := 310) hx hb d_MO_plainly_306 (by decide) ?_
        subst hQ
        exact W.zret (v := iI 1) hx hb hr (by decide) (fun t h9 hW => ⟨_, rfl, Or.inl ⟨by first | (exfalso; omega) | (rw [show k = 13 by omega]; simp [plainF] <;> first | assumption | omega | grind), rfl⟩, h9⟩) (fun _ h9 => by cases h9) d_MO_plainly_310
      · refine lv_iload_n hx hb d_MO_plainly_299 rfl (lv_at hl 3 rfl) ?_
        refine lv_bipush (v := iI 127) hx hb d_MO_plainly_300 (by decide) ?_
        refine ix_icmp_ne (tgt := 309) hx hb d_MO_plainly_302 (by decide) (by omega) (fun c_302 => ?_) (fun c_302 => ?_)
        · refine lv_iconst (v := iI 0) hx hb d_MO_plainly_309 rfl ?_
          subst hQ
          exact W.zret (v := iI 0) hx hb hr (by decide) (fun t h9 hW => ⟨_, rfl, Or.inr ⟨by first | (exfalso; omega) | (rw [show k = 13 by omega]; simp [plainF] <;> first | assumption | omega | grind), rfl⟩, h9⟩) (fun _ h9 => by cases h9) d_MO_plainly_310
        · refine lv_iconst (v := iI 1) hx hb d_MO_plainly_305 rfl ?_
          refine lv_goto (tgt := 310) hx hb d_MO_plainly_306 (by decide) ?_
          subst hQ
          exact W.zret (v := iI 1) hx hb hr (by decide) (fun t h9 hW => ⟨_, rfl, Or.inl ⟨by first | (exfalso; omega) | (rw [show k = 13 by omega]; simp [plainF] <;> first | assumption | omega | grind), rfl⟩, h9⟩) (fun _ h9 => by cases h9) d_MO_plainly_310
    · refine ix_table (tgt := 311) hx hb d_MO_plainly_19 (by omega) 292 (by omega) (by rw [c_19]; rfl) (by decide) ?_
      refine lv_iload_n hx hb d_MO_plainly_311 rfl (lv_at hl 0 rfl) ?_
      subst hQ
      exact W.zret (v := iI 0) hx hb hr (by decide) (fun t h9 hW => ⟨_, rfl, Or.inr ⟨by first | (exfalso; omega) | (rw [show k = 14 by omega]; simp [plainF] <;> first | assumption | omega | grind), rfl⟩, h9⟩) (fun _ h9 => by cases h9) d_MO_plainly_312
    · refine ix_table (tgt := 313) hx hb d_MO_plainly_19 (by omega) 294 (by omega) (by rw [c_19]; rfl) (by decide) ?_
      refine lv_iload_n hx hb d_MO_plainly_313 rfl (lv_at hl 0 rfl) ?_
      refine ix_if_ne (tgt := 323) hx hb d_MO_plainly_314 (by decide) (by omega) (fun c_314 => ?_) (fun c_314 => ?_)
      · exact absurd c_314 (by decide)
      · refine lv_iload_n hx hb d_MO_plainly_317 rfl (lv_at hl 3 rfl) ?_
        refine lv_bipush (v := iI 32) hx hb d_MO_plainly_318 (by decide) ?_
        refine ix_icmp_ne (tgt := 327) hx hb d_MO_plainly_320 (by decide) (by omega) (fun c_320 => ?_) (fun c_320 => ?_)
        · refine lv_iconst (v := iI 0) hx hb d_MO_plainly_327 rfl ?_
          subst hQ
          exact W.zret (v := iI 0) hx hb hr (by decide) (fun t h9 hW => ⟨_, rfl, Or.inr ⟨by first | (exfalso; omega) | (rw [show k = 15 by omega]; simp [plainF] <;> first | assumption | omega | grind), rfl⟩, h9⟩) (fun _ h9 => by cases h9) d_MO_plainly_328
        · refine lv_iconst (v := iI 1) hx hb d_MO_plainly_323 rfl ?_
          refine lv_goto (tgt := 328) hx hb d_MO_plainly_324 (by decide) ?_
          subst hQ
          exact W.zret (v := iI 1) hx hb hr (by decide) (fun t h9 hW => ⟨_, rfl, Or.inl ⟨by first | (exfalso; omega) | (rw [show k = 15 by omega]; simp [plainF] <;> first | assumption | omega | grind), rfl⟩, h9⟩) (fun _ h9 => by cases h9) d_MO_plainly_328
    · refine ix_table (tgt := 329) hx hb d_MO_plainly_19 (by omega) 310 (by omega) (by rw [c_19]; rfl) (by decide) ?_
      refine lv_iload_n hx hb d_MO_plainly_329 rfl (lv_at hl 0 rfl) ?_
      refine ix_if_eq (tgt := 353) hx hb d_MO_plainly_330 (by decide) (by omega) (fun c_330 => ?_) (fun c_330 => ?_)
      · refine lv_iconst (v := iI 0) hx hb d_MO_plainly_353 rfl ?_
        subst hQ
        exact W.zret (v := iI 0) hx hb hr (by decide) (fun t h9 hW => ⟨_, rfl, Or.inr ⟨by first | (exfalso; omega) | (rw [show k = 16 by omega]; simp [plainF] <;> first | assumption | omega | grind), rfl⟩, h9⟩) (fun _ h9 => by cases h9) d_MO_plainly_354
      · exact absurd c_330 (by decide)
    · refine ix_table (tgt := 355) hx hb d_MO_plainly_19 (by omega) 336 (by omega) (by rw [c_19]; rfl) (by decide) ?_
      refine lv_aload_n hx hb d_MO_plainly_355 rfl (lv_at hl 1 rfl) ?_
      refine lv_iload_n hx hb d_MO_plainly_356 rfl (lv_at hl 3 rfl) ?_
      refine zcV (ci := 4) (q0 := 0) (As := [.int (iI c)]) (rest := []) ⟨hx, hb, hml, hown, ht⟩ v_MO_137 (c_MO_digit l g r ut uc la wo bw mt ms c (by omega)) ⟨Nat.le_of_ble_eq_true rfl, Nat.le_of_ble_eq_true rfl⟩ ⟨Nat.zero_le _, Nat.zero_le _⟩ hK hZ hS hP rfl rfl rfl rfl hl.1 rfl (Nat.le_of_ble_eq_true rfl) d_MO_plainly_357 (fun r_357 h_357 => ?_)
      rcases h_357 with ⟨h_357, rfl⟩ | ⟨h_357, rfl⟩
      · refine ix_if_ne (tgt := 387) hx hb d_MO_plainly_360 (by decide) (by omega) (fun c_360 => ?_) (fun c_360 => ?_)
        · refine lv_iconst (v := iI 1) hx hb d_MO_plainly_387 rfl ?_
          refine lv_goto (tgt := 392) hx hb d_MO_plainly_388 (by decide) ?_
          subst hQ
          exact W.zret (v := iI 1) hx hb hr (by decide) (fun t h9 hW => ⟨_, rfl, Or.inl ⟨by first | (exfalso; omega) | (rw [show k = 17 by omega]; simp [plainF] <;> first | assumption | omega | grind), rfl⟩, h9⟩) (fun _ h9 => by cases h9) d_MO_plainly_392
        · exact absurd c_360 (by decide)
      · refine ix_if_ne (tgt := 387) hx hb d_MO_plainly_360 (by decide) (by omega) (fun c_360 => ?_) (fun c_360 => ?_)
        · exact absurd c_360 (by decide)
        · refine lv_iload_n hx hb d_MO_plainly_363 rfl (lv_at hl 3 rfl) ?_
          refine lv_bipush (v := iI 65) hx hb d_MO_plainly_364 (by decide) ?_
          refine ix_icmp_lt (tgt := 375) hx hb d_MO_plainly_366 (by decide) (by omega) (fun c_366 => ?_) (fun c_366 => ?_)
          · refine lv_iload_n hx hb d_MO_plainly_375 rfl (lv_at hl 3 rfl) ?_
            refine lv_bipush (v := iI 97) hx hb d_MO_plainly_376 (by decide) ?_
            refine ix_icmp_lt (tgt := 391) hx hb d_MO_plainly_378 (by decide) (by omega) (fun c_378 => ?_) (fun c_378 => ?_)
            · refine lv_iconst (v := iI 0) hx hb d_MO_plainly_391 rfl ?_
              subst hQ
              exact W.zret (v := iI 0) hx hb hr (by decide) (fun t h9 hW => ⟨_, rfl, Or.inr ⟨by first | (exfalso; omega) | (rw [show k = 17 by omega]; simp [plainF] <;> first | assumption | omega | grind), rfl⟩, h9⟩) (fun _ h9 => by cases h9) d_MO_plainly_392
            · refine lv_iload_n hx hb d_MO_plainly_381 rfl (lv_at hl 3 rfl) ?_
              refine lv_bipush (v := iI 102) hx hb d_MO_plainly_382 (by decide) ?_
              refine ix_icmp_gt (tgt := 391) hx hb d_MO_plainly_384 (by decide) (by omega) (fun c_384 => ?_) (fun c_384 => ?_)
              · refine lv_iconst (v := iI 0) hx hb d_MO_plainly_391 rfl ?_
                subst hQ
                exact W.zret (v := iI 0) hx hb hr (by decide) (fun t h9 hW => ⟨_, rfl, Or.inr ⟨by first | (exfalso; omega) | (rw [show k = 17 by omega]; simp [plainF] <;> first | assumption | omega | grind), rfl⟩, h9⟩) (fun _ h9 => by cases h9) d_MO_plainly_392
              · refine lv_iconst (v := iI 1) hx hb d_MO_plainly_387 rfl ?_
                refine lv_goto (tgt := 392) hx hb d_MO_plainly_388 (by decide) ?_
                subst hQ
                exact W.zret (v := iI 1) hx hb hr (by decide) (fun t h9 hW => ⟨_, rfl, Or.inl ⟨by first | (exfalso; omega) | (rw [show k = 17 by omega]; simp [plainF] <;> first | assumption | omega | grind), rfl⟩, h9⟩) (fun _ h9 => by cases h9) d_MO_plainly_392
          · refine lv_iload_n hx hb d_MO_plainly_369 rfl (lv_at hl 3 rfl) ?_
            refine lv_bipush (v := iI 70) hx hb d_MO_plainly_370 (by decide) ?_
            refine ix_icmp_le (tgt := 387) hx hb d_MO_plainly_372 (by decide) (by omega) (fun c_372 => ?_) (fun c_372 => ?_)
            · refine lv_iconst (v := iI 1) hx hb d_MO_plainly_387 rfl ?_
              refine lv_goto (tgt := 392) hx hb d_MO_plainly_388 (by decide) ?_
              subst hQ
              exact W.zret (v := iI 1) hx hb hr (by decide) (fun t h9 hW => ⟨_, rfl, Or.inl ⟨by first | (exfalso; omega) | (rw [show k = 17 by omega]; simp [plainF] <;> first | assumption | omega | grind), rfl⟩, h9⟩) (fun _ h9 => by cases h9) d_MO_plainly_392
            · refine lv_iload_n hx hb d_MO_plainly_375 rfl (lv_at hl 3 rfl) ?_
              refine lv_bipush (v := iI 97) hx hb d_MO_plainly_376 (by decide) ?_
              refine ix_icmp_lt (tgt := 391) hx hb d_MO_plainly_378 (by decide) (by omega) (fun c_378 => ?_) (fun c_378 => ?_)
              · refine lv_iconst (v := iI 0) hx hb d_MO_plainly_391 rfl ?_
                subst hQ
                exact W.zret (v := iI 0) hx hb hr (by decide) (fun t h9 hW => ⟨_, rfl, Or.inr ⟨by first | (exfalso; omega) | (rw [show k = 17 by omega]; simp [plainF] <;> first | assumption | omega | grind), rfl⟩, h9⟩) (fun _ h9 => by cases h9) d_MO_plainly_392
              · refine lv_iload_n hx hb d_MO_plainly_381 rfl (lv_at hl 3 rfl) ?_
                refine lv_bipush (v := iI 102) hx hb d_MO_plainly_382 (by decide) ?_
                refine ix_icmp_gt (tgt := 391) hx hb d_MO_plainly_384 (by decide) (by omega) (fun c_384 => ?_) (fun c_384 => ?_)
                · refine lv_iconst (v := iI 0) hx hb d_MO_plainly_391 rfl ?_
                  subst hQ
                  exact W.zret (v := iI 0) hx hb hr (by decide) (fun t h9 hW => ⟨_, rfl, Or.inr ⟨by first | (exfalso; omega) | (rw [show k = 17 by omega]; simp [plainF] <;> first | assumption | omega | grind), rfl⟩, h9⟩) (fun _ h9 => by cases h9) d_MO_plainly_392
                · refine lv_iconst (v := iI 1) hx hb d_MO_plainly_387 rfl ?_
                  refine lv_goto (tgt := 392) hx hb d_MO_plainly_388 (by decide) ?_
                  subst hQ
                  exact W.zret (v := iI 1) hx hb hr (by decide) (fun t h9 hW => ⟨_, rfl, Or.inl ⟨by first | (exfalso; omega) | (rw [show k = 17 by omega]; simp [plainF] <;> first | assumption | omega | grind), rfl⟩, h9⟩) (fun _ h9 => by cases h9) d_MO_plainly_392
    · refine ix_tableO (tgt := 393) hx hb d_MO_plainly_19 (by omega) c_19 (by decide) ?_
      refine lv_iload_n hx hb d_MO_plainly_393 rfl (lv_at hl 3 rfl) ?_
      refine lv_sipush (v := iI 128) hx hb d_MO_plainly_394 (by decide) ?_
      refine ix_icmp_ge (tgt := 404) hx hb d_MO_plainly_397 (by decide) (by omega) (fun c_397 => ?_) (fun c_397 => ?_)
      · refine lv_iconst (v := iI 0) hx hb d_MO_plainly_404 rfl ?_
        subst hQ
        exact W.zret (v := iI 0) hx hb hr (by decide) (fun t h9 hW => ⟨_, rfl, Or.inr ⟨by first | (exfalso; omega) | (rw [show k = 18 by omega]; simp [plainF] <;> first | assumption | omega | grind), rfl⟩, h9⟩) (fun _ h9 => by cases h9) d_MO_plainly_405
      · refine lv_iconst (v := iI 1) hx hb d_MO_plainly_400 rfl ?_
        refine lv_goto (tgt := 405) hx hb d_MO_plainly_401 (by decide) ?_
        subst hQ
        exact W.zret (v := iI 1) hx hb hr (by decide) (fun t h9 hW => ⟨_, rfl, Or.inl ⟨by first | (exfalso; omega) | (rw [show k = 18 by omega]; simp [plainF] <;> first | assumption | omega | grind), rfl⟩, h9⟩) (fun _ h9 => by cases h9) d_MO_plainly_405
  · refine lv_iload_n hx hb d_MO_plainly_6 rfl (lv_at hl 2 rfl) ?_
    refine lv_bipush (v := iI 126) hx hb d_MO_plainly_7 (by decide) ?_
    refine ix_icmp_gt (tgt := 16) hx hb d_MO_plainly_9 (by decide) (by omega) (fun c_9 => ?_) (fun c_9 => ?_)
    · refine lv_iconst (v := iI 0) hx hb d_MO_plainly_16 rfl ?_
      refine lv_istore_n (lv' := [(3, .int (iI 0)), (0, .ref (r 0)), (1, .int (iI k)), (2, .int (iI c))]) hx hb d_MO_plainly_17 rfl hl (by decide) rfl (fun ls hl => ?_)
      refine lv_iload_n hx hb d_MO_plainly_18 rfl (lv_at hl 2 rfl) ?_
      rcases (show k = 0 ∨ k = 1 ∨ k = 2 ∨ k = 3 ∨ k = 4 ∨ k = 5 ∨ k = 6 ∨ k = 7 ∨ k = 8 ∨ k = 9 ∨ k = 10 ∨ k = 11 ∨ k = 12 ∨ k = 13 ∨ k = 14 ∨ k = 15 ∨ k = 16 ∨ k = 17 ∨ (k < 0 ∨ 17 < k) from by omega) with c_19 | c_19 | c_19 | c_19 | c_19 | c_19 | c_19 | c_19 | c_19 | c_19 | c_19 | c_19 | c_19 | c_19 | c_19 | c_19 | c_19 | c_19 | c_19
      · refine ix_table (tgt := 104) hx hb d_MO_plainly_19 (by omega) 85 (by omega) (by rw [c_19]; rfl) (by decide) ?_
        refine lv_aload_n hx hb d_MO_plainly_104 rfl (lv_at hl 1 rfl) ?_
        refine lv_iload_n hx hb d_MO_plainly_105 rfl (lv_at hl 3 rfl) ?_
        refine zcV (ci := 4) (q0 := 0) (As := [.int (iI c)]) (rest := []) ⟨hx, hb, hml, hown, ht⟩ v_MO_137 (c_MO_digit l g r ut uc la wo bw mt ms c (by omega)) ⟨Nat.le_of_ble_eq_true rfl, Nat.le_of_ble_eq_true rfl⟩ ⟨Nat.zero_le _, Nat.zero_le _⟩ hK hZ hS hP rfl rfl rfl rfl hl.1 rfl (Nat.le_of_ble_eq_true rfl) d_MO_plainly_106 (fun r_106 h_106 => ?_)
        rcases h_106 with ⟨h_106, rfl⟩ | ⟨h_106, rfl⟩
        · subst hQ
          exact W.zret (v := iI 1) hx hb hr (by decide) (fun t h9 hW => ⟨_, rfl, Or.inl ⟨by first | (exfalso; omega) | (rw [show k = 0 by omega]; simp [plainF] <;> first | assumption | omega | grind), rfl⟩, h9⟩) (fun _ h9 => by cases h9) d_MO_plainly_109
        · subst hQ
          exact W.zret (v := iI 0) hx hb hr (by decide) (fun t h9 hW => ⟨_, rfl, Or.inr ⟨by first | (exfalso; omega) | (rw [show k = 0 by omega]; simp [plainF] <;> first | assumption | omega | grind), rfl⟩, h9⟩) (fun _ h9 => by cases h9) d_MO_plainly_109
      · refine ix_table (tgt := 110) hx hb d_MO_plainly_19 (by omega) 91 (by omega) (by rw [c_19]; rfl) (by decide) ?_
        refine lv_aload_n hx hb d_MO_plainly_110 rfl (lv_at hl 1 rfl) ?_
        refine lv_iload_n hx hb d_MO_plainly_111 rfl (lv_at hl 3 rfl) ?_
        refine zcV (ci := 4) (q0 := 0) (As := [.int (iI c)]) (rest := []) ⟨hx, hb, hml, hown, ht⟩ v_MO_140 (c_MO_alpha l g r ut uc la wo bw mt ms c (by omega)) ⟨Nat.le_of_ble_eq_true rfl, Nat.le_of_ble_eq_true rfl⟩ ⟨Nat.zero_le _, Nat.zero_le _⟩ hK hZ hS hP rfl rfl rfl rfl hl.1 rfl (Nat.le_of_ble_eq_true rfl) d_MO_plainly_112 (fun r_112 h_112 => ?_)
        rcases h_112 with ⟨h_112, rfl⟩ | ⟨h_112, rfl⟩
        · refine ix_if_ne (tgt := 132) hx hb d_MO_plainly_115 (by decide) (by omega) (fun c_115 => ?_) (fun c_115 => ?_)
          · refine lv_iconst (v := iI 1) hx hb d_MO_plainly_132 rfl ?_
            refine lv_goto (tgt := 137) hx hb d_MO_plainly_133 (by decide) ?_
            subst hQ
            exact W.zret (v := iI 1) hx hb hr (by decide) (fun t h9 hW => ⟨_, rfl, Or.inl ⟨by first | (exfalso; omega) | (rw [show k = 1 by omega]; simp [plainF] <;> first | assumption | omega | grind), rfl⟩, h9⟩) (fun _ h9 => by cases h9) d_MO_plainly_137
          · exact absurd c_115 (by decide)
        · refine ix_if_ne (tgt := 132) hx hb d_MO_plainly_115 (by decide) (by omega) (fun c_115 => ?_) (fun c_115 => ?_)
          · exact absurd c_115 (by decide)
          · refine lv_aload_n hx hb d_MO_plainly_118 rfl (lv_at hl 1 rfl) ?_
            refine lv_iload_n hx hb d_MO_plainly_119 rfl (lv_at hl 3 rfl) ?_
            refine zcV (ci := 4) (q0 := 0) (As := [.int (iI c)]) (rest := []) ⟨hx, hb, hml, hown, ht⟩ v_MO_137 (c_MO_digit l g r ut uc la wo bw mt ms c (by omega)) ⟨Nat.le_of_ble_eq_true rfl, Nat.le_of_ble_eq_true rfl⟩ ⟨Nat.zero_le _, Nat.zero_le _⟩ hK hZ hS hP rfl rfl rfl rfl hl.1 rfl (Nat.le_of_ble_eq_true rfl) d_MO_plainly_120 (fun r_120 h_120 => ?_)
            rcases h_120 with ⟨h_120, rfl⟩ | ⟨h_120, rfl⟩
            · refine ix_if_ne (tgt := 132) hx hb d_MO_plainly_123 (by decide) (by omega) (fun c_123 => ?_) (fun c_123 => ?_)
              · refine lv_iconst (v := iI 1) hx hb d_MO_plainly_132 rfl ?_
                refine lv_goto (tgt := 137) hx hb d_MO_plainly_133 (by decide) ?_
                subst hQ
                exact W.zret (v := iI 1) hx hb hr (by decide) (fun t h9 hW => ⟨_, rfl, Or.inl ⟨by first | (exfalso; omega) | (rw [show k = 1 by omega]; simp [plainF] <;> first | assumption | omega | grind), rfl⟩, h9⟩) (fun _ h9 => by cases h9) d_MO_plainly_137
              · exact absurd c_123 (by decide)
            · refine ix_if_ne (tgt := 132) hx hb d_MO_plainly_123 (by decide) (by omega) (fun c_123 => ?_) (fun c_123 => ?_)
              · exact absurd c_123 (by decide)
              · refine lv_iload_n hx hb d_MO_plainly_126 rfl (lv_at hl 3 rfl) ?_
                refine lv_bipush (v := iI 95) hx hb d_MO_plainly_127 (by decide) ?_
                refine ix_icmp_ne (tgt := 136) hx hb d_MO_plainly_129 (by decide) (by omega) (fun c_129 => ?_) (fun c_129 => ?_)
                · refine lv_iconst (v := iI 0) hx hb d_MO_plainly_136 rfl ?_
                  subst hQ
                  exact W.zret (v := iI 0) hx hb hr (by decide) (fun t h9 hW => ⟨_, rfl, Or.inr ⟨by first | (exfalso; omega) | (rw [show k = 1 by omega]; simp [plainF] <;> first | assumption | omega | grind), rfl⟩, h9⟩) (fun _ h9 => by cases h9) d_MO_plainly_137
                · refine lv_iconst (v := iI 1) hx hb d_MO_plainly_132 rfl ?_
                  refine lv_goto (tgt := 137) hx hb d_MO_plainly_133 (by decide) ?_
                  subst hQ
                  exact W.zret (v := iI 1) hx hb hr (by decide) (fun t h9 hW => ⟨_, rfl, Or.inl ⟨by first | (exfalso; omega) | (rw [show k = 1 by omega]; simp [plainF] <;> first | assumption | omega | grind), rfl⟩, h9⟩) (fun _ h9 => by cases h9) d_MO_plainly_137
      · refine ix_table (tgt := 138) hx hb d_MO_plainly_19 (by omega) 119 (by omega) (by rw [c_19]; rfl) (by decide) ?_
        refine lv_iload_n hx hb d_MO_plainly_138 rfl (lv_at hl 3 rfl) ?_
        refine lv_bipush (v := iI 9) hx hb d_MO_plainly_139 (by decide) ?_
        refine ix_icmp_lt (tgt := 150) hx hb d_MO_plainly_141 (by decide) (by omega) (fun c_141 => ?_) (fun c_141 => ?_)
        · refine lv_iload_n hx hb d_MO_plainly_150 rfl (lv_at hl 3 rfl) ?_
          refine lv_bipush (v := iI 32) hx hb d_MO_plainly_151 (by decide) ?_
          refine ix_icmp_ne (tgt := 160) hx hb d_MO_plainly_153 (by decide) (by omega) (fun c_153 => ?_) (fun c_153 => ?_)
          · refine lv_iconst (v := iI 0) hx hb d_MO_plainly_160 rfl ?_
            subst hQ
            exact W.zret (v := iI 0) hx hb hr (by decide) (fun t h9 hW => ⟨_, rfl, Or.inr ⟨by first | (exfalso; omega) | (rw [show k = 2 by omega]; simp [plainF] <;> first | assumption | omega | grind), rfl⟩, h9⟩) (fun _ h9 => by cases h9) d_MO_plainly_161
          · refine lv_iconst (v := iI 1) hx hb d_MO_plainly_156 rfl ?_
            refine lv_goto (tgt := 161) hx hb d_MO_plainly_157 (by decide) ?_
            subst hQ
            exact W.zret (v := iI 1) hx hb hr (by decide) (fun t h9 hW => ⟨_, rfl, Or.inl ⟨by first | (exfalso; omega) | (rw [show k = 2 by omega]; simp [plainF] <;> first | assumption | omega | grind), rfl⟩, h9⟩) (fun _ h9 => by cases h9) d_MO_plainly_161
        · refine lv_iload_n hx hb d_MO_plainly_144 rfl (lv_at hl 3 rfl) ?_
          refine lv_bipush (v := iI 13) hx hb d_MO_plainly_145 (by decide) ?_
          refine ix_icmp_le (tgt := 156) hx hb d_MO_plainly_147 (by decide) (by omega) (fun c_147 => ?_) (fun c_147 => ?_)
          · refine lv_iconst (v := iI 1) hx hb d_MO_plainly_156 rfl ?_
            refine lv_goto (tgt := 161) hx hb d_MO_plainly_157 (by decide) ?_
            subst hQ
            exact W.zret (v := iI 1) hx hb hr (by decide) (fun t h9 hW => ⟨_, rfl, Or.inl ⟨by first | (exfalso; omega) | (rw [show k = 2 by omega]; simp [plainF] <;> first | assumption | omega | grind), rfl⟩, h9⟩) (fun _ h9 => by cases h9) d_MO_plainly_161
          · refine lv_iload_n hx hb d_MO_plainly_150 rfl (lv_at hl 3 rfl) ?_
            refine lv_bipush (v := iI 32) hx hb d_MO_plainly_151 (by decide) ?_
            refine ix_icmp_ne (tgt := 160) hx hb d_MO_plainly_153 (by decide) (by omega) (fun c_153 => ?_) (fun c_153 => ?_)
            · refine lv_iconst (v := iI 0) hx hb d_MO_plainly_160 rfl ?_
              subst hQ
              exact W.zret (v := iI 0) hx hb hr (by decide) (fun t h9 hW => ⟨_, rfl, Or.inr ⟨by first | (exfalso; omega) | (rw [show k = 2 by omega]; simp [plainF] <;> first | assumption | omega | grind), rfl⟩, h9⟩) (fun _ h9 => by cases h9) d_MO_plainly_161
            · refine lv_iconst (v := iI 1) hx hb d_MO_plainly_156 rfl ?_
              refine lv_goto (tgt := 161) hx hb d_MO_plainly_157 (by decide) ?_
              subst hQ
              exact W.zret (v := iI 1) hx hb hr (by decide) (fun t h9 hW => ⟨_, rfl, Or.inl ⟨by first | (exfalso; omega) | (rw [show k = 2 by omega]; simp [plainF] <;> first | assumption | omega | grind), rfl⟩, h9⟩) (fun _ h9 => by cases h9) d_MO_plainly_161
      · refine ix_table (tgt := 162) hx hb d_MO_plainly_19 (by omega) 143 (by omega) (by rw [c_19]; rfl) (by decide) ?_
        refine lv_aload_n hx hb d_MO_plainly_162 rfl (lv_at hl 1 rfl) ?_
        refine lv_iload_n hx hb d_MO_plainly_163 rfl (lv_at hl 3 rfl) ?_
        refine zcV (ci := 4) (q0 := 0) (As := [.int (iI c)]) (rest := []) ⟨hx, hb, hml, hown, ht⟩ v_MO_143 (c_MO_blank l g r ut uc la wo bw mt ms c (by omega)) ⟨Nat.le_of_ble_eq_true rfl, Nat.le_of_ble_eq_true rfl⟩ ⟨Nat.zero_le _, Nat.zero_le _⟩ hK hZ hS hP rfl rfl rfl rfl hl.1 rfl (Nat.le_of_ble_eq_true rfl) d_MO_plainly_164 (fun r_164 h_164 => ?_)
        rcases h_164 with ⟨h_164, rfl⟩ | ⟨h_164, rfl⟩
        · subst hQ
          exact W.zret (v := iI 1) hx hb hr (by decide) (fun t h9 hW => ⟨_, rfl, Or.inl ⟨by first | (exfalso; omega) | (rw [show k = 3 by omega]; simp [plainF] <;> first | assumption | omega | grind), rfl⟩, h9⟩) (fun _ h9 => by cases h9) d_MO_plainly_167
        · subst hQ
          exact W.zret (v := iI 0) hx hb hr (by decide) (fun t h9 hW => ⟨_, rfl, Or.inr ⟨by first | (exfalso; omega) | (rw [show k = 3 by omega]; simp [plainF] <;> first | assumption | omega | grind), rfl⟩, h9⟩) (fun _ h9 => by cases h9) d_MO_plainly_167
      · refine ix_table (tgt := 168) hx hb d_MO_plainly_19 (by omega) 149 (by omega) (by rw [c_19]; rfl) (by decide) ?_
        refine lv_iload_n hx hb d_MO_plainly_168 rfl (lv_at hl 3 rfl) ?_
        refine lv_bipush (v := iI 10) hx hb d_MO_plainly_169 (by decide) ?_
        refine ix_icmp_lt (tgt := 180) hx hb d_MO_plainly_171 (by decide) (by omega) (fun c_171 => ?_) (fun c_171 => ?_)
        · refine lv_iload_n hx hb d_MO_plainly_180 rfl (lv_at hl 3 rfl) ?_
          refine lv_sipush (v := iI 133) hx hb d_MO_plainly_181 (by decide) ?_
          refine ix_icmp_eq (tgt := 201) hx hb d_MO_plainly_184 (by decide) (by omega) (fun c_184 => ?_) (fun c_184 => ?_)
          · refine lv_iconst (v := iI 1) hx hb d_MO_plainly_201 rfl ?_
            refine lv_goto (tgt := 206) hx hb d_MO_plainly_202 (by decide) ?_
            subst hQ
            exact W.zret (v := iI 1) hx hb hr (by decide) (fun t h9 hW => ⟨_, rfl, Or.inl ⟨by first | (exfalso; omega) | (rw [show k = 4 by omega]; simp [plainF] <;> first | assumption | omega | grind), rfl⟩, h9⟩) (fun _ h9 => by cases h9) d_MO_plainly_206
          · refine lv_iload_n hx hb d_MO_plainly_187 rfl (lv_at hl 3 rfl) ?_
            refine lv_sipush (v := iI 8232) hx hb d_MO_plainly_188 (by decide) ?_
            refine ix_icmp_eq (tgt := 201) hx hb d_MO_plainly_191 (by decide) (by omega) (fun c_191 => ?_) (fun c_191 => ?_)
            · refine lv_iconst (v := iI 1) hx hb d_MO_plainly_201 rfl ?_
              refine lv_goto (tgt := 206) hx hb d_MO_plainly_202 (by decide) ?_
              subst hQ
              exact W.zret (v := iI 1) hx hb hr (by decide) (fun t h9 hW => ⟨_, rfl, Or.inl ⟨by first | (exfalso; omega) | (rw [show k = 4 by omega]; simp [plainF] <;> first | assumption | omega | grind), rfl⟩, h9⟩) (fun _ h9 => by cases h9) d_MO_plainly_206
            · refine lv_iload_n hx hb d_MO_plainly_194 rfl (lv_at hl 3 rfl) ?_
              refine lv_sipush (v := iI 8233) hx hb d_MO_plainly_195 (by decide) ?_
              refine ix_icmp_ne (tgt := 205) hx hb d_MO_plainly_198 (by decide) (by omega) (fun c_198 => ?_) (fun c_198 => ?_)
              · refine lv_iconst (v := iI 0) hx hb d_MO_plainly_205 rfl ?_
                subst hQ
                exact W.zret (v := iI 0) hx hb hr (by decide) (fun t h9 hW => ⟨_, rfl, Or.inr ⟨by first | (exfalso; omega) | (rw [show k = 4 by omega]; simp [plainF] <;> first | assumption | omega | grind), rfl⟩, h9⟩) (fun _ h9 => by cases h9) d_MO_plainly_206
              · refine lv_iconst (v := iI 1) hx hb d_MO_plainly_201 rfl ?_
                refine lv_goto (tgt := 206) hx hb d_MO_plainly_202 (by decide) ?_
                subst hQ
                exact W.zret (v := iI 1) hx hb hr (by decide) (fun t h9 hW => ⟨_, rfl, Or.inl ⟨by first | (exfalso; omega) | (rw [show k = 4 by omega]; simp [plainF] <;> first | assumption | omega | grind), rfl⟩, h9⟩) (fun _ h9 => by cases h9) d_MO_plainly_206
        · refine lv_iload_n hx hb d_MO_plainly_174 rfl (lv_at hl 3 rfl) ?_
          refine lv_bipush (v := iI 13) hx hb d_MO_plainly_175 (by decide) ?_
          refine ix_icmp_le (tgt := 201) hx hb d_MO_plainly_177 (by decide) (by omega) (fun c_177 => ?_) (fun c_177 => ?_)
          · refine lv_iconst (v := iI 1) hx hb d_MO_plainly_201 rfl ?_
            refine lv_goto (tgt := 206) hx hb d_MO_plainly_202 (by decide) ?_
            subst hQ
            exact W.zret (v := iI 1) hx hb hr (by decide) (fun t h9 hW => ⟨_, rfl, Or.inl ⟨by first | (exfalso; omega) | (rw [show k = 4 by omega]; simp [plainF] <;> first | assumption | omega | grind), rfl⟩, h9⟩) (fun _ h9 => by cases h9) d_MO_plainly_206
          · refine lv_iload_n hx hb d_MO_plainly_180 rfl (lv_at hl 3 rfl) ?_
            refine lv_sipush (v := iI 133) hx hb d_MO_plainly_181 (by decide) ?_
            refine ix_icmp_eq (tgt := 201) hx hb d_MO_plainly_184 (by decide) (by omega) (fun c_184 => ?_) (fun c_184 => ?_)
            · refine lv_iconst (v := iI 1) hx hb d_MO_plainly_201 rfl ?_
              refine lv_goto (tgt := 206) hx hb d_MO_plainly_202 (by decide) ?_
              subst hQ
              exact W.zret (v := iI 1) hx hb hr (by decide) (fun t h9 hW => ⟨_, rfl, Or.inl ⟨by first | (exfalso; omega) | (rw [show k = 4 by omega]; simp [plainF] <;> first | assumption | omega | grind), rfl⟩, h9⟩) (fun _ h9 => by cases h9) d_MO_plainly_206
            · refine lv_iload_n hx hb d_MO_plainly_187 rfl (lv_at hl 3 rfl) ?_
              refine lv_sipush (v := iI 8232) hx hb d_MO_plainly_188 (by decide) ?_
              refine ix_icmp_eq (tgt := 201) hx hb d_MO_plainly_191 (by decide) (by omega) (fun c_191 => ?_) (fun c_191 => ?_)
              · refine lv_iconst (v := iI 1) hx hb d_MO_plainly_201 rfl ?_
                refine lv_goto (tgt := 206) hx hb d_MO_plainly_202 (by decide) ?_
                subst hQ
                exact W.zret (v := iI 1) hx hb hr (by decide) (fun t h9 hW => ⟨_, rfl, Or.inl ⟨by first | (exfalso; omega) | (rw [show k = 4 by omega]; simp [plainF] <;> first | assumption | omega | grind), rfl⟩, h9⟩) (fun _ h9 => by cases h9) d_MO_plainly_206
              · refine lv_iload_n hx hb d_MO_plainly_194 rfl (lv_at hl 3 rfl) ?_
                refine lv_sipush (v := iI 8233) hx hb d_MO_plainly_195 (by decide) ?_
                refine ix_icmp_ne (tgt := 205) hx hb d_MO_plainly_198 (by decide) (by omega) (fun c_198 => ?_) (fun c_198 => ?_)
                · refine lv_iconst (v := iI 0) hx hb d_MO_plainly_205 rfl ?_
                  subst hQ
                  exact W.zret (v := iI 0) hx hb hr (by decide) (fun t h9 hW => ⟨_, rfl, Or.inr ⟨by first | (exfalso; omega) | (rw [show k = 4 by omega]; simp [plainF] <;> first | assumption | omega | grind), rfl⟩, h9⟩) (fun _ h9 => by cases h9) d_MO_plainly_206
                · refine lv_iconst (v := iI 1) hx hb d_MO_plainly_201 rfl ?_
                  refine lv_goto (tgt := 206) hx hb d_MO_plainly_202 (by decide) ?_
                  subst hQ
                  exact W.zret (v := iI 1) hx hb hr (by decide) (fun t h9 hW => ⟨_, rfl, Or.inl ⟨by first | (exfalso; omega) | (rw [show k = 4 by omega]; simp [plainF] <;> first | assumption | omega | grind), rfl⟩, h9⟩) (fun _ h9 => by cases h9) d_MO_plainly_206
      · refine ix_table (tgt := 207) hx hb d_MO_plainly_19 (by omega) 188 (by omega) (by rw [c_19]; rfl) (by decide) ?_
        refine lv_aload_n hx hb d_MO_plainly_207 rfl (lv_at hl 1 rfl) ?_
        refine lv_iload_n hx hb d_MO_plainly_208 rfl (lv_at hl 3 rfl) ?_
        refine zcV (ci := 4) (q0 := 0) (As := [.int (iI c)]) (rest := []) ⟨hx, hb, hml, hown, ht⟩ v_MO_140 (c_MO_alpha l g r ut uc la wo bw mt ms c (by omega)) ⟨Nat.le_of_ble_eq_true rfl, Nat.le_of_ble_eq_true rfl⟩ ⟨Nat.zero_le _, Nat.zero_le _⟩ hK hZ hS hP rfl rfl rfl rfl hl.1 rfl (Nat.le_of_ble_eq_true rfl) d_MO_plainly_209 (fun r_209 h_209 => ?_)
        rcases h_209 with ⟨h_209, rfl⟩ | ⟨h_209, rfl⟩
        · subst hQ
          exact W.zret (v := iI 1) hx hb hr (by decide) (fun t h9 hW => ⟨_, rfl, Or.inl ⟨by first | (exfalso; omega) | (rw [show k = 5 by omega]; simp [plainF] <;> first | assumption | omega | grind), rfl⟩, h9⟩) (fun _ h9 => by cases h9) d_MO_plainly_212
        · subst hQ
          exact W.zret (v := iI 0) hx hb hr (by decide) (fun t h9 hW => ⟨_, rfl, Or.inr ⟨by first | (exfalso; omega) | (rw [show k = 5 by omega]; simp [plainF] <;> first | assumption | omega | grind), rfl⟩, h9⟩) (fun _ h9 => by cases h9) d_MO_plainly_212
      · refine ix_table (tgt := 213) hx hb d_MO_plainly_19 (by omega) 194 (by omega) (by rw [c_19]; rfl) (by decide) ?_
        refine lv_aload_n hx hb d_MO_plainly_213 rfl (lv_at hl 1 rfl) ?_
        refine lv_iload_n hx hb d_MO_plainly_214 rfl (lv_at hl 3 rfl) ?_
        refine zcV (ci := 4) (q0 := 0) (As := [.int (iI c)]) (rest := []) ⟨hx, hb, hml, hown, ht⟩ v_MO_140 (c_MO_alpha l g r ut uc la wo bw mt ms c (by omega)) ⟨Nat.le_of_ble_eq_true rfl, Nat.le_of_ble_eq_true rfl⟩ ⟨Nat.zero_le _, Nat.zero_le _⟩ hK hZ hS hP rfl rfl rfl rfl hl.1 rfl (Nat.le_of_ble_eq_true rfl) d_MO_plainly_215 (fun r_215 h_215 => ?_)
        rcases h_215 with ⟨h_215, rfl⟩ | ⟨h_215, rfl⟩
        · refine ix_if_eq (tgt := 231) hx hb d_MO_plainly_218 (by decide) (by omega) (fun c_218 => ?_) (fun c_218 => ?_)
          · exact absurd c_218 (by decide)
          · refine lv_iload_n hx hb d_MO_plainly_221 rfl (lv_at hl 3 rfl) ?_
            refine lv_bipush (v := iI 96) hx hb d_MO_plainly_222 (by decide) ?_
            refine ix_icmp_le (tgt := 231) hx hb d_MO_plainly_224 (by decide) (by omega) (fun c_224 => ?_) (fun c_224 => ?_)
            · refine lv_iconst (v := iI 0) hx hb d_MO_plainly_231 rfl ?_
              subst hQ
              exact W.zret (v := iI 0) hx hb hr (by decide) (fun t h9 hW => ⟨_, rfl, Or.inr ⟨by first | (exfalso; omega) | (rw [show k = 6 by omega]; simp [plainF] <;> first | assumption | omega | grind), rfl⟩, h9⟩) (fun _ h9 => by cases h9) d_MO_plainly_232
            · refine lv_iconst (v := iI 1) hx hb d_MO_plainly_227 rfl ?_
              refine lv_goto (tgt := 232) hx hb d_MO_plainly_228 (by decide) ?_
              subst hQ
              exact W.zret (v := iI 1) hx hb hr (by decide) (fun t h9 hW => ⟨_, rfl, Or.inl ⟨by first | (exfalso; omega) | (rw [show k = 6 by omega]; simp [plainF] <;> first | assumption | omega | grind), rfl⟩, h9⟩) (fun _ h9 => by cases h9) d_MO_plainly_232
        · refine ix_if_eq (tgt := 231) hx hb d_MO_plainly_218 (by decide) (by omega) (fun c_218 => ?_) (fun c_218 => ?_)
          · refine lv_iconst (v := iI 0) hx hb d_MO_plainly_231 rfl ?_
            subst hQ
            exact W.zret (v := iI 0) hx hb hr (by decide) (fun t h9 hW => ⟨_, rfl, Or.inr ⟨by first | (exfalso; omega) | (rw [show k = 6 by omega]; simp [plainF] <;> first | assumption | omega | grind), rfl⟩, h9⟩) (fun _ h9 => by cases h9) d_MO_plainly_232
          · exact absurd c_218 (by decide)
      · refine ix_table (tgt := 233) hx hb d_MO_plainly_19 (by omega) 214 (by omega) (by rw [c_19]; rfl) (by decide) ?_
        refine lv_aload_n hx hb d_MO_plainly_233 rfl (lv_at hl 1 rfl) ?_
        refine lv_iload_n hx hb d_MO_plainly_234 rfl (lv_at hl 3 rfl) ?_
        refine zcV (ci := 4) (q0 := 0) (As := [.int (iI c)]) (rest := []) ⟨hx, hb, hml, hown, ht⟩ v_MO_140 (c_MO_alpha l g r ut uc la wo bw mt ms c (by omega)) ⟨Nat.le_of_ble_eq_true rfl, Nat.le_of_ble_eq_true rfl⟩ ⟨Nat.zero_le _, Nat.zero_le _⟩ hK hZ hS hP rfl rfl rfl rfl hl.1 rfl (Nat.le_of_ble_eq_true rfl) d_MO_plainly_235 (fun r_235 h_235 => ?_)
        rcases h_235 with ⟨h_235, rfl⟩ | ⟨h_235, rfl⟩
        · refine ix_if_eq (tgt := 251) hx hb d_MO_plainly_238 (by decide) (by omega) (fun c_238 => ?_) (fun c_238 => ?_)
          · exact absurd c_238 (by decide)
          · refine lv_iload_n hx hb d_MO_plainly_241 rfl (lv_at hl 3 rfl) ?_
            refine lv_bipush (v := iI 96) hx hb d_MO_plainly_242 (by decide) ?_
            refine ix_icmp_ge (tgt := 251) hx hb d_MO_plainly_244 (by decide) (by omega) (fun c_244 => ?_) (fun c_244 => ?_)
            · refine lv_iconst (v := iI 0) hx hb d_MO_plainly_251 rfl ?_
              subst hQ
              exact W.zret (v := iI 0) hx hb hr (by decide) (fun t h9 hW => ⟨_, rfl, Or.inr ⟨by first | (exfalso; omega) | (rw [show k = 7 by omega]; simp [plainF] <;> first | assumption | omega | grind), rfl⟩, h9⟩) (fun _ h9 => by cases h9) d_MO_plainly_252
            · refine lv_iconst (v := iI 1) hx hb d_MO_plainly_247 rfl ?_
              refine lv_goto (tgt := 252) hx hb d_MO_plainly_248 (by decide) ?_
              subst hQ
              exact W.zret (v := iI 1) hx hb hr (by decide) (fun t h9 hW => ⟨_, rfl, Or.inl ⟨by first | (exfalso; omega) | (rw [show k = 7 by omega]; simp [plainF] <;> first | assumption | omega | grind), rfl⟩, h9⟩) (fun _ h9 => by cases h9) d_MO_plainly_252
        · refine ix_if_eq (tgt := 251) hx hb d_MO_plainly_238 (by decide) (by omega) (fun c_238 => ?_) (fun c_238 => ?_)
          · refine lv_iconst (v := iI 0) hx hb d_MO_plainly_251 rfl ?_
            subst hQ
            exact W.zret (v := iI 0) hx hb hr (by decide) (fun t h9 hW => ⟨_, rfl, Or.inr ⟨by first | (exfalso; omega) | (rw [show k = 7 by omega]; simp [plainF] <;> first | assumption | omega | grind), rfl⟩, h9⟩) (fun _ h9 => by cases h9) d_MO_plainly_252
          · exact absurd c_238 (by decide)
      · refine ix_table (tgt := 104) hx hb d_MO_plainly_19 (by omega) 85 (by omega) (by rw [c_19]; rfl) (by decide) ?_
        refine lv_aload_n hx hb d_MO_plainly_104 rfl (lv_at hl 1 rfl) ?_
        refine lv_iload_n hx hb d_MO_plainly_105 rfl (lv_at hl 3 rfl) ?_
        refine zcV (ci := 4) (q0 := 0) (As := [.int (iI c)]) (rest := []) ⟨hx, hb, hml, hown, ht⟩ v_MO_137 (c_MO_digit l g r ut uc la wo bw mt ms c (by omega)) ⟨Nat.le_of_ble_eq_true rfl, Nat.le_of_ble_eq_true rfl⟩ ⟨Nat.zero_le _, Nat.zero_le _⟩ hK hZ hS hP rfl rfl rfl rfl hl.1 rfl (Nat.le_of_ble_eq_true rfl) d_MO_plainly_106 (fun r_106 h_106 => ?_)
        rcases h_106 with ⟨h_106, rfl⟩ | ⟨h_106, rfl⟩
        · subst hQ
          exact W.zret (v := iI 1) hx hb hr (by decide) (fun t h9 hW => ⟨_, rfl, Or.inl ⟨by first | (exfalso; omega) | (rw [show k = 8 by omega]; simp [plainF] <;> first | assumption | omega | grind), rfl⟩, h9⟩) (fun _ h9 => by cases h9) d_MO_plainly_109
        · subst hQ
          exact W.zret (v := iI 0) hx hb hr (by decide) (fun t h9 hW => ⟨_, rfl, Or.inr ⟨by first | (exfalso; omega) | (rw [show k = 8 by omega]; simp [plainF] <;> first | assumption | omega | grind), rfl⟩, h9⟩) (fun _ h9 => by cases h9) d_MO_plainly_109
      · refine ix_table (tgt := 253) hx hb d_MO_plainly_19 (by omega) 234 (by omega) (by rw [c_19]; rfl) (by decide) ?_
        refine lv_aload_n hx hb d_MO_plainly_253 rfl (lv_at hl 1 rfl) ?_
        refine lv_iload_n hx hb d_MO_plainly_254 rfl (lv_at hl 3 rfl) ?_
        refine zcV (ci := 4) (q0 := 0) (As := [.int (iI c)]) (rest := []) ⟨hx, hb, hml, hown, ht⟩ v_MO_140 (c_MO_alpha l g r ut uc la wo bw mt ms c (by omega)) ⟨Nat.le_of_ble_eq_true rfl, Nat.le_of_ble_eq_true rfl⟩ ⟨Nat.zero_le _, Nat.zero_le _⟩ hK hZ hS hP rfl rfl rfl rfl hl.1 rfl (Nat.le_of_ble_eq_true rfl) d_MO_plainly_255 (fun r_255 h_255 => ?_)
        rcases h_255 with ⟨h_255, rfl⟩ | ⟨h_255, rfl⟩
        · refine ix_if_ne (tgt := 269) hx hb d_MO_plainly_258 (by decide) (by omega) (fun c_258 => ?_) (fun c_258 => ?_)
          · refine lv_iconst (v := iI 1) hx hb d_MO_plainly_269 rfl ?_
            refine lv_goto (tgt := 274) hx hb d_MO_plainly_270 (by decide) ?_
            subst hQ
            exact W.zret (v := iI 1) hx hb hr (by decide) (fun t h9 hW => ⟨_, rfl, Or.inl ⟨by first | (exfalso; omega) | (rw [show k = 9 by omega]; simp [plainF] <;> first | assumption | omega | grind), rfl⟩, h9⟩) (fun _ h9 => by cases h9) d_MO_plainly_274
          · exact absurd c_258 (by decide)
        · refine ix_if_ne (tgt := 269) hx hb d_MO_plainly_258 (by decide) (by omega) (fun c_258 => ?_) (fun c_258 => ?_)
          · exact absurd c_258 (by decide)
          · refine lv_aload_n hx hb d_MO_plainly_261 rfl (lv_at hl 1 rfl) ?_
            refine lv_iload_n hx hb d_MO_plainly_262 rfl (lv_at hl 3 rfl) ?_
            refine zcV (ci := 4) (q0 := 0) (As := [.int (iI c)]) (rest := []) ⟨hx, hb, hml, hown, ht⟩ v_MO_137 (c_MO_digit l g r ut uc la wo bw mt ms c (by omega)) ⟨Nat.le_of_ble_eq_true rfl, Nat.le_of_ble_eq_true rfl⟩ ⟨Nat.zero_le _, Nat.zero_le _⟩ hK hZ hS hP rfl rfl rfl rfl hl.1 rfl (Nat.le_of_ble_eq_true rfl) d_MO_plainly_263 (fun r_263 h_263 => ?_)
            rcases h_263 with ⟨h_263, rfl⟩ | ⟨h_263, rfl⟩
            · refine ix_if_eq (tgt := 273) hx hb d_MO_plainly_266 (by decide) (by omega) (fun c_266 => ?_) (fun c_266 => ?_)
              · exact absurd c_266 (by decide)
              · refine lv_iconst (v := iI 1) hx hb d_MO_plainly_269 rfl ?_
                refine lv_goto (tgt := 274) hx hb d_MO_plainly_270 (by decide) ?_
                subst hQ
                exact W.zret (v := iI 1) hx hb hr (by decide) (fun t h9 hW => ⟨_, rfl, Or.inl ⟨by first | (exfalso; omega) | (rw [show k = 9 by omega]; simp [plainF] <;> first | assumption | omega | grind), rfl⟩, h9⟩) (fun _ h9 => by cases h9) d_MO_plainly_274
            · refine ix_if_eq (tgt := 273) hx hb d_MO_plainly_266 (by decide) (by omega) (fun c_266 => ?_) (fun c_266 => ?_)
              · refine lv_iconst (v := iI 0) hx hb d_MO_plainly_273 rfl ?_
                subst hQ
                exact W.zret (v := iI 0) hx hb hr (by decide) (fun t h9 hW => ⟨_, rfl, Or.inr ⟨by first | (exfalso; omega) | (rw [show k = 9 by omega]; simp [plainF] <;> first | assumption | omega | grind), rfl⟩, h9⟩) (fun _ h9 => by cases h9) d_MO_plainly_274
              · exact absurd c_266 (by decide)
      · refine ix_table (tgt := 110) hx hb d_MO_plainly_19 (by omega) 91 (by omega) (by rw [c_19]; rfl) (by decide) ?_
        refine lv_aload_n hx hb d_MO_plainly_110 rfl (lv_at hl 1 rfl) ?_
        refine lv_iload_n hx hb d_MO_plainly_111 rfl (lv_at hl 3 rfl) ?_
        refine zcV (ci := 4) (q0 := 0) (As := [.int (iI c)]) (rest := []) ⟨hx, hb, hml, hown, ht⟩ v_MO_140 (c_MO_alpha l g r ut uc la wo bw mt ms c (by omega)) ⟨Nat.le_of_ble_eq_true rfl, Nat.le_of_ble_eq_true rfl⟩ ⟨Nat.zero_le _, Nat.zero_le _⟩ hK hZ hS hP rfl rfl rfl rfl hl.1 rfl (Nat.le_of_ble_eq_true rfl) d_MO_plainly_112 (fun r_112 h_112 => ?_)
        rcases h_112 with ⟨h_112, rfl⟩ | ⟨h_112, rfl⟩
        · refine ix_if_ne (tgt := 132) hx hb d_MO_plainly_115 (by decide) (by omega) (fun c_115 => ?_) (fun c_115 => ?_)
          · refine lv_iconst (v := iI 1) hx hb d_MO_plainly_132 rfl ?_
            refine lv_goto (tgt := 137) hx hb d_MO_plainly_133 (by decide) ?_
            subst hQ
            exact W.zret (v := iI 1) hx hb hr (by decide) (fun t h9 hW => ⟨_, rfl, Or.inl ⟨by first | (exfalso; omega) | (rw [show k = 10 by omega]; simp [plainF] <;> first | assumption | omega | grind), rfl⟩, h9⟩) (fun _ h9 => by cases h9) d_MO_plainly_137
          · exact absurd c_115 (by decide)
        · refine ix_if_ne (tgt := 132) hx hb d_MO_plainly_115 (by decide) (by omega) (fun c_115 => ?_) (fun c_115 => ?_)
          · exact absurd c_115 (by decide)
          · refine lv_aload_n hx hb d_MO_plainly_118 rfl (lv_at hl 1 rfl) ?_
            refine lv_iload_n hx hb d_MO_plainly_119 rfl (lv_at hl 3 rfl) ?_
            refine zcV (ci := 4) (q0 := 0) (As := [.int (iI c)]) (rest := []) ⟨hx, hb, hml, hown, ht⟩ v_MO_137 (c_MO_digit l g r ut uc la wo bw mt ms c (by omega)) ⟨Nat.le_of_ble_eq_true rfl, Nat.le_of_ble_eq_true rfl⟩ ⟨Nat.zero_le _, Nat.zero_le _⟩ hK hZ hS hP rfl rfl rfl rfl hl.1 rfl (Nat.le_of_ble_eq_true rfl) d_MO_plainly_120 (fun r_120 h_120 => ?_)
            rcases h_120 with ⟨h_120, rfl⟩ | ⟨h_120, rfl⟩
            · refine ix_if_ne (tgt := 132) hx hb d_MO_plainly_123 (by decide) (by omega) (fun c_123 => ?_) (fun c_123 => ?_)
              · refine lv_iconst (v := iI 1) hx hb d_MO_plainly_132 rfl ?_
                refine lv_goto (tgt := 137) hx hb d_MO_plainly_133 (by decide) ?_
                subst hQ
                exact W.zret (v := iI 1) hx hb hr (by decide) (fun t h9 hW => ⟨_, rfl, Or.inl ⟨by first | (exfalso; omega) | (rw [show k = 10 by omega]; simp [plainF] <;> first | assumption | omega | grind), rfl⟩, h9⟩) (fun _ h9 => by cases h9) d_MO_plainly_137
              · exact absurd c_123 (by decide)
            · refine ix_if_ne (tgt := 132) hx hb d_MO_plainly_123 (by decide) (by omega) (fun c_123 => ?_) (fun c_123 => ?_)
              · exact absurd c_123 (by decide)
              · refine lv_iload_n hx hb d_MO_plainly_126 rfl (lv_at hl 3 rfl) ?_
                refine lv_bipush (v := iI 95) hx hb d_MO_plainly_127 (by decide) ?_
                refine ix_icmp_ne (tgt := 136) hx hb d_MO_plainly_129 (by decide) (by omega) (fun c_129 => ?_) (fun c_129 => ?_)
                · refine lv_iconst (v := iI 0) hx hb d_MO_plainly_136 rfl ?_
                  subst hQ
                  exact W.zret (v := iI 0) hx hb hr (by decide) (fun t h9 hW => ⟨_, rfl, Or.inr ⟨by first | (exfalso; omega) | (rw [show k = 10 by omega]; simp [plainF] <;> first | assumption | omega | grind), rfl⟩, h9⟩) (fun _ h9 => by cases h9) d_MO_plainly_137
                · refine lv_iconst (v := iI 1) hx hb d_MO_plainly_132 rfl ?_
                  refine lv_goto (tgt := 137) hx hb d_MO_plainly_133 (by decide) ?_
                  subst hQ
                  exact W.zret (v := iI 1) hx hb hr (by decide) (fun t h9 hW => ⟨_, rfl, Or.inl ⟨by first | (exfalso; omega) | (rw [show k = 10 by omega]; simp [plainF] <;> first | assumption | omega | grind), rfl⟩, h9⟩) (fun _ h9 => by cases h9) d_MO_plainly_137
      · refine ix_table (tgt := 138) hx hb d_MO_plainly_19 (by omega) 119 (by omega) (by rw [c_19]; rfl) (by decide) ?_
        refine lv_iload_n hx hb d_MO_plainly_138 rfl (lv_at hl 3 rfl) ?_
        refine lv_bipush (v := iI 9) hx hb d_MO_plainly_139 (by decide) ?_
        refine ix_icmp_lt (tgt := 150) hx hb d_MO_plainly_141 (by decide) (by omega) (fun c_141 => ?_) (fun c_141 => ?_)
        · refine lv_iload_n hx hb d_MO_plainly_150 rfl (lv_at hl 3 rfl) ?_
          refine lv_bipush (v := iI 32) hx hb d_MO_plainly_151 (by decide) ?_
          refine ix_icmp_ne (tgt := 160) hx hb d_MO_plainly_153 (by decide) (by omega) (fun c_153 => ?_) (fun c_153 => ?_)
          · refine lv_iconst (v := iI 0) hx hb d_MO_plainly_160 rfl ?_
            subst hQ
            exact W.zret (v := iI 0) hx hb hr (by decide) (fun t h9 hW => ⟨_, rfl, Or.inr ⟨by first | (exfalso; omega) | (rw [show k = 11 by omega]; simp [plainF] <;> first | assumption | omega | grind), rfl⟩, h9⟩) (fun _ h9 => by cases h9) d_MO_plainly_161
          · refine lv_iconst (v := iI 1) hx hb d_MO_plainly_156 rfl ?_
            refine lv_goto (tgt := 161) hx hb d_MO_plainly_157 (by decide) ?_
            subst hQ
            exact W.zret (v := iI 1) hx hb hr (by decide) (fun t h9 hW => ⟨_, rfl, Or.inl ⟨by first | (exfalso; omega) | (rw [show k = 11 by omega]; simp [plainF] <;> first | assumption | omega | grind), rfl⟩, h9⟩) (fun _ h9 => by cases h9) d_MO_plainly_161
        · refine lv_iload_n hx hb d_MO_plainly_144 rfl (lv_at hl 3 rfl) ?_
          refine lv_bipush (v := iI 13) hx hb d_MO_plainly_145 (by decide) ?_
          refine ix_icmp_le (tgt := 156) hx hb d_MO_plainly_147 (by decide) (by omega) (fun c_147 => ?_) (fun c_147 => ?_)
          · refine lv_iconst (v := iI 1) hx hb d_MO_plainly_156 rfl ?_
            refine lv_goto (tgt := 161) hx hb d_MO_plainly_157 (by decide) ?_
            subst hQ
            exact W.zret (v := iI 1) hx hb hr (by decide) (fun t h9 hW => ⟨_, rfl, Or.inl ⟨by first | (exfalso; omega) | (rw [show k = 11 by omega]; simp [plainF] <;> first | assumption | omega | grind), rfl⟩, h9⟩) (fun _ h9 => by cases h9) d_MO_plainly_161
          · refine lv_iload_n hx hb d_MO_plainly_150 rfl (lv_at hl 3 rfl) ?_
            refine lv_bipush (v := iI 32) hx hb d_MO_plainly_151 (by decide) ?_
            refine ix_icmp_ne (tgt := 160) hx hb d_MO_plainly_153 (by decide) (by omega) (fun c_153 => ?_) (fun c_153 => ?_)
            · refine lv_iconst (v := iI 0) hx hb d_MO_plainly_160 rfl ?_
              subst hQ
              exact W.zret (v := iI 0) hx hb hr (by decide) (fun t h9 hW => ⟨_, rfl, Or.inr ⟨by first | (exfalso; omega) | (rw [show k = 11 by omega]; simp [plainF] <;> first | assumption | omega | grind), rfl⟩, h9⟩) (fun _ h9 => by cases h9) d_MO_plainly_161
            · refine lv_iconst (v := iI 1) hx hb d_MO_plainly_156 rfl ?_
              refine lv_goto (tgt := 161) hx hb d_MO_plainly_157 (by decide) ?_
              subst hQ
              exact W.zret (v := iI 1) hx hb hr (by decide) (fun t h9 hW => ⟨_, rfl, Or.inl ⟨by first | (exfalso; omega) | (rw [show k = 11 by omega]; simp [plainF] <;> first | assumption | omega | grind), rfl⟩, h9⟩) (fun _ h9 => by cases h9) d_MO_plainly_161
      · refine ix_table (tgt := 275) hx hb d_MO_plainly_19 (by omega) 256 (by omega) (by rw [c_19]; rfl) (by decide) ?_
        refine lv_iload_n hx hb d_MO_plainly_275 rfl (lv_at hl 3 rfl) ?_
        refine lv_bipush (v := iI 9) hx hb d_MO_plainly_276 (by decide) ?_
        refine ix_icmp_eq (tgt := 287) hx hb d_MO_plainly_278 (by decide) (by omega) (fun c_278 => ?_) (fun c_278 => ?_)
        · refine lv_iconst (v := iI 1) hx hb d_MO_plainly_287 rfl ?_
          refine lv_goto (tgt := 292) hx hb d_MO_plainly_288 (by decide) ?_
          subst hQ
          exact W.zret (v := iI 1) hx hb hr (by decide) (fun t h9 hW => ⟨_, rfl, Or.inl ⟨by first | (exfalso; omega) | (rw [show k = 12 by omega]; simp [plainF] <;> first | assumption | omega | grind), rfl⟩, h9⟩) (fun _ h9 => by cases h9) d_MO_plainly_292
        · refine lv_iload_n hx hb d_MO_plainly_281 rfl (lv_at hl 3 rfl) ?_
          refine lv_bipush (v := iI 32) hx hb d_MO_plainly_282 (by decide) ?_
          refine ix_icmp_ne (tgt := 291) hx hb d_MO_plainly_284 (by decide) (by omega) (fun c_284 => ?_) (fun c_284 => ?_)
          · refine lv_iconst (v := iI 0) hx hb d_MO_plainly_291 rfl ?_
            subst hQ
            exact W.zret (v := iI 0) hx hb hr (by decide) (fun t h9 hW => ⟨_, rfl, Or.inr ⟨by first | (exfalso; omega) | (rw [show k = 12 by omega]; simp [plainF] <;> first | assumption | omega | grind), rfl⟩, h9⟩) (fun _ h9 => by cases h9) d_MO_plainly_292
          · refine lv_iconst (v := iI 1) hx hb d_MO_plainly_287 rfl ?_
            refine lv_goto (tgt := 292) hx hb d_MO_plainly_288 (by decide) ?_
            subst hQ
            exact W.zret (v := iI 1) hx hb hr (by decide) (fun t h9 hW => ⟨_, rfl, Or.inl ⟨by first | (exfalso; omega) | (rw [show k = 12 by omega]; simp [plainF] <;> first | assumption | omega | grind), rfl⟩, h9⟩) (fun _ h9 => by cases h9) d_MO_plainly_292
      · refine ix_table (tgt := 293) hx hb d_MO_plainly_19 (by omega) 274 (by omega) (by rw [c_19]; rfl) (by decide) ?_
        refine lv_iload_n hx hb d_MO_plainly_293 rfl (lv_at hl 3 rfl) ?_
        refine lv_bipush (v := iI 32) hx hb d_MO_plainly_294 (by decide) ?_
        refine ix_icmp_lt (tgt := 305) hx hb d_MO_plainly_296 (by decide) (by omega) (fun c_296 => ?_) (fun c_296 => ?_)
        · refine lv_iconst (v := iI 1) hx hb d_MO_plainly_305 rfl ?_
          refine lv_goto (tgt := 310) hx hb d_MO_plainly_306 (by decide) ?_
          subst hQ
          exact W.zret (v := iI 1) hx hb hr (by decide) (fun t h9 hW => ⟨_, rfl, Or.inl ⟨by first | (exfalso; omega) | (rw [show k = 13 by omega]; simp [plainF] <;> first | assumption | omega | grind), rfl⟩, h9⟩) (fun _ h9 => by cases h9) d_MO_plainly_310
        · refine lv_iload_n hx hb d_MO_plainly_299 rfl (lv_at hl 3 rfl) ?_
          refine lv_bipush (v := iI 127) hx hb d_MO_plainly_300 (by decide) ?_
          refine ix_icmp_ne (tgt := 309) hx hb d_MO_plainly_302 (by decide) (by omega) (fun c_302 => ?_) (fun c_302 => ?_)
          · refine lv_iconst (v := iI 0) hx hb d_MO_plainly_309 rfl ?_
            subst hQ
            exact W.zret (v := iI 0) hx hb hr (by decide) (fun t h9 hW => ⟨_, rfl, Or.inr ⟨by first | (exfalso; omega) | (rw [show k = 13 by omega]; simp [plainF] <;> first | assumption | omega | grind), rfl⟩, h9⟩) (fun _ h9 => by cases h9) d_MO_plainly_310
          · refine lv_iconst (v := iI 1) hx hb d_MO_plainly_305 rfl ?_
            refine lv_goto (tgt := 310) hx hb d_MO_plainly_306 (by decide) ?_
            subst hQ
            exact W.zret (v := iI 1) hx hb hr (by decide) (fun t h9 hW => ⟨_, rfl, Or.inl ⟨by first | (exfalso; omega) | (rw [show k = 13 by omega]; simp [plainF] <;> first | assumption | omega | grind), rfl⟩, h9⟩) (fun _ h9 => by cases h9) d_MO_plainly_310
      · refine ix_table (tgt := 311) hx hb d_MO_plainly_19 (by omega) 292 (by omega) (by rw [c_19]; rfl) (by decide) ?_
        refine lv_iload_n hx hb d_MO_plainly_311 rfl (lv_at hl 0 rfl) ?_
        subst hQ
        exact W.zret (v := iI 0) hx hb hr (by decide) (fun t h9 hW => ⟨_, rfl, Or.inr ⟨by first | (exfalso; omega) | (rw [show k = 14 by omega]; simp [plainF] <;> first | assumption | omega | grind), rfl⟩, h9⟩) (fun _ h9 => by cases h9) d_MO_plainly_312
      · refine ix_table (tgt := 313) hx hb d_MO_plainly_19 (by omega) 294 (by omega) (by rw [c_19]; rfl) (by decide) ?_
        refine lv_iload_n hx hb d_MO_plainly_313 rfl (lv_at hl 0 rfl) ?_
        refine ix_if_ne (tgt := 323) hx hb d_MO_plainly_314 (by decide) (by omega) (fun c_314 => ?_) (fun c_314 => ?_)
        · exact absurd c_314 (by decide)
        · refine lv_iload_n hx hb d_MO_plainly_317 rfl (lv_at hl 3 rfl) ?_
          refine lv_bipush (v := iI 32) hx hb d_MO_plainly_318 (by decide) ?_
          refine ix_icmp_ne (tgt := 327) hx hb d_MO_plainly_320 (by decide) (by omega) (fun c_320 => ?_) (fun c_320 => ?_)
          · refine lv_iconst (v := iI 0) hx hb d_MO_plainly_327 rfl ?_
            subst hQ
            exact W.zret (v := iI 0) hx hb hr (by decide) (fun t h9 hW => ⟨_, rfl, Or.inr ⟨by first | (exfalso; omega) | (rw [show k = 15 by omega]; simp [plainF] <;> first | assumption | omega | grind), rfl⟩, h9⟩) (fun _ h9 => by cases h9) d_MO_plainly_328
          · refine lv_iconst (v := iI 1) hx hb d_MO_plainly_323 rfl ?_
            refine lv_goto (tgt := 328) hx hb d_MO_plainly_324 (by decide) ?_
            subst hQ
            exact W.zret (v := iI 1) hx hb hr (by decide) (fun t h9 hW => ⟨_, rfl, Or.inl ⟨by first | (exfalso; omega) | (rw [show k = 15 by omega]; simp [plainF] <;> first | assumption | omega | grind), rfl⟩, h9⟩) (fun _ h9 => by cases h9) d_MO_plainly_328
      · refine ix_table (tgt := 329) hx hb d_MO_plainly_19 (by omega) 310 (by omega) (by rw [c_19]; rfl) (by decide) ?_
        refine lv_iload_n hx hb d_MO_plainly_329 rfl (lv_at hl 0 rfl) ?_
        refine ix_if_eq (tgt := 353) hx hb d_MO_plainly_330 (by decide) (by omega) (fun c_330 => ?_) (fun c_330 => ?_)
        · refine lv_iconst (v := iI 0) hx hb d_MO_plainly_353 rfl ?_
          subst hQ
          exact W.zret (v := iI 0) hx hb hr (by decide) (fun t h9 hW => ⟨_, rfl, Or.inr ⟨by first | (exfalso; omega) | (rw [show k = 16 by omega]; simp [plainF] <;> first | assumption | omega | grind), rfl⟩, h9⟩) (fun _ h9 => by cases h9) d_MO_plainly_354
        · exact absurd c_330 (by decide)
      · refine ix_table (tgt := 355) hx hb d_MO_plainly_19 (by omega) 336 (by omega) (by rw [c_19]; rfl) (by decide) ?_
        refine lv_aload_n hx hb d_MO_plainly_355 rfl (lv_at hl 1 rfl) ?_
        refine lv_iload_n hx hb d_MO_plainly_356 rfl (lv_at hl 3 rfl) ?_
        refine zcV (ci := 4) (q0 := 0) (As := [.int (iI c)]) (rest := []) ⟨hx, hb, hml, hown, ht⟩ v_MO_137 (c_MO_digit l g r ut uc la wo bw mt ms c (by omega)) ⟨Nat.le_of_ble_eq_true rfl, Nat.le_of_ble_eq_true rfl⟩ ⟨Nat.zero_le _, Nat.zero_le _⟩ hK hZ hS hP rfl rfl rfl rfl hl.1 rfl (Nat.le_of_ble_eq_true rfl) d_MO_plainly_357 (fun r_357 h_357 => ?_)
        rcases h_357 with ⟨h_357, rfl⟩ | ⟨h_357, rfl⟩
        · refine ix_if_ne (tgt := 387) hx hb d_MO_plainly_360 (by decide) (by omega) (fun c_360 => ?_) (fun c_360 => ?_)
          · refine lv_iconst (v := iI 1) hx hb d_MO_plainly_387 rfl ?_
            refine lv_goto (tgt := 392) hx hb d_MO_plainly_388 (by decide) ?_
            subst hQ
            exact W.zret (v := iI 1) hx hb hr (by decide) (fun t h9 hW => ⟨_, rfl, Or.inl ⟨by first | (exfalso; omega) | (rw [show k = 17 by omega]; simp [plainF] <;> first | assumption | omega | grind), rfl⟩, h9⟩) (fun _ h9 => by cases h9) d_MO_plainly_392
          · exact absurd c_360 (by decide)
        · refine ix_if_ne (tgt := 387) hx hb d_MO_plainly_360 (by decide) (by omega) (fun c_360 => ?_) (fun c_360 => ?_)
          · exact absurd c_360 (by decide)
          · refine lv_iload_n hx hb d_MO_plainly_363 rfl (lv_at hl 3 rfl) ?_
            refine lv_bipush (v := iI 65) hx hb d_MO_plainly_364 (by decide) ?_
            refine ix_icmp_lt (tgt := 375) hx hb d_MO_plainly_366 (by decide) (by omega) (fun c_366 => ?_) (fun c_366 => ?_)
            · refine lv_iload_n hx hb d_MO_plainly_375 rfl (lv_at hl 3 rfl) ?_
              refine lv_bipush (v := iI 97) hx hb d_MO_plainly_376 (by decide) ?_
              refine ix_icmp_lt (tgt := 391) hx hb d_MO_plainly_378 (by decide) (by omega) (fun c_378 => ?_) (fun c_378 => ?_)
              · refine lv_iconst (v := iI 0) hx hb d_MO_plainly_391 rfl ?_
                subst hQ
                exact W.zret (v := iI 0) hx hb hr (by decide) (fun t h9 hW => ⟨_, rfl, Or.inr ⟨by first | (exfalso; omega) | (rw [show k = 17 by omega]; simp [plainF] <;> first | assumption | omega | grind), rfl⟩, h9⟩) (fun _ h9 => by cases h9) d_MO_plainly_392
              · refine lv_iload_n hx hb d_MO_plainly_381 rfl (lv_at hl 3 rfl) ?_
                refine lv_bipush (v := iI 102) hx hb d_MO_plainly_382 (by decide) ?_
                refine ix_icmp_gt (tgt := 391) hx hb d_MO_plainly_384 (by decide) (by omega) (fun c_384 => ?_) (fun c_384 => ?_)
                · refine lv_iconst (v := iI 0) hx hb d_MO_plainly_391 rfl ?_
                  subst hQ
                  exact W.zret (v := iI 0) hx hb hr (by decide) (fun t h9 hW => ⟨_, rfl, Or.inr ⟨by first | (exfalso; omega) | (rw [show k = 17 by omega]; simp [plainF] <;> first | assumption | omega | grind), rfl⟩, h9⟩) (fun _ h9 => by cases h9) d_MO_plainly_392
                · refine lv_iconst (v := iI 1) hx hb d_MO_plainly_387 rfl ?_
                  refine lv_goto (tgt := 392) hx hb d_MO_plainly_388 (by decide) ?_
                  subst hQ
                  exact W.zret (v := iI 1) hx hb hr (by decide) (fun t h9 hW => ⟨_, rfl, Or.inl ⟨by first | (exfalso; omega) | (rw [show k = 17 by omega]; simp [plainF] <;> first | assumption | omega | grind), rfl⟩, h9⟩) (fun _ h9 => by cases h9) d_MO_plainly_392
            · refine lv_iload_n hx hb d_MO_plainly_369 rfl (lv_at hl 3 rfl) ?_
              refine lv_bipush (v := iI 70) hx hb d_MO_plainly_370 (by decide) ?_
              refine ix_icmp_le (tgt := 387) hx hb d_MO_plainly_372 (by decide) (by omega) (fun c_372 => ?_) (fun c_372 => ?_)
              · refine lv_iconst (v := iI 1) hx hb d_MO_plainly_387 rfl ?_
                refine lv_goto (tgt := 392) hx hb d_MO_plainly_388 (by decide) ?_
                subst hQ
                exact W.zret (v := iI 1) hx hb hr (by decide) (fun t h9 hW => ⟨_, rfl, Or.inl ⟨by first | (exfalso; omega) | (rw [show k = 17 by omega]; simp [plainF] <;> first | assumption | omega | grind), rfl⟩, h9⟩) (fun _ h9 => by cases h9) d_MO_plainly_392
              · refine lv_iload_n hx hb d_MO_plainly_375 rfl (lv_at hl 3 rfl) ?_
                refine lv_bipush (v := iI 97) hx hb d_MO_plainly_376 (by decide) ?_
                refine ix_icmp_lt (tgt := 391) hx hb d_MO_plainly_378 (by decide) (by omega) (fun c_378 => ?_) (fun c_378 => ?_)
                · refine lv_iconst (v := iI 0) hx hb d_MO_plainly_391 rfl ?_
                  subst hQ
                  exact W.zret (v := iI 0) hx hb hr (by decide) (fun t h9 hW => ⟨_, rfl, Or.inr ⟨by first | (exfalso; omega) | (rw [show k = 17 by omega]; simp [plainF] <;> first | assumption | omega | grind), rfl⟩, h9⟩) (fun _ h9 => by cases h9) d_MO_plainly_392
                · refine lv_iload_n hx hb d_MO_plainly_381 rfl (lv_at hl 3 rfl) ?_
                  refine lv_bipush (v := iI 102) hx hb d_MO_plainly_382 (by decide) ?_
                  refine ix_icmp_gt (tgt := 391) hx hb d_MO_plainly_384 (by decide) (by omega) (fun c_384 => ?_) (fun c_384 => ?_)
                  · refine lv_iconst (v := iI 0) hx hb d_MO_plainly_391 rfl ?_
                    subst hQ
                    exact W.zret (v := iI 0) hx hb hr (by decide) (fun t h9 hW => ⟨_, rfl, Or.inr ⟨by first | (exfalso; omega) | (rw [show k = 17 by omega]; simp [plainF] <;> first | assumption | omega | grind), rfl⟩, h9⟩) (fun _ h9 => by cases h9) d_MO_plainly_392
                  · refine lv_iconst (v := iI 1) hx hb d_MO_plainly_387 rfl ?_
                    refine lv_goto (tgt := 392) hx hb d_MO_plainly_388 (by decide) ?_
                    subst hQ
                    exact W.zret (v := iI 1) hx hb hr (by decide) (fun t h9 hW => ⟨_, rfl, Or.inl ⟨by first | (exfalso; omega) | (rw [show k = 17 by omega]; simp [plainF] <;> first | assumption | omega | grind), rfl⟩, h9⟩) (fun _ h9 => by cases h9) d_MO_plainly_392
      · refine ix_tableO (tgt := 393) hx hb d_MO_plainly_19 (by omega) c_19 (by decide) ?_
        refine lv_iload_n hx hb d_MO_plainly_393 rfl (lv_at hl 3 rfl) ?_
        refine lv_sipush (v := iI 128) hx hb d_MO_plainly_394 (by decide) ?_
        refine ix_icmp_ge (tgt := 404) hx hb d_MO_plainly_397 (by decide) (by omega) (fun c_397 => ?_) (fun c_397 => ?_)
        · refine lv_iconst (v := iI 0) hx hb d_MO_plainly_404 rfl ?_
          subst hQ
          exact W.zret (v := iI 0) hx hb hr (by decide) (fun t h9 hW => ⟨_, rfl, Or.inr ⟨by first | (exfalso; omega) | (rw [show k = 18 by omega]; simp [plainF] <;> first | assumption | omega | grind), rfl⟩, h9⟩) (fun _ h9 => by cases h9) d_MO_plainly_405
        · refine lv_iconst (v := iI 1) hx hb d_MO_plainly_400 rfl ?_
          refine lv_goto (tgt := 405) hx hb d_MO_plainly_401 (by decide) ?_
          subst hQ
          exact W.zret (v := iI 1) hx hb hr (by decide) (fun t h9 hW => ⟨_, rfl, Or.inl ⟨by first | (exfalso; omega) | (rw [show k = 18 by omega]; simp [plainF] <;> first | assumption | omega | grind), rfl⟩, h9⟩) (fun _ h9 => by cases h9) d_MO_plainly_405
    · refine lv_iconst (v := iI 1) hx hb d_MO_plainly_12 rfl ?_
      refine lv_goto (tgt := 17) hx hb d_MO_plainly_13 (by decide) ?_
      refine lv_istore_n (lv' := [(3, .int (iI 1)), (0, .ref (r 0)), (1, .int (iI k)), (2, .int (iI c))]) hx hb d_MO_plainly_17 rfl hl (by decide) rfl (fun ls hl => ?_)
      refine lv_iload_n hx hb d_MO_plainly_18 rfl (lv_at hl 2 rfl) ?_
      rcases (show k = 0 ∨ k = 1 ∨ k = 2 ∨ k = 3 ∨ k = 4 ∨ k = 5 ∨ k = 6 ∨ k = 7 ∨ k = 8 ∨ k = 9 ∨ k = 10 ∨ k = 11 ∨ k = 12 ∨ k = 13 ∨ k = 14 ∨ k = 15 ∨ k = 16 ∨ k = 17 ∨ (k < 0 ∨ 17 < k) from by omega) with c_19 | c_19 | c_19 | c_19 | c_19 | c_19 | c_19 | c_19 | c_19 | c_19 | c_19 | c_19 | c_19 | c_19 | c_19 | c_19 | c_19 | c_19 | c_19
      · refine ix_table (tgt := 104) hx hb d_MO_plainly_19 (by omega) 85 (by omega) (by rw [c_19]; rfl) (by decide) ?_
        refine lv_aload_n hx hb d_MO_plainly_104 rfl (lv_at hl 1 rfl) ?_
        refine lv_iload_n hx hb d_MO_plainly_105 rfl (lv_at hl 3 rfl) ?_
        refine zcV (ci := 4) (q0 := 0) (As := [.int (iI c)]) (rest := []) ⟨hx, hb, hml, hown, ht⟩ v_MO_137 (c_MO_digit l g r ut uc la wo bw mt ms c (by omega)) ⟨Nat.le_of_ble_eq_true rfl, Nat.le_of_ble_eq_true rfl⟩ ⟨Nat.zero_le _, Nat.zero_le _⟩ hK hZ hS hP rfl rfl rfl rfl hl.1 rfl (Nat.le_of_ble_eq_true rfl) d_MO_plainly_106 (fun r_106 h_106 => ?_)
        rcases h_106 with ⟨h_106, rfl⟩ | ⟨h_106, rfl⟩
        · subst hQ
          exact W.zret (v := iI 1) hx hb hr (by decide) (fun t h9 hW => ⟨_, rfl, Or.inl ⟨by first | (exfalso; omega) | (rw [show k = 0 by omega]; simp [plainF] <;> first | assumption | omega | grind), rfl⟩, h9⟩) (fun _ h9 => by cases h9) d_MO_plainly_109
        · subst hQ
          exact W.zret (v := iI 0) hx hb hr (by decide) (fun t h9 hW => ⟨_, rfl, Or.inr ⟨by first | (exfalso; omega) | (rw [show k = 0 by omega]; simp [plainF] <;> first | assumption | omega | grind), rfl⟩, h9⟩) (fun _ h9 => by cases h9) d_MO_plainly_109
      · refine ix_table (tgt := 110) hx hb d_MO_plainly_19 (by omega) 91 (by omega) (by rw [c_19]; rfl) (by decide) ?_
        refine lv_aload_n hx hb d_MO_plainly_110 rfl (lv_at hl 1 rfl) ?_
        refine lv_iload_n hx hb d_MO_plainly_111 rfl (lv_at hl 3 rfl) ?_
        refine zcV (ci := 4) (q0 := 0) (As := [.int (iI c)]) (rest := []) ⟨hx, hb, hml, hown, ht⟩ v_MO_140 (c_MO_alpha l g r ut uc la wo bw mt ms c (by omega)) ⟨Nat.le_of_ble_eq_true rfl, Nat.le_of_ble_eq_true rfl⟩ ⟨Nat.zero_le _, Nat.zero_le _⟩ hK hZ hS hP rfl rfl rfl rfl hl.1 rfl (Nat.le_of_ble_eq_true rfl) d_MO_plainly_112 (fun r_112 h_112 => ?_)
        rcases h_112 with ⟨h_112, rfl⟩ | ⟨h_112, rfl⟩
        · refine ix_if_ne (tgt := 132) hx hb d_MO_plainly_115 (by decide) (by omega) (fun c_115 => ?_) (fun c_115 => ?_)
          · refine lv_iconst (v := iI 1) hx hb d_MO_plainly_132 rfl ?_
            refine lv_goto (tgt := 137) hx hb d_MO_plainly_133 (by decide) ?_
            subst hQ
            exact W.zret (v := iI 1) hx hb hr (by decide) (fun t h9 hW => ⟨_, rfl, Or.inl ⟨by first | (exfalso; omega) | (rw [show k = 1 by omega]; simp [plainF] <;> first | assumption | omega | grind), rfl⟩, h9⟩) (fun _ h9 => by cases h9) d_MO_plainly_137
          · exact absurd c_115 (by decide)
        · refine ix_if_ne (tgt := 132) hx hb d_MO_plainly_115 (by decide) (by omega) (fun c_115 => ?_) (fun c_115 => ?_)
          · exact absurd c_115 (by decide)
          · refine lv_aload_n hx hb d_MO_plainly_118 rfl (lv_at hl 1 rfl) ?_
            refine lv_iload_n hx hb d_MO_plainly_119 rfl (lv_at hl 3 rfl) ?_
            refine zcV (ci := 4) (q0 := 0) (As := [.int (iI c)]) (rest := []) ⟨hx, hb, hml, hown, ht⟩ v_MO_137 (c_MO_digit l g r ut uc la wo bw mt ms c (by omega)) ⟨Nat.le_of_ble_eq_true rfl, Nat.le_of_ble_eq_true rfl⟩ ⟨Nat.zero_le _, Nat.zero_le _⟩ hK hZ hS hP rfl rfl rfl rfl hl.1 rfl (Nat.le_of_ble_eq_true rfl) d_MO_plainly_120 (fun r_120 h_120 => ?_)
            rcases h_120 with ⟨h_120, rfl⟩ | ⟨h_120, rfl⟩
            · refine ix_if_ne (tgt := 132) hx hb d_MO_plainly_123 (by decide) (by omega) (fun c_123 => ?_) (fun c_123 => ?_)
              · refine lv_iconst (v := iI 1) hx hb d_MO_plainly_132 rfl ?_
                refine lv_goto (tgt := 137) hx hb d_MO_plainly_133 (by decide) ?_
                subst hQ
                exact W.zret (v := iI 1) hx hb hr (by decide) (fun t h9 hW => ⟨_, rfl, Or.inl ⟨by first | (exfalso; omega) | (rw [show k = 1 by omega]; simp [plainF] <;> first | assumption | omega | grind), rfl⟩, h9⟩) (fun _ h9 => by cases h9) d_MO_plainly_137
              · exact absurd c_123 (by decide)
            · refine ix_if_ne (tgt := 132) hx hb d_MO_plainly_123 (by decide) (by omega) (fun c_123 => ?_) (fun c_123 => ?_)
              · exact absurd c_123 (by decide)
              · refine lv_iload_n hx hb d_MO_plainly_126 rfl (lv_at hl 3 rfl) ?_
                refine lv_bipush (v := iI 95) hx hb d_MO_plainly_127 (by decide) ?_
                refine ix_icmp_ne (tgt := 136) hx hb d_MO_plainly_129 (by decide) (by omega) (fun c_129 => ?_) (fun c_129 => ?_)
                · refine lv_iconst (v := iI 0) hx hb d_MO_plainly_136 rfl ?_
                  subst hQ
                  exact W.zret (v := iI 0) hx hb hr (by decide) (fun t h9 hW => ⟨_, rfl, Or.inr ⟨by first | (exfalso; omega) | (rw [show k = 1 by omega]; simp [plainF] <;> first | assumption | omega | grind), rfl⟩, h9⟩) (fun _ h9 => by cases h9) d_MO_plainly_137
                · refine lv_iconst (v := iI 1) hx hb d_MO_plainly_132 rfl ?_
                  refine lv_goto (tgt := 137) hx hb d_MO_plainly_133 (by decide) ?_
                  subst hQ
                  exact W.zret (v := iI 1) hx hb hr (by decide) (fun t h9 hW => ⟨_, rfl, Or.inl ⟨by first | (exfalso; omega) | (rw [show k = 1 by omega]; simp [plainF] <;> first | assumption | omega | grind), rfl⟩, h9⟩) (fun _ h9 => by cases h9) d_MO_plainly_137
      · refine ix_table (tgt := 138) hx hb d_MO_plainly_19 (by omega) 119 (by omega) (by rw [c_19]; rfl) (by decide) ?_
        refine lv_iload_n hx hb d_MO_plainly_138 rfl (lv_at hl 3 rfl) ?_
        refine lv_bipush (v := iI 9) hx hb d_MO_plainly_139 (by decide) ?_
        refine ix_icmp_lt (tgt := 150) hx hb d_MO_plainly_141 (by decide) (by omega) (fun c_141 => ?_) (fun c_141 => ?_)
        · refine lv_iload_n hx hb d_MO_plainly_150 rfl (lv_at hl 3 rfl) ?_
          refine lv_bipush (v := iI 32) hx hb d_MO_plainly_151 (by decide) ?_
          refine ix_icmp_ne (tgt := 160) hx hb d_MO_plainly_153 (by decide) (by omega) (fun c_153 => ?_) (fun c_153 => ?_)
          · refine lv_iconst (v := iI 0) hx hb d_MO_plainly_160 rfl ?_
            subst hQ
            exact W.zret (v := iI 0) hx hb hr (by decide) (fun t h9 hW => ⟨_, rfl, Or.inr ⟨by first | (exfalso; omega) | (rw [show k = 2 by omega]; simp [plainF] <;> first | assumption | omega | grind), rfl⟩, h9⟩) (fun _ h9 => by cases h9) d_MO_plainly_161
          · refine lv_iconst (v := iI 1) hx hb d_MO_plainly_156 rfl ?_
            refine lv_goto (tgt := 161) hx hb d_MO_plainly_157 (by decide) ?_
            subst hQ
            exact W.zret (v := iI 1) hx hb hr (by decide) (fun t h9 hW => ⟨_, rfl, Or.inl ⟨by first | (exfalso; omega) | (rw [show k = 2 by omega]; simp [plainF] <;> first | assumption | omega | grind), rfl⟩, h9⟩) (fun _ h9 => by cases h9) d_MO_plainly_161
        · refine lv_iload_n hx hb d_MO_plainly_144 rfl (lv_at hl 3 rfl) ?_
          refine lv_bipush (v := iI 13) hx hb d_MO_plainly_145 (by decide) ?_
          refine ix_icmp_le (tgt := 156) hx hb d_MO_plainly_147 (by decide) (by omega) (fun c_147 => ?_) (fun c_147 => ?_)
          · refine lv_iconst (v := iI 1) hx hb d_MO_plainly_156 rfl ?_
            refine lv_goto (tgt := 161) hx hb d_MO_plainly_157 (by decide) ?_
            subst hQ
            exact W.zret (v := iI 1) hx hb hr (by decide) (fun t h9 hW => ⟨_, rfl, Or.inl ⟨by first | (exfalso; omega) | (rw [show k = 2 by omega]; simp [plainF] <;> first | assumption | omega | grind), rfl⟩, h9⟩) (fun _ h9 => by cases h9) d_MO_plainly_161
          · refine lv_iload_n hx hb d_MO_plainly_150 rfl (lv_at hl 3 rfl) ?_
            refine lv_bipush (v := iI 32) hx hb d_MO_plainly_151 (by decide) ?_
            refine ix_icmp_ne (tgt := 160) hx hb d_MO_plainly_153 (by decide) (by omega) (fun c_153 => ?_) (fun c_153 => ?_)
            · refine lv_iconst (v := iI 0) hx hb d_MO_plainly_160 rfl ?_
              subst hQ
              exact W.zret (v := iI 0) hx hb hr (by decide) (fun t h9 hW => ⟨_, rfl, Or.inr ⟨by first | (exfalso; omega) | (rw [show k = 2 by omega]; simp [plainF] <;> first | assumption | omega | grind), rfl⟩, h9⟩) (fun _ h9 => by cases h9) d_MO_plainly_161
            · refine lv_iconst (v := iI 1) hx hb d_MO_plainly_156 rfl ?_
              refine lv_goto (tgt := 161) hx hb d_MO_plainly_157 (by decide) ?_
              subst hQ
              exact W.zret (v := iI 1) hx hb hr (by decide) (fun t h9 hW => ⟨_, rfl, Or.inl ⟨by first | (exfalso; omega) | (rw [show k = 2 by omega]; simp [plainF] <;> first | assumption | omega | grind), rfl⟩, h9⟩) (fun _ h9 => by cases h9) d_MO_plainly_161
      · refine ix_table (tgt := 162) hx hb d_MO_plainly_19 (by omega) 143 (by omega) (by rw [c_19]; rfl) (by decide) ?_
        refine lv_aload_n hx hb d_MO_plainly_162 rfl (lv_at hl 1 rfl) ?_
        refine lv_iload_n hx hb d_MO_plainly_163 rfl (lv_at hl 3 rfl) ?_
        refine zcV (ci := 4) (q0 := 0) (As := [.int (iI c)]) (rest := []) ⟨hx, hb, hml, hown, ht⟩ v_MO_143 (c_MO_blank l g r ut uc la wo bw mt ms c (by omega)) ⟨Nat.le_of_ble_eq_true rfl, Nat.le_of_ble_eq_true rfl⟩ ⟨Nat.zero_le _, Nat.zero_le _⟩ hK hZ hS hP rfl rfl rfl rfl hl.1 rfl (Nat.le_of_ble_eq_true rfl) d_MO_plainly_164 (fun r_164 h_164 => ?_)
        rcases h_164 with ⟨h_164, rfl⟩ | ⟨h_164, rfl⟩
        · subst hQ
          exact W.zret (v := iI 1) hx hb hr (by decide) (fun t h9 hW => ⟨_, rfl, Or.inl ⟨by first | (exfalso; omega) | (rw [show k = 3 by omega]; simp [plainF] <;> first | assumption | omega | grind), rfl⟩, h9⟩) (fun _ h9 => by cases h9) d_MO_plainly_167
        · subst hQ
          exact W.zret (v := iI 0) hx hb hr (by decide) (fun t h9 hW => ⟨_, rfl, Or.inr ⟨by first | (exfalso; omega) | (rw [show k = 3 by omega]; simp [plainF] <;> first | assumption | omega | grind), rfl⟩, h9⟩) (fun _ h9 => by cases h9) d_MO_plainly_167
      · refine ix_table (tgt := 168) hx hb d_MO_plainly_19 (by omega) 149 (by omega) (by rw [c_19]; rfl) (by decide) ?_
        refine lv_iload_n hx hb d_MO_plainly_168 rfl (lv_at hl 3 rfl) ?_
        refine lv_bipush (v := iI 10) hx hb d_MO_plainly_169 (by decide) ?_
        refine ix_icmp_lt (tgt := 180) hx hb d_MO_plainly_171 (by decide) (by omega) (fun c_171 => ?_) (fun c_171 => ?_)
        · refine lv_iload_n hx hb d_MO_plainly_180 rfl (lv_at hl 3 rfl) ?_
          refine lv_sipush (v := iI 133) hx hb d_MO_plainly_181 (by decide) ?_
          refine ix_icmp_eq (tgt := 201) hx hb d_MO_plainly_184 (by decide) (by omega) (fun c_184 => ?_) (fun c_184 => ?_)
          · refine lv_iconst (v := iI 1) hx hb d_MO_plainly_201 rfl ?_
            refine lv_goto (tgt := 206) hx hb d_MO_plainly_202 (by decide) ?_
            subst hQ
            exact W.zret (v := iI 1) hx hb hr (by decide) (fun t h9 hW => ⟨_, rfl, Or.inl ⟨by first | (exfalso; omega) | (rw [show k = 4 by omega]; simp [plainF] <;> first | assumption | omega | grind), rfl⟩, h9⟩) (fun _ h9 => by cases h9) d_MO_plainly_206
          · refine lv_iload_n hx hb d_MO_plainly_187 rfl (lv_at hl 3 rfl) ?_
            refine lv_sipush (v := iI 8232) hx hb d_MO_plainly_188 (by decide) ?_
            refine ix_icmp_eq (tgt := 201) hx hb d_MO_plainly_191 (by decide) (by omega) (fun c_191 => ?_) (fun c_191 => ?_)
            · refine lv_iconst (v := iI 1) hx hb d_MO_plainly_201 rfl ?_
              refine lv_goto (tgt := 206) hx hb d_MO_plainly_202 (by decide) ?_
              subst hQ
              exact W.zret (v := iI 1) hx hb hr (by decide) (fun t h9 hW => ⟨_, rfl, Or.inl ⟨by first | (exfalso; omega) | (rw [show k = 4 by omega]; simp [plainF] <;> first | assumption | omega | grind), rfl⟩, h9⟩) (fun _ h9 => by cases h9) d_MO_plainly_206
            · refine lv_iload_n hx hb d_MO_plainly_194 rfl (lv_at hl 3 rfl) ?_
              refine lv_sipush (v := iI 8233) hx hb d_MO_plainly_195 (by decide) ?_
              refine ix_icmp_ne (tgt := 205) hx hb d_MO_plainly_198 (by decide) (by omega) (fun c_198 => ?_) (fun c_198 => ?_)
              · refine lv_iconst (v := iI 0) hx hb d_MO_plainly_205 rfl ?_
                subst hQ
                exact W.zret (v := iI 0) hx hb hr (by decide) (fun t h9 hW => ⟨_, rfl, Or.inr ⟨by first | (exfalso; omega) | (rw [show k = 4 by omega]; simp [plainF] <;> first | assumption | omega | grind), rfl⟩, h9⟩) (fun _ h9 => by cases h9) d_MO_plainly_206
              · refine lv_iconst (v := iI 1) hx hb d_MO_plainly_201 rfl ?_
                refine lv_goto (tgt := 206) hx hb d_MO_plainly_202 (by decide) ?_
                subst hQ
                exact W.zret (v := iI 1) hx hb hr (by decide) (fun t h9 hW => ⟨_, rfl, Or.inl ⟨by first | (exfalso; omega) | (rw [show k = 4 by omega]; simp [plainF] <;> first | assumption | omega | grind), rfl⟩, h9⟩) (fun _ h9 => by cases h9) d_MO_plainly_206
        · refine lv_iload_n hx hb d_MO_plainly_174 rfl (lv_at hl 3 rfl) ?_
          refine lv_bipush (v := iI 13) hx hb d_MO_plainly_175 (by decide) ?_
          refine ix_icmp_le (tgt := 201) hx hb d_MO_plainly_177 (by decide) (by omega) (fun c_177 => ?_) (fun c_177 => ?_)
          · refine lv_iconst (v := iI 1) hx hb d_MO_plainly_201 rfl ?_
            refine lv_goto (tgt := 206) hx hb d_MO_plainly_202 (by decide) ?_
            subst hQ
            exact W.zret (v := iI 1) hx hb hr (by decide) (fun t h9 hW => ⟨_, rfl, Or.inl ⟨by first | (exfalso; omega) | (rw [show k = 4 by omega]; simp [plainF] <;> first | assumption | omega | grind), rfl⟩, h9⟩) (fun _ h9 => by cases h9) d_MO_plainly_206
          · refine lv_iload_n hx hb d_MO_plainly_180 rfl (lv_at hl 3 rfl) ?_
            refine lv_sipush (v := iI 133) hx hb d_MO_plainly_181 (by decide) ?_
            refine ix_icmp_eq (tgt := 201) hx hb d_MO_plainly_184 (by decide) (by omega) (fun c_184 => ?_) (fun c_184 => ?_)
            · refine lv_iconst (v := iI 1) hx hb d_MO_plainly_201 rfl ?_
              refine lv_goto (tgt := 206) hx hb d_MO_plainly_202 (by decide) ?_
              subst hQ
              exact W.zret (v := iI 1) hx hb hr (by decide) (fun t h9 hW => ⟨_, rfl, Or.inl ⟨by first | (exfalso; omega) | (rw [show k = 4 by omega]; simp [plainF] <;> first | assumption | omega | grind), rfl⟩, h9⟩) (fun _ h9 => by cases h9) d_MO_plainly_206
            · refine lv_iload_n hx hb d_MO_plainly_187 rfl (lv_at hl 3 rfl) ?_
              refine lv_sipush (v := iI 8232) hx hb d_MO_plainly_188 (by decide) ?_
              refine ix_icmp_eq (tgt := 201) hx hb d_MO_plainly_191 (by decide) (by omega) (fun c_191 => ?_) (fun c_191 => ?_)
              · refine lv_iconst (v := iI 1) hx hb d_MO_plainly_201 rfl ?_
                refine lv_goto (tgt := 206) hx hb d_MO_plainly_202 (by decide) ?_
                subst hQ
                exact W.zret (v := iI 1) hx hb hr (by decide) (fun t h9 hW => ⟨_, rfl, Or.inl ⟨by first | (exfalso; omega) | (rw [show k = 4 by omega]; simp [plainF] <;> first | assumption | omega | grind), rfl⟩, h9⟩) (fun _ h9 => by cases h9) d_MO_plainly_206
              · refine lv_iload_n hx hb d_MO_plainly_194 rfl (lv_at hl 3 rfl) ?_
                refine lv_sipush (v := iI 8233) hx hb d_MO_plainly_195 (by decide) ?_
                refine ix_icmp_ne (tgt := 205) hx hb d_MO_plainly_198 (by decide) (by omega) (fun c_198 => ?_) (fun c_198 => ?_)
                · refine lv_iconst (v := iI 0) hx hb d_MO_plainly_205 rfl ?_
                  subst hQ
                  exact W.zret (v := iI 0) hx hb hr (by decide) (fun t h9 hW => ⟨_, rfl, Or.inr ⟨by first | (exfalso; omega) | (rw [show k = 4 by omega]; simp [plainF] <;> first | assumption | omega | grind), rfl⟩, h9⟩) (fun _ h9 => by cases h9) d_MO_plainly_206
                · refine lv_iconst (v := iI 1) hx hb d_MO_plainly_201 rfl ?_
                  refine lv_goto (tgt := 206) hx hb d_MO_plainly_202 (by decide) ?_
                  subst hQ
                  exact W.zret (v := iI 1) hx hb hr (by decide) (fun t h9 hW => ⟨_, rfl, Or.inl ⟨by first | (exfalso; omega) | (rw [show k = 4 by omega]; simp [plainF] <;> first | assumption | omega | grind), rfl⟩, h9⟩) (fun _ h9 => by cases h9) d_MO_plainly_206
      · refine ix_table (tgt := 207) hx hb d_MO_plainly_19 (by omega) 188 (by omega) (by rw [c_19]; rfl) (by decide) ?_
        refine lv_aload_n hx hb d_MO_plainly_207 rfl (lv_at hl 1 rfl) ?_
        refine lv_iload_n hx hb d_MO_plainly_208 rfl (lv_at hl 3 rfl) ?_
        refine zcV (ci := 4) (q0 := 0) (As := [.int (iI c)]) (rest := []) ⟨hx, hb, hml, hown, ht⟩ v_MO_140 (c_MO_alpha l g r ut uc la wo bw mt ms c (by omega)) ⟨Nat.le_of_ble_eq_true rfl, Nat.le_of_ble_eq_true rfl⟩ ⟨Nat.zero_le _, Nat.zero_le _⟩ hK hZ hS hP rfl rfl rfl rfl hl.1 rfl (Nat.le_of_ble_eq_true rfl) d_MO_plainly_209 (fun r_209 h_209 => ?_)
        rcases h_209 with ⟨h_209, rfl⟩ | ⟨h_209, rfl⟩
        · subst hQ
          exact W.zret (v := iI 1) hx hb hr (by decide) (fun t h9 hW => ⟨_, rfl, Or.inl ⟨by first | (exfalso; omega) | (rw [show k = 5 by omega]; simp [plainF] <;> first | assumption | omega | grind), rfl⟩, h9⟩) (fun _ h9 => by cases h9) d_MO_plainly_212
        · subst hQ
          exact W.zret (v := iI 0) hx hb hr (by decide) (fun t h9 hW => ⟨_, rfl, Or.inr ⟨by first | (exfalso; omega) | (rw [show k = 5 by omega]; simp [plainF] <;> first | assumption | omega | grind), rfl⟩, h9⟩) (fun _ h9 => by cases h9) d_MO_plainly_212
      · refine ix_table (tgt := 213) hx hb d_MO_plainly_19 (by omega) 194 (by omega) (by rw [c_19]; rfl) (by decide) ?_
        refine lv_aload_n hx hb d_MO_plainly_213 rfl (lv_at hl 1 rfl) ?_
        refine lv_iload_n hx hb d_MO_plainly_214 rfl (lv_at hl 3 rfl) ?_
        refine zcV (ci := 4) (q0 := 0) (As := [.int (iI c)]) (rest := []) ⟨hx, hb, hml, hown, ht⟩ v_MO_140 (c_MO_alpha l g r ut uc la wo bw mt ms c (by omega)) ⟨Nat.le_of_ble_eq_true rfl, Nat.le_of_ble_eq_true rfl⟩ ⟨Nat.zero_le _, Nat.zero_le _⟩ hK hZ hS hP rfl rfl rfl rfl hl.1 rfl (Nat.le_of_ble_eq_true rfl) d_MO_plainly_215 (fun r_215 h_215 => ?_)
        rcases h_215 with ⟨h_215, rfl⟩ | ⟨h_215, rfl⟩
        · refine ix_if_eq (tgt := 231) hx hb d_MO_plainly_218 (by decide) (by omega) (fun c_218 => ?_) (fun c_218 => ?_)
          · exact absurd c_218 (by decide)
          · refine lv_iload_n hx hb d_MO_plainly_221 rfl (lv_at hl 3 rfl) ?_
            refine lv_bipush (v := iI 96) hx hb d_MO_plainly_222 (by decide) ?_
            refine ix_icmp_le (tgt := 231) hx hb d_MO_plainly_224 (by decide) (by omega) (fun c_224 => ?_) (fun c_224 => ?_)
            · refine lv_iconst (v := iI 0) hx hb d_MO_plainly_231 rfl ?_
              subst hQ
              exact W.zret (v := iI 0) hx hb hr (by decide) (fun t h9 hW => ⟨_, rfl, Or.inr ⟨by first | (exfalso; omega) | (rw [show k = 6 by omega]; simp [plainF] <;> first | assumption | omega | grind), rfl⟩, h9⟩) (fun _ h9 => by cases h9) d_MO_plainly_232
            · refine lv_iconst (v := iI 1) hx hb d_MO_plainly_227 rfl ?_
              refine lv_goto (tgt := 232) hx hb d_MO_plainly_228 (by decide) ?_
              subst hQ
              exact W.zret (v := iI 1) hx hb hr (by decide) (fun t h9 hW => ⟨_, rfl, Or.inl ⟨by first | (exfalso; omega) | (rw [show k = 6 by omega]; simp [plainF] <;> first | assumption | omega | grind), rfl⟩, h9⟩) (fun _ h9 => by cases h9) d_MO_plainly_232
        · refine ix_if_eq (tgt := 231) hx hb d_MO_plainly_218 (by decide) (by omega) (fun c_218 => ?_) (fun c_218 => ?_)
          · refine lv_iconst (v := iI 0) hx hb d_MO_plainly_231 rfl ?_
            subst hQ
            exact W.zret (v := iI 0) hx hb hr (by decide) (fun t h9 hW => ⟨_, rfl, Or.inr ⟨by first | (exfalso; omega) | (rw [show k = 6 by omega]; simp [plainF] <;> first | assumption | omega | grind), rfl⟩, h9⟩) (fun _ h9 => by cases h9) d_MO_plainly_232
          · exact absurd c_218 (by decide)
      · refine ix_table (tgt := 233) hx hb d_MO_plainly_19 (by omega) 214 (by omega) (by rw [c_19]; rfl) (by decide) ?_
        refine lv_aload_n hx hb d_MO_plainly_233 rfl (lv_at hl 1 rfl) ?_
        refine lv_iload_n hx hb d_MO_plainly_234 rfl (lv_at hl 3 rfl) ?_
        refine zcV (ci := 4) (q0 := 0) (As := [.int (iI c)]) (rest := []) ⟨hx, hb, hml, hown, ht⟩ v_MO_140 (c_MO_alpha l g r ut uc la wo bw mt ms c (by omega)) ⟨Nat.le_of_ble_eq_true rfl, Nat.le_of_ble_eq_true rfl⟩ ⟨Nat.zero_le _, Nat.zero_le _⟩ hK hZ hS hP rfl rfl rfl rfl hl.1 rfl (Nat.le_of_ble_eq_true rfl) d_MO_plainly_235 (fun r_235 h_235 => ?_)
        rcases h_235 with ⟨h_235, rfl⟩ | ⟨h_235, rfl⟩
        · refine ix_if_eq (tgt := 251) hx hb d_MO_plainly_238 (by decide) (by omega) (fun c_238 => ?_) (fun c_238 => ?_)
          · exact absurd c_238 (by decide)
          · refine lv_iload_n hx hb d_MO_plainly_241 rfl (lv_at hl 3 rfl) ?_
            refine lv_bipush (v := iI 96) hx hb d_MO_plainly_242 (by decide) ?_
            refine ix_icmp_ge (tgt := 251) hx hb d_MO_plainly_244 (by decide) (by omega) (fun c_244 => ?_) (fun c_244 => ?_)
            · refine lv_iconst (v := iI 0) hx hb d_MO_plainly_251 rfl ?_
              subst hQ
              exact W.zret (v := iI 0) hx hb hr (by decide) (fun t h9 hW => ⟨_, rfl, Or.inr ⟨by first | (exfalso; omega) | (rw [show k = 7 by omega]; simp [plainF] <;> first | assumption | omega | grind), rfl⟩, h9⟩) (fun _ h9 => by cases h9) d_MO_plainly_252
            · refine lv_iconst (v := iI 1) hx hb d_MO_plainly_247 rfl ?_
              refine lv_goto (tgt := 252) hx hb d_MO_plainly_248 (by decide) ?_
              subst hQ
              exact W.zret (v := iI 1) hx hb hr (by decide) (fun t h9 hW => ⟨_, rfl, Or.inl ⟨by first | (exfalso; omega) | (rw [show k = 7 by omega]; simp [plainF] <;> first | assumption | omega | grind), rfl⟩, h9⟩) (fun _ h9 => by cases h9) d_MO_plainly_252
        · refine ix_if_eq (tgt := 251) hx hb d_MO_plainly_238 (by decide) (by omega) (fun c_238 => ?_) (fun c_238 => ?_)
          · refine lv_iconst (v := iI 0) hx hb d_MO_plainly_251 rfl ?_
            subst hQ
            exact W.zret (v := iI 0) hx hb hr (by decide) (fun t h9 hW => ⟨_, rfl, Or.inr ⟨by first | (exfalso; omega) | (rw [show k = 7 by omega]; simp [plainF] <;> first | assumption | omega | grind), rfl⟩, h9⟩) (fun _ h9 => by cases h9) d_MO_plainly_252
          · exact absurd c_238 (by decide)
      · refine ix_table (tgt := 104) hx hb d_MO_plainly_19 (by omega) 85 (by omega) (by rw [c_19]; rfl) (by decide) ?_
        refine lv_aload_n hx hb d_MO_plainly_104 rfl (lv_at hl 1 rfl) ?_
        refine lv_iload_n hx hb d_MO_plainly_105 rfl (lv_at hl 3 rfl) ?_
        refine zcV (ci := 4) (q0 := 0) (As := [.int (iI c)]) (rest := []) ⟨hx, hb, hml, hown, ht⟩ v_MO_137 (c_MO_digit l g r ut uc la wo bw mt ms c (by omega)) ⟨Nat.le_of_ble_eq_true rfl, Nat.le_of_ble_eq_true rfl⟩ ⟨Nat.zero_le _, Nat.zero_le _⟩ hK hZ hS hP rfl rfl rfl rfl hl.1 rfl (Nat.le_of_ble_eq_true rfl) d_MO_plainly_106 (fun r_106 h_106 => ?_)
        rcases h_106 with ⟨h_106, rfl⟩ | ⟨h_106, rfl⟩
        · subst hQ
          exact W.zret (v := iI 1) hx hb hr (by decide) (fun t h9 hW => ⟨_, rfl, Or.inl ⟨by first | (exfalso; omega) | (rw [show k = 8 by omega]; simp [plainF] <;> first | assumption | omega | grind), rfl⟩, h9⟩) (fun _ h9 => by cases h9) d_MO_plainly_109
        · subst hQ
          exact W.zret (v := iI 0) hx hb hr (by decide) (fun t h9 hW => ⟨_, rfl, Or.inr ⟨by first | (exfalso; omega) | (rw [show k = 8 by omega]; simp [plainF] <;> first | assumption | omega | grind), rfl⟩, h9⟩) (fun _ h9 => by cases h9) d_MO_plainly_109
      · refine ix_table (tgt := 253) hx hb d_MO_plainly_19 (by omega) 234 (by omega) (by rw [c_19]; rfl) (by decide) ?_
        refine lv_aload_n hx hb d_MO_plainly_253 rfl (lv_at hl 1 rfl) ?_
        refine lv_iload_n hx hb d_MO_plainly_254 rfl (lv_at hl 3 rfl) ?_
        refine zcV (ci := 4) (q0 := 0) (As := [.int (iI c)]) (rest := []) ⟨hx, hb, hml, hown, ht⟩ v_MO_140 (c_MO_alpha l g r ut uc la wo bw mt ms c (by omega)) ⟨Nat.le_of_ble_eq_true rfl, Nat.le_of_ble_eq_true rfl⟩ ⟨Nat.zero_le _, Nat.zero_le _⟩ hK hZ hS hP rfl rfl rfl rfl hl.1 rfl (Nat.le_of_ble_eq_true rfl) d_MO_plainly_255 (fun r_255 h_255 => ?_)
        rcases h_255 with ⟨h_255, rfl⟩ | ⟨h_255, rfl⟩
        · refine ix_if_ne (tgt := 269) hx hb d_MO_plainly_258 (by decide) (by omega) (fun c_258 => ?_) (fun c_258 => ?_)
          · refine lv_iconst (v := iI 1) hx hb d_MO_plainly_269 rfl ?_
            refine lv_goto (tgt := 274) hx hb d_MO_plainly_270 (by decide) ?_
            subst hQ
            exact W.zret (v := iI 1) hx hb hr (by decide) (fun t h9 hW => ⟨_, rfl, Or.inl ⟨by first | (exfalso; omega) | (rw [show k = 9 by omega]; simp [plainF] <;> first | assumption | omega | grind), rfl⟩, h9⟩) (fun _ h9 => by cases h9) d_MO_plainly_274
          · exact absurd c_258 (by decide)
        · refine ix_if_ne (tgt := 269) hx hb d_MO_plainly_258 (by decide) (by omega) (fun c_258 => ?_) (fun c_258 => ?_)
          · exact absurd c_258 (by decide)
          · refine lv_aload_n hx hb d_MO_plainly_261 rfl (lv_at hl 1 rfl) ?_
            refine lv_iload_n hx hb d_MO_plainly_262 rfl (lv_at hl 3 rfl) ?_
            refine zcV (ci := 4) (q0 := 0) (As := [.int (iI c)]) (rest := []) ⟨hx, hb, hml, hown, ht⟩ v_MO_137 (c_MO_digit l g r ut uc la wo bw mt ms c (by omega)) ⟨Nat.le_of_ble_eq_true rfl, Nat.le_of_ble_eq_true rfl⟩ ⟨Nat.zero_le _, Nat.zero_le _⟩ hK hZ hS hP rfl rfl rfl rfl hl.1 rfl (Nat.le_of_ble_eq_true rfl) d_MO_plainly_263 (fun r_263 h_263 => ?_)
            rcases h_263 with ⟨h_263, rfl⟩ | ⟨h_263, rfl⟩
            · refine ix_if_eq (tgt := 273) hx hb d_MO_plainly_266 (by decide) (by omega) (fun c_266 => ?_) (fun c_266 => ?_)
              · exact absurd c_266 (by decide)
              · refine lv_iconst (v := iI 1) hx hb d_MO_plainly_269 rfl ?_
                refine lv_goto (tgt := 274) hx hb d_MO_plainly_270 (by decide) ?_
                subst hQ
                exact W.zret (v := iI 1) hx hb hr (by decide) (fun t h9 hW => ⟨_, rfl, Or.inl ⟨by first | (exfalso; omega) | (rw [show k = 9 by omega]; simp [plainF] <;> first | assumption | omega | grind), rfl⟩, h9⟩) (fun _ h9 => by cases h9) d_MO_plainly_274
            · refine ix_if_eq (tgt := 273) hx hb d_MO_plainly_266 (by decide) (by omega) (fun c_266 => ?_) (fun c_266 => ?_)
              · refine lv_iconst (v := iI 0) hx hb d_MO_plainly_273 rfl ?_
                subst hQ
                exact W.zret (v := iI 0) hx hb hr (by decide) (fun t h9 hW => ⟨_, rfl, Or.inr ⟨by first | (exfalso; omega) | (rw [show k = 9 by omega]; simp [plainF] <;> first | assumption | omega | grind), rfl⟩, h9⟩) (fun _ h9 => by cases h9) d_MO_plainly_274
              · exact absurd c_266 (by decide)
      · refine ix_table (tgt := 110) hx hb d_MO_plainly_19 (by omega) 91 (by omega) (by rw [c_19]; rfl) (by decide) ?_
        refine lv_aload_n hx hb d_MO_plainly_110 rfl (lv_at hl 1 rfl) ?_
        refine lv_iload_n hx hb d_MO_plainly_111 rfl (lv_at hl 3 rfl) ?_
        refine zcV (ci := 4) (q0 := 0) (As := [.int (iI c)]) (rest := []) ⟨hx, hb, hml, hown, ht⟩ v_MO_140 (c_MO_alpha l g r ut uc la wo bw mt ms c (by omega)) ⟨Nat.le_of_ble_eq_true rfl, Nat.le_of_ble_eq_true rfl⟩ ⟨Nat.zero_le _, Nat.zero_le _⟩ hK hZ hS hP rfl rfl rfl rfl hl.1 rfl (Nat.le_of_ble_eq_true rfl) d_MO_plainly_112 (fun r_112 h_112 => ?_)
        rcases h_112 with ⟨h_112, rfl⟩ | ⟨h_112, rfl⟩
        · refine ix_if_ne (tgt := 132) hx hb d_MO_plainly_115 (by decide) (by omega) (fun c_115 => ?_) (fun c_115 => ?_)
          · refine lv_iconst (v := iI 1) hx hb d_MO_plainly_132 rfl ?_
            refine lv_goto (tgt := 137) hx hb d_MO_plainly_133 (by decide) ?_
            subst hQ
            exact W.zret (v := iI 1) hx hb hr (by decide) (fun t h9 hW => ⟨_, rfl, Or.inl ⟨by first | (exfalso; omega) | (rw [show k = 10 by omega]; simp [plainF] <;> first | assumption | omega | grind), rfl⟩, h9⟩) (fun _ h9 => by cases h9) d_MO_plainly_137
          · exact absurd c_115 (by decide)
        · refine ix_if_ne (tgt := 132) hx hb d_MO_plainly_115 (by decide) (by omega) (fun c_115 => ?_) (fun c_115 => ?_)
          · exact absurd c_115 (by decide)
          · refine lv_aload_n hx hb d_MO_plainly_118 rfl (lv_at hl 1 rfl) ?_
            refine lv_iload_n hx hb d_MO_plainly_119 rfl (lv_at hl 3 rfl) ?_
            refine zcV (ci := 4) (q0 := 0) (As := [.int (iI c)]) (rest := []) ⟨hx, hb, hml, hown, ht⟩ v_MO_137 (c_MO_digit l g r ut uc la wo bw mt ms c (by omega)) ⟨Nat.le_of_ble_eq_true rfl, Nat.le_of_ble_eq_true rfl⟩ ⟨Nat.zero_le _, Nat.zero_le _⟩ hK hZ hS hP rfl rfl rfl rfl hl.1 rfl (Nat.le_of_ble_eq_true rfl) d_MO_plainly_120 (fun r_120 h_120 => ?_)
            rcases h_120 with ⟨h_120, rfl⟩ | ⟨h_120, rfl⟩
            · refine ix_if_ne (tgt := 132) hx hb d_MO_plainly_123 (by decide) (by omega) (fun c_123 => ?_) (fun c_123 => ?_)
              · refine lv_iconst (v := iI 1) hx hb d_MO_plainly_132 rfl ?_
                refine lv_goto (tgt := 137) hx hb d_MO_plainly_133 (by decide) ?_
                subst hQ
                exact W.zret (v := iI 1) hx hb hr (by decide) (fun t h9 hW => ⟨_, rfl, Or.inl ⟨by first | (exfalso; omega) | (rw [show k = 10 by omega]; simp [plainF] <;> first | assumption | omega | grind), rfl⟩, h9⟩) (fun _ h9 => by cases h9) d_MO_plainly_137
              · exact absurd c_123 (by decide)
            · refine ix_if_ne (tgt := 132) hx hb d_MO_plainly_123 (by decide) (by omega) (fun c_123 => ?_) (fun c_123 => ?_)
              · exact absurd c_123 (by decide)
              · refine lv_iload_n hx hb d_MO_plainly_126 rfl (lv_at hl 3 rfl) ?_
                refine lv_bipush (v := iI 95) hx hb d_MO_plainly_127 (by decide) ?_
                refine ix_icmp_ne (tgt := 136) hx hb d_MO_plainly_129 (by decide) (by omega) (fun c_129 => ?_) (fun c_129 => ?_)
                · refine lv_iconst (v := iI 0) hx hb d_MO_plainly_136 rfl ?_
                  subst hQ
                  exact W.zret (v := iI 0) hx hb hr (by decide) (fun t h9 hW => ⟨_, rfl, Or.inr ⟨by first | (exfalso; omega) | (rw [show k = 10 by omega]; simp [plainF] <;> first | assumption | omega | grind), rfl⟩, h9⟩) (fun _ h9 => by cases h9) d_MO_plainly_137
                · refine lv_iconst (v := iI 1) hx hb d_MO_plainly_132 rfl ?_
                  refine lv_goto (tgt := 137) hx hb d_MO_plainly_133 (by decide) ?_
                  subst hQ
                  exact W.zret (v := iI 1) hx hb hr (by decide) (fun t h9 hW => ⟨_, rfl, Or.inl ⟨by first | (exfalso; omega) | (rw [show k = 10 by omega]; simp [plainF] <;> first | assumption | omega | grind), rfl⟩, h9⟩) (fun _ h9 => by cases h9) d_MO_plainly_137
      · refine ix_table (tgt := 138) hx hb d_MO_plainly_19 (by omega) 119 (by omega) (by rw [c_19]; rfl) (by decide) ?_
        refine lv_iload_n hx hb d_MO_plainly_138 rfl (lv_at hl 3 rfl) ?_
        refine lv_bipush (v := iI 9) hx hb d_MO_plainly_139 (by decide) ?_
        refine ix_icmp_lt (tgt := 150) hx hb d_MO_plainly_141 (by decide) (by omega) (fun c_141 => ?_) (fun c_141 => ?_)
        · refine lv_iload_n hx hb d_MO_plainly_150 rfl (lv_at hl 3 rfl) ?_
          refine lv_bipush (v := iI 32) hx hb d_MO_plainly_151 (by decide) ?_
          refine ix_icmp_ne (tgt := 160) hx hb d_MO_plainly_153 (by decide) (by omega) (fun c_153 => ?_) (fun c_153 => ?_)
          · refine lv_iconst (v := iI 0) hx hb d_MO_plainly_160 rfl ?_
            subst hQ
            exact W.zret (v := iI 0) hx hb hr (by decide) (fun t h9 hW => ⟨_, rfl, Or.inr ⟨by first | (exfalso; omega) | (rw [show k = 11 by omega]; simp [plainF] <;> first | assumption | omega | grind), rfl⟩, h9⟩) (fun _ h9 => by cases h9) d_MO_plainly_161
          · refine lv_iconst (v := iI 1) hx hb d_MO_plainly_156 rfl ?_
            refine lv_goto (tgt := 161) hx hb d_MO_plainly_157 (by decide) ?_
            subst hQ
            exact W.zret (v := iI 1) hx hb hr (by decide) (fun t h9 hW => ⟨_, rfl, Or.inl ⟨by first | (exfalso; omega) | (rw [show k = 11 by omega]; simp [plainF] <;> first | assumption | omega | grind), rfl⟩, h9⟩) (fun _ h9 => by cases h9) d_MO_plainly_161
        · refine lv_iload_n hx hb d_MO_plainly_144 rfl (lv_at hl 3 rfl) ?_
          refine lv_bipush (v := iI 13) hx hb d_MO_plainly_145 (by decide) ?_
          refine ix_icmp_le (tgt := 156) hx hb d_MO_plainly_147 (by decide) (by omega) (fun c_147 => ?_) (fun c_147 => ?_)
          · refine lv_iconst (v := iI 1) hx hb d_MO_plainly_156 rfl ?_
            refine lv_goto (tgt := 161) hx hb d_MO_plainly_157 (by decide) ?_
            subst hQ
            exact W.zret (v := iI 1) hx hb hr (by decide) (fun t h9 hW => ⟨_, rfl, Or.inl ⟨by first | (exfalso; omega) | (rw [show k = 11 by omega]; simp [plainF] <;> first | assumption | omega | grind), rfl⟩, h9⟩) (fun _ h9 => by cases h9) d_MO_plainly_161
          · refine lv_iload_n hx hb d_MO_plainly_150 rfl (lv_at hl 3 rfl) ?_
            refine lv_bipush (v := iI 32) hx hb d_MO_plainly_151 (by decide) ?_
            refine ix_icmp_ne (tgt := 160) hx hb d_MO_plainly_153 (by decide) (by omega) (fun c_153 => ?_) (fun c_153 => ?_)
            · refine lv_iconst (v := iI 0) hx hb d_MO_plainly_160 rfl ?_
              subst hQ
              exact W.zret (v := iI 0) hx hb hr (by decide) (fun t h9 hW => ⟨_, rfl, Or.inr ⟨by first | (exfalso; omega) | (rw [show k = 11 by omega]; simp [plainF] <;> first | assumption | omega | grind), rfl⟩, h9⟩) (fun _ h9 => by cases h9) d_MO_plainly_161
            · refine lv_iconst (v := iI 1) hx hb d_MO_plainly_156 rfl ?_
              refine lv_goto (tgt := 161) hx hb d_MO_plainly_157 (by decide) ?_
              subst hQ
              exact W.zret (v := iI 1) hx hb hr (by decide) (fun t h9 hW => ⟨_, rfl, Or.inl ⟨by first | (exfalso; omega) | (rw [show k = 11 by omega]; simp [plainF] <;> first | assumption | omega | grind), rfl⟩, h9⟩) (fun _ h9 => by cases h9) d_MO_plainly_161
      · refine ix_table (tgt := 275) hx hb d_MO_plainly_19 (by omega) 256 (by omega) (by rw [c_19]; rfl) (by decide) ?_
        refine lv_iload_n hx hb d_MO_plainly_275 rfl (lv_at hl 3 rfl) ?_
        refine lv_bipush (v := iI 9) hx hb d_MO_plainly_276 (by decide) ?_
        refine ix_icmp_eq (tgt := 287) hx hb d_MO_plainly_278 (by decide) (by omega) (fun c_278 => ?_) (fun c_278 => ?_)
        · refine lv_iconst (v := iI 1) hx hb d_MO_plainly_287 rfl ?_
          refine lv_goto (tgt := 292) hx hb d_MO_plainly_288 (by decide) ?_
          subst hQ
          exact W.zret (v := iI 1) hx hb hr (by decide) (fun t h9 hW => ⟨_, rfl, Or.inl ⟨by first | (exfalso; omega) | (rw [show k = 12 by omega]; simp [plainF] <;> first | assumption | omega | grind), rfl⟩, h9⟩) (fun _ h9 => by cases h9) d_MO_plainly_292
        · refine lv_iload_n hx hb d_MO_plainly_281 rfl (lv_at hl 3 rfl) ?_
          refine lv_bipush (v := iI 32) hx hb d_MO_plainly_282 (by decide) ?_
          refine ix_icmp_ne (tgt := 291) hx hb d_MO_plainly_284 (by decide) (by omega) (fun c_284 => ?_) (fun c_284 => ?_)
          · refine lv_iconst (v := iI 0) hx hb d_MO_plainly_291 rfl ?_
            subst hQ
            exact W.zret (v := iI 0) hx hb hr (by decide) (fun t h9 hW => ⟨_, rfl, Or.inr ⟨by first | (exfalso; omega) | (rw [show k = 12 by omega]; simp [plainF] <;> first | assumption | omega | grind), rfl⟩, h9⟩) (fun _ h9 => by cases h9) d_MO_plainly_292
          · refine lv_iconst (v := iI 1) hx hb d_MO_plainly_287 rfl ?_
            refine lv_goto (tgt := 292) hx hb d_MO_plainly_288 (by decide) ?_
            subst hQ
            exact W.zret (v := iI 1) hx hb hr (by decide) (fun t h9 hW => ⟨_, rfl, Or.inl ⟨by first | (exfalso; omega) | (rw [show k = 12 by omega]; simp [plainF] <;> first | assumption | omega | grind), rfl⟩, h9⟩) (fun _ h9 => by cases h9) d_MO_plainly_292
      · refine ix_table (tgt := 293) hx hb d_MO_plainly_19 (by omega) 274 (by omega) (by rw [c_19]; rfl) (by decide) ?_
        refine lv_iload_n hx hb d_MO_plainly_293 rfl (lv_at hl 3 rfl) ?_
        refine lv_bipush (v := iI 32) hx hb d_MO_plainly_294 (by decide) ?_
        refine ix_icmp_lt (tgt := 305) hx hb d_MO_plainly_296 (by decide) (by omega) (fun c_296 => ?_) (fun c_296 => ?_)
        · refine lv_iconst (v := iI 1) hx hb d_MO_plainly_305 rfl ?_
          refine lv_goto (tgt := 310) hx hb d_MO_plainly_306 (by decide) ?_
          subst hQ
          exact W.zret (v := iI 1) hx hb hr (by decide) (fun t h9 hW => ⟨_, rfl, Or.inl ⟨by first | (exfalso; omega) | (rw [show k = 13 by omega]; simp [plainF] <;> first | assumption | omega | grind), rfl⟩, h9⟩) (fun _ h9 => by cases h9) d_MO_plainly_310
        · refine lv_iload_n hx hb d_MO_plainly_299 rfl (lv_at hl 3 rfl) ?_
          refine lv_bipush (v := iI 127) hx hb d_MO_plainly_300 (by decide) ?_
          refine ix_icmp_ne (tgt := 309) hx hb d_MO_plainly_302 (by decide) (by omega) (fun c_302 => ?_) (fun c_302 => ?_)
          · refine lv_iconst (v := iI 0) hx hb d_MO_plainly_309 rfl ?_
            subst hQ
            exact W.zret (v := iI 0) hx hb hr (by decide) (fun t h9 hW => ⟨_, rfl, Or.inr ⟨by first | (exfalso; omega) | (rw [show k = 13 by omega]; simp [plainF] <;> first | assumption | omega | grind), rfl⟩, h9⟩) (fun _ h9 => by cases h9) d_MO_plainly_310
          · refine lv_iconst (v := iI 1) hx hb d_MO_plainly_305 rfl ?_
            refine lv_goto (tgt := 310) hx hb d_MO_plainly_306 (by decide) ?_
            subst hQ
            exact W.zret (v := iI 1) hx hb hr (by decide) (fun t h9 hW => ⟨_, rfl, Or.inl ⟨by first | (exfalso; omega) | (rw [show k = 13 by omega]; simp [plainF] <;> first | assumption | omega | grind), rfl⟩, h9⟩) (fun _ h9 => by cases h9) d_MO_plainly_310
      · refine ix_table (tgt := 311) hx hb d_MO_plainly_19 (by omega) 292 (by omega) (by rw [c_19]; rfl) (by decide) ?_
        refine lv_iload_n hx hb d_MO_plainly_311 rfl (lv_at hl 0 rfl) ?_
        subst hQ
        exact W.zret (v := iI 1) hx hb hr (by decide) (fun t h9 hW => ⟨_, rfl, Or.inl ⟨by first | (exfalso; omega) | (rw [show k = 14 by omega]; simp [plainF] <;> first | assumption | omega | grind), rfl⟩, h9⟩) (fun _ h9 => by cases h9) d_MO_plainly_312
      · refine ix_table (tgt := 313) hx hb d_MO_plainly_19 (by omega) 294 (by omega) (by rw [c_19]; rfl) (by decide) ?_
        refine lv_iload_n hx hb d_MO_plainly_313 rfl (lv_at hl 0 rfl) ?_
        refine ix_if_ne (tgt := 323) hx hb d_MO_plainly_314 (by decide) (by omega) (fun c_314 => ?_) (fun c_314 => ?_)
        · refine lv_iconst (v := iI 1) hx hb d_MO_plainly_323 rfl ?_
          refine lv_goto (tgt := 328) hx hb d_MO_plainly_324 (by decide) ?_
          subst hQ
          exact W.zret (v := iI 1) hx hb hr (by decide) (fun t h9 hW => ⟨_, rfl, Or.inl ⟨by first | (exfalso; omega) | (rw [show k = 15 by omega]; simp [plainF] <;> first | assumption | omega | grind), rfl⟩, h9⟩) (fun _ h9 => by cases h9) d_MO_plainly_328
        · exact absurd c_314 (by decide)
      · refine ix_table (tgt := 329) hx hb d_MO_plainly_19 (by omega) 310 (by omega) (by rw [c_19]; rfl) (by decide) ?_
        refine lv_iload_n hx hb d_MO_plainly_329 rfl (lv_at hl 0 rfl) ?_
        refine ix_if_eq (tgt := 353) hx hb d_MO_plainly_330 (by decide) (by omega) (fun c_330 => ?_) (fun c_330 => ?_)
        · exact absurd c_330 (by decide)
        · refine lv_aload_n hx hb d_MO_plainly_333 rfl (lv_at hl 1 rfl) ?_
          refine lv_iload_n hx hb d_MO_plainly_334 rfl (lv_at hl 3 rfl) ?_
          refine zcV (ci := 4) (q0 := 0) (As := [.int (iI c)]) (rest := []) ⟨hx, hb, hml, hown, ht⟩ v_MO_140 (c_MO_alpha l g r ut uc la wo bw mt ms c (by omega)) ⟨Nat.le_of_ble_eq_true rfl, Nat.le_of_ble_eq_true rfl⟩ ⟨Nat.zero_le _, Nat.zero_le _⟩ hK hZ hS hP rfl rfl rfl rfl hl.1 rfl (Nat.le_of_ble_eq_true rfl) d_MO_plainly_335 (fun r_335 h_335 => ?_)
          rcases h_335 with ⟨h_335, rfl⟩ | ⟨h_335, rfl⟩
          · refine ix_if_ne (tgt := 353) hx hb d_MO_plainly_338 (by decide) (by omega) (fun c_338 => ?_) (fun c_338 => ?_)
            · refine lv_iconst (v := iI 0) hx hb d_MO_plainly_353 rfl ?_
              subst hQ
              exact W.zret (v := iI 0) hx hb hr (by decide) (fun t h9 hW => ⟨_, rfl, Or.inr ⟨by first | (exfalso; omega) | (rw [show k = 16 by omega]; simp [plainF] <;> first | assumption | omega | grind), rfl⟩, h9⟩) (fun _ h9 => by cases h9) d_MO_plainly_354
            · exact absurd c_338 (by decide)
          · refine ix_if_ne (tgt := 353) hx hb d_MO_plainly_338 (by decide) (by omega) (fun c_338 => ?_) (fun c_338 => ?_)
            · exact absurd c_338 (by decide)
            · refine lv_aload_n hx hb d_MO_plainly_341 rfl (lv_at hl 1 rfl) ?_
              refine lv_iload_n hx hb d_MO_plainly_342 rfl (lv_at hl 3 rfl) ?_
              refine zcV (ci := 4) (q0 := 0) (As := [.int (iI c)]) (rest := []) ⟨hx, hb, hml, hown, ht⟩ v_MO_137 (c_MO_digit l g r ut uc la wo bw mt ms c (by omega)) ⟨Nat.le_of_ble_eq_true rfl, Nat.le_of_ble_eq_true rfl⟩ ⟨Nat.zero_le _, Nat.zero_le _⟩ hK hZ hS hP rfl rfl rfl rfl hl.1 rfl (Nat.le_of_ble_eq_true rfl) d_MO_plainly_343 (fun r_343 h_343 => ?_)
              rcases h_343 with ⟨h_343, rfl⟩ | ⟨h_343, rfl⟩
              · refine ix_if_ne (tgt := 353) hx hb d_MO_plainly_346 (by decide) (by omega) (fun c_346 => ?_) (fun c_346 => ?_)
                · refine lv_iconst (v := iI 0) hx hb d_MO_plainly_353 rfl ?_
                  subst hQ
                  exact W.zret (v := iI 0) hx hb hr (by decide) (fun t h9 hW => ⟨_, rfl, Or.inr ⟨by first | (exfalso; omega) | (rw [show k = 16 by omega]; simp [plainF] <;> first | assumption | omega | grind), rfl⟩, h9⟩) (fun _ h9 => by cases h9) d_MO_plainly_354
                · exact absurd c_346 (by decide)
              · refine ix_if_ne (tgt := 353) hx hb d_MO_plainly_346 (by decide) (by omega) (fun c_346 => ?_) (fun c_346 => ?_)
                · exact absurd c_346 (by decide)
                · refine lv_iconst (v := iI 1) hx hb d_MO_plainly_349 rfl ?_
                  refine lv_goto (tgt := 354) hx hb d_MO_plainly_350 (by decide) ?_
                  subst hQ
                  exact W.zret (v := iI 1) hx hb hr (by decide) (fun t h9 hW => ⟨_, rfl, Or.inl ⟨by first | (exfalso; omega) | (rw [show k = 16 by omega]; simp [plainF] <;> first | assumption | omega | grind), rfl⟩, h9⟩) (fun _ h9 => by cases h9) d_MO_plainly_354
      · refine ix_table (tgt := 355) hx hb d_MO_plainly_19 (by omega) 336 (by omega) (by rw [c_19]; rfl) (by decide) ?_
        refine lv_aload_n hx hb d_MO_plainly_355 rfl (lv_at hl 1 rfl) ?_
        refine lv_iload_n hx hb d_MO_plainly_356 rfl (lv_at hl 3 rfl) ?_
        refine zcV (ci := 4) (q0 := 0) (As := [.int (iI c)]) (rest := []) ⟨hx, hb, hml, hown, ht⟩ v_MO_137 (c_MO_digit l g r ut uc la wo bw mt ms c (by omega)) ⟨Nat.le_of_ble_eq_true rfl, Nat.le_of_ble_eq_true rfl⟩ ⟨Nat.zero_le _, Nat.zero_le _⟩ hK hZ hS hP rfl rfl rfl rfl hl.1 rfl (Nat.le_of_ble_eq_true rfl) d_MO_plainly_357 (fun r_357 h_357 => ?_)
        rcases h_357 with ⟨h_357, rfl⟩ | ⟨h_357, rfl⟩
        · refine ix_if_ne (tgt := 387) hx hb d_MO_plainly_360 (by decide) (by omega) (fun c_360 => ?_) (fun c_360 => ?_)
          · refine lv_iconst (v := iI 1) hx hb d_MO_plainly_387 rfl ?_
            refine lv_goto (tgt := 392) hx hb d_MO_plainly_388 (by decide) ?_
            subst hQ
            exact W.zret (v := iI 1) hx hb hr (by decide) (fun t h9 hW => ⟨_, rfl, Or.inl ⟨by first | (exfalso; omega) | (rw [show k = 17 by omega]; simp [plainF] <;> first | assumption | omega | grind), rfl⟩, h9⟩) (fun _ h9 => by cases h9) d_MO_plainly_392
          · exact absurd c_360 (by decide)
        · refine ix_if_ne (tgt := 387) hx hb d_MO_plainly_360 (by decide) (by omega) (fun c_360 => ?_) (fun c_360 => ?_)
          · exact absurd c_360 (by decide)
          · refine lv_iload_n hx hb d_MO_plainly_363 rfl (lv_at hl 3 rfl) ?_
            refine lv_bipush (v := iI 65) hx hb d_MO_plainly_364 (by decide) ?_
            refine ix_icmp_lt (tgt := 375) hx hb d_MO_plainly_366 (by decide) (by omega) (fun c_366 => ?_) (fun c_366 => ?_)
            · refine lv_iload_n hx hb d_MO_plainly_375 rfl (lv_at hl 3 rfl) ?_
              refine lv_bipush (v := iI 97) hx hb d_MO_plainly_376 (by decide) ?_
              refine ix_icmp_lt (tgt := 391) hx hb d_MO_plainly_378 (by decide) (by omega) (fun c_378 => ?_) (fun c_378 => ?_)
              · refine lv_iconst (v := iI 0) hx hb d_MO_plainly_391 rfl ?_
                subst hQ
                exact W.zret (v := iI 0) hx hb hr (by decide) (fun t h9 hW => ⟨_, rfl, Or.inr ⟨by first | (exfalso; omega) | (rw [show k = 17 by omega]; simp [plainF] <;> first | assumption | omega | grind), rfl⟩, h9⟩) (fun _ h9 => by cases h9) d_MO_plainly_392
              · refine lv_iload_n hx hb d_MO_plainly_381 rfl (lv_at hl 3 rfl) ?_
                refine lv_bipush (v := iI 102) hx hb d_MO_plainly_382 (by decide) ?_
                refine ix_icmp_gt (tgt := 391) hx hb d_MO_plainly_384 (by decide) (by omega) (fun c_384 => ?_) (fun c_384 => ?_)
                · refine lv_iconst (v := iI 0) hx hb d_MO_plainly_391 rfl ?_
                  subst hQ
                  exact W.zret (v := iI 0) hx hb hr (by decide) (fun t h9 hW => ⟨_, rfl, Or.inr ⟨by first | (exfalso; omega) | (rw [show k = 17 by omega]; simp [plainF] <;> first | assumption | omega | grind), rfl⟩, h9⟩) (fun _ h9 => by cases h9) d_MO_plainly_392
                · refine lv_iconst (v := iI 1) hx hb d_MO_plainly_387 rfl ?_
                  refine lv_goto (tgt := 392) hx hb d_MO_plainly_388 (by decide) ?_
                  subst hQ
                  exact W.zret (v := iI 1) hx hb hr (by decide) (fun t h9 hW => ⟨_, rfl, Or.inl ⟨by first | (exfalso; omega) | (rw [show k = 17 by omega]; simp [plainF] <;> first | assumption | omega | grind), rfl⟩, h9⟩) (fun _ h9 => by cases h9) d_MO_plainly_392
            · refine lv_iload_n hx hb d_MO_plainly_369 rfl (lv_at hl 3 rfl) ?_
              refine lv_bipush (v := iI 70) hx hb d_MO_plainly_370 (by decide) ?_
              refine ix_icmp_le (tgt := 387) hx hb d_MO_plainly_372 (by decide) (by omega) (fun c_372 => ?_) (fun c_372 => ?_)
              · refine lv_iconst (v := iI 1) hx hb d_MO_plainly_387 rfl ?_
                refine lv_goto (tgt := 392) hx hb d_MO_plainly_388 (by decide) ?_
                subst hQ
                exact W.zret (v := iI 1) hx hb hr (by decide) (fun t h9 hW => ⟨_, rfl, Or.inl ⟨by first | (exfalso; omega) | (rw [show k = 17 by omega]; simp [plainF] <;> first | assumption | omega | grind), rfl⟩, h9⟩) (fun _ h9 => by cases h9) d_MO_plainly_392
              · refine lv_iload_n hx hb d_MO_plainly_375 rfl (lv_at hl 3 rfl) ?_
                refine lv_bipush (v := iI 97) hx hb d_MO_plainly_376 (by decide) ?_
                refine ix_icmp_lt (tgt := 391) hx hb d_MO_plainly_378 (by decide) (by omega) (fun c_378 => ?_) (fun c_378 => ?_)
                · refine lv_iconst (v := iI 0) hx hb d_MO_plainly_391 rfl ?_
                  subst hQ
                  exact W.zret (v := iI 0) hx hb hr (by decide) (fun t h9 hW => ⟨_, rfl, Or.inr ⟨by first | (exfalso; omega) | (rw [show k = 17 by omega]; simp [plainF] <;> first | assumption | omega | grind), rfl⟩, h9⟩) (fun _ h9 => by cases h9) d_MO_plainly_392
                · refine lv_iload_n hx hb d_MO_plainly_381 rfl (lv_at hl 3 rfl) ?_
                  refine lv_bipush (v := iI 102) hx hb d_MO_plainly_382 (by decide) ?_
                  refine ix_icmp_gt (tgt := 391) hx hb d_MO_plainly_384 (by decide) (by omega) (fun c_384 => ?_) (fun c_384 => ?_)
                  · refine lv_iconst (v := iI 0) hx hb d_MO_plainly_391 rfl ?_
                    subst hQ
                    exact W.zret (v := iI 0) hx hb hr (by decide) (fun t h9 hW => ⟨_, rfl, Or.inr ⟨by first | (exfalso; omega) | (rw [show k = 17 by omega]; simp [plainF] <;> first | assumption | omega | grind), rfl⟩, h9⟩) (fun _ h9 => by cases h9) d_MO_plainly_392
                  · refine lv_iconst (v := iI 1) hx hb d_MO_plainly_387 rfl ?_
                    refine lv_goto (tgt := 392) hx hb d_MO_plainly_388 (by decide) ?_
                    subst hQ
                    exact W.zret (v := iI 1) hx hb hr (by decide) (fun t h9 hW => ⟨_, rfl, Or.inl ⟨by first | (exfalso; omega) | (rw [show k = 17 by omega]; simp [plainF] <;> first | assumption | omega | grind), rfl⟩, h9⟩) (fun _ h9 => by cases h9) d_MO_plainly_392
      · refine ix_tableO (tgt := 393) hx hb d_MO_plainly_19 (by omega) c_19 (by decide) ?_
        refine lv_iload_n hx hb d_MO_plainly_393 rfl (lv_at hl 3 rfl) ?_
        refine lv_sipush (v := iI 128) hx hb d_MO_plainly_394 (by decide) ?_
        refine ix_icmp_ge (tgt := 404) hx hb d_MO_plainly_397 (by decide) (by omega) (fun c_397 => ?_) (fun c_397 => ?_)
        · refine lv_iconst (v := iI 0) hx hb d_MO_plainly_404 rfl ?_
          subst hQ
          exact W.zret (v := iI 0) hx hb hr (by decide) (fun t h9 hW => ⟨_, rfl, Or.inr ⟨by first | (exfalso; omega) | (rw [show k = 18 by omega]; simp [plainF] <;> first | assumption | omega | grind), rfl⟩, h9⟩) (fun _ h9 => by cases h9) d_MO_plainly_405
        · refine lv_iconst (v := iI 1) hx hb d_MO_plainly_400 rfl ?_
          refine lv_goto (tgt := 405) hx hb d_MO_plainly_401 (by decide) ?_
          subst hQ
          exact W.zret (v := iI 1) hx hb hr (by decide) (fun t h9 hW => ⟨_, rfl, Or.inl ⟨by first | (exfalso; omega) | (rw [show k = 18 by omega]; simp [plainF] <;> first | assumption | omega | grind), rfl⟩, h9⟩) (fun _ h9 => by cases h9) d_MO_plainly_405
