set_option maxHeartbeats 4000000 in
set_option maxRecDepth 100000 in
theorem c_MO_script (l : Launch) (g : zG) (r : Nat → Nat) (ut uc la wo : Int) (bw : Nat → Nat) (mt : Nat → Int) (ms : Int) (c : Int) (hc : 0 ≤ c ∧ c ≤ 1114111) : Met l y_MO_script w_MO_script (zr 1 21) (zP g [.ref (r 0), .int (iI c)] [(r 0, .inr (4, [.int (iI ut), .int (iI uc), .int (iI la), .int (iI wo), .ref (r 1), .ref (r 2), .ref (r 3), .int (iI ms), .ref (r 4)])), (r 1, .inl (zJ g, 139264, .inr (.inl (lA bw)))), (r 2, .inl (zBt g, 12544, .inl (ai kF))), (r 3, .inl (zI g, 4, .inl (ai mt))), (r 4, .inl (zI g, 14, .inl (ai PT)))]) (vp_Si (fun z => z = iI (scrF c))) 0 0 (fun _ => False) := by
  refine Met.ofW (cc := b_MO_script) (maxL := 3) (ret := (some .int)) (by decide) rfl ?_
  intro p e s m args below meth cd s₁ B hml hv
  obtain ⟨hargs, hP, hK, hZ⟩ := hv
  have hx := B.exec
  have hb := B.bytes
  have hr := B.returns
  have ht : ∀ w ∈ lw_ok, w.before args s = true := fun w h => atoms_spec (ws := w_MO_script) B.pre w (List.mem_cons_of_mem _ h)
  have hown : s.vm.findClass R_MO = some m.cls := findClass_of_methodNamed B.named
  have hlocks := B.notSynchronized
  have hS : va_S (fun _ => False) s.heap s.heap [] := va_S.rf
  generalize hQ : MQ below _ args s 0 0 _ = Q
  have hl := lv_entry ([.ref (r 0), .int (iI c)]) (n := 3) (Nat.le_of_ble_eq_true rfl)
  rw [show entryFrame m args 3 = entryFrame m ([.ref (r 0), .int (iI c)] : List Value).toArray 3 by rw [hargs], lg_entry_eq]
  generalize (lg_sl ([.ref (r 0), .int (iI c)]) ++ List.replicate (3 - (lg_sl ([.ref (r 0), .int (iI c)])).length) Slot.unset).toArray = ls at hl ⊢
  have hl : lv_has ls 3 [(0, .ref (r 0)), (1, .int (iI c))] := hl
  have hq := catF_bd c (by omega)
  have J202 : ∀ (ls : Array Slot), lv_has ls 3 [(0, .ref (r 0)), (1, .int (iI c)), (2, .int (iI (catF c)))] → (¬ (catF c = 0 ∨ catF c = 3)) → (¬ (c = 170 ∨ c = 186 ∨ c = 8490 ∨ c = 8491 ∨ (c < 384 ∧ c ≠ 181 ∧ (catF c = 4 ∨ catF c = 6)))) → (¬ (913 ≤ c ∧ c ≤ 969)) → (¬ (1024 ≤ c ∧ c ≤ 1119)) → (¬ (1488 ≤ c ∧ c ≤ 1514)) → (¬ (1568 ≤ c ∧ c ≤ 1610)) → (¬ (12353 ≤ c ∧ c ≤ 12438)) → (¬ (12449 ≤ c ∧ c ≤ 12538)) → (¬ (19968 ≤ c ∧ c ≤ 40959)) → (¬ (44032 ≤ c ∧ c ≤ 55203)) → W p l e (headSpec w_MO_script (zr 1 21)).room s m args below meth cd s.heap [] 0 0 Q (F0 m 202 ls []) := by
    intro  ls hl g0 g1 g2 g3 g4 g5 g6 g7 g8 g9
    refine lv_iload_n hx hb d_MO_script_202 rfl (lv_at hl 1 rfl) ?_
    refine lv_sipush (v := iI 768) hx hb d_MO_script_203 (by decide) ?_
    refine ix_icmp_lt (tgt := 216) hx hb d_MO_script_206 (by decide) (by omega) (fun c_206 => ?_) (fun c_206 => ?_)
    · refine lv_iload_n hx hb d_MO_script_216 rfl (lv_at hl 1 rfl) ?_
      refine lv_ldc (v := iI 65039) hx hb hown (ht _ k_390) d_MO_script_217 ?_
      refine ix_icmp_ne (tgt := 227) hx hb d_MO_script_219 (by decide) (by omega) (fun c_219 => ?_) (fun c_219 => ?_)
      · refine lv_iconst (v := iI 1) hx hb d_MO_script_227 rfl ?_
        subst hQ
        exact W.iret (v := iI 1) hx hb hr (fun t h9 hW => ⟨_, rfl, by first | (exfalso; omega) | (unfold scrF scrG; repeat (first | rw [if_pos (by omega)] | rw [if_neg (by omega)])), h9⟩) (fun _ h9 => by cases h9) d_MO_script_228
      · refine lv_bipush (v := iI 11) hx hb d_MO_script_222 (by decide) ?_
        refine lv_goto (tgt := 228) hx hb d_MO_script_224 (by decide) ?_
        subst hQ
        exact W.iret (v := iI 11) hx hb hr (fun t h9 hW => ⟨_, rfl, by first | (exfalso; omega) | (unfold scrF scrG; repeat (first | rw [if_pos (by omega)] | rw [if_neg (by omega)])), h9⟩) (fun _ h9 => by cases h9) d_MO_script_228
    · refine lv_iload_n hx hb d_MO_script_209 rfl (lv_at hl 1 rfl) ?_
      refine lv_sipush (v := iI 879) hx hb d_MO_script_210 (by decide) ?_
      refine ix_icmp_le (tgt := 222) hx hb d_MO_script_213 (by decide) (by omega) (fun c_213 => ?_) (fun c_213 => ?_)
      · refine lv_bipush (v := iI 11) hx hb d_MO_script_222 (by decide) ?_
        refine lv_goto (tgt := 228) hx hb d_MO_script_224 (by decide) ?_
        subst hQ
        exact W.iret (v := iI 11) hx hb hr (fun t h9 hW => ⟨_, rfl, by first | (exfalso; omega) | (unfold scrF scrG; repeat (first | rw [if_pos (by omega)] | rw [if_neg (by omega)])), h9⟩) (fun _ h9 => by cases h9) d_MO_script_228
      · refine lv_iload_n hx hb d_MO_script_216 rfl (lv_at hl 1 rfl) ?_
        refine lv_ldc (v := iI 65039) hx hb hown (ht _ k_390) d_MO_script_217 ?_
        refine ix_icmp_ne (tgt := 227) hx hb d_MO_script_219 (by decide) (by omega) (fun c_219 => ?_) (fun c_219 => ?_)
        · refine lv_iconst (v := iI 1) hx hb d_MO_script_227 rfl ?_
          subst hQ
          exact W.iret (v := iI 1) hx hb hr (fun t h9 hW => ⟨_, rfl, by first | (exfalso; omega) | (unfold scrF scrG; repeat (first | rw [if_pos (by omega)] | rw [if_neg (by omega)])), h9⟩) (fun _ h9 => by cases h9) d_MO_script_228
        · refine lv_bipush (v := iI 11) hx hb d_MO_script_222 (by decide) ?_
          refine lv_goto (tgt := 228) hx hb d_MO_script_224 (by decide) ?_
          subst hQ
          exact W.iret (v := iI 11) hx hb hr (fun t h9 hW => ⟨_, rfl, by first | (exfalso; omega) | (unfold scrF scrG; repeat (first | rw [if_pos (by omega)] | rw [if_neg (by omega)])), h9⟩) (fun _ h9 => by cases h9) d_MO_script_228
  have J187 : ∀ (ls : Array Slot), lv_has ls 3 [(0, .ref (r 0)), (1, .int (iI c)), (2, .int (iI (catF c)))] → (¬ (catF c = 0 ∨ catF c = 3)) → (¬ (c = 170 ∨ c = 186 ∨ c = 8490 ∨ c = 8491 ∨ (c < 384 ∧ c ≠ 181 ∧ (catF c = 4 ∨ catF c = 6)))) → (¬ (913 ≤ c ∧ c ≤ 969)) → (¬ (1024 ≤ c ∧ c ≤ 1119)) → (¬ (1488 ≤ c ∧ c ≤ 1514)) → (¬ (1568 ≤ c ∧ c ≤ 1610)) → (¬ (12353 ≤ c ∧ c ≤ 12438)) → (¬ (12449 ≤ c ∧ c ≤ 12538)) → (¬ (19968 ≤ c ∧ c ≤ 40959)) → W p l e (headSpec w_MO_script (zr 1 21)).room s m args below meth cd s.heap [] 0 0 Q (F0 m 187 ls []) := by
    intro  ls hl g0 g1 g2 g3 g4 g5 g6 g7 g8
    refine lv_iload_n hx hb d_MO_script_187 rfl (lv_at hl 1 rfl) ?_
    refine lv_ldc (v := iI 44032) hx hb hown (ht _ k_386) d_MO_script_188 ?_
    refine ix_icmp_lt (tgt := 202) hx hb d_MO_script_190 (by decide) (by omega) (fun c_190 => ?_) (fun c_190 => ?_)
    · exact J202  ls (lv_sub hl [0, 1, 2] rfl) (by omega) (by omega) (by omega) (by omega) (by omega) (by omega) (by omega) (by omega) (by omega) (by omega)
    · refine lv_iload_n hx hb d_MO_script_193 rfl (lv_at hl 1 rfl) ?_
      refine lv_ldc (v := iI 55203) hx hb hown (ht _ k_494) d_MO_script_194 ?_
      refine ix_icmp_gt (tgt := 202) hx hb d_MO_script_196 (by decide) (by omega) (fun c_196 => ?_) (fun c_196 => ?_)
      · exact J202  ls (lv_sub hl [0, 1, 2] rfl) (by omega) (by omega) (by omega) (by omega) (by omega) (by omega) (by omega) (by omega) (by omega) (by omega)
      · refine lv_bipush (v := iI 10) hx hb d_MO_script_199 (by decide) ?_
        subst hQ
        exact W.iret (v := iI 10) hx hb hr (fun t h9 hW => ⟨_, rfl, by first | (exfalso; omega) | (unfold scrF scrG; repeat (first | rw [if_pos (by omega)] | rw [if_neg (by omega)])), h9⟩) (fun _ h9 => by cases h9) d_MO_script_201
  have J171 : ∀ (ls : Array Slot), lv_has ls 3 [(0, .ref (r 0)), (1, .int (iI c)), (2, .int (iI (catF c)))] → (¬ (catF c = 0 ∨ catF c = 3)) → (¬ (c = 170 ∨ c = 186 ∨ c = 8490 ∨ c = 8491 ∨ (c < 384 ∧ c ≠ 181 ∧ (catF c = 4 ∨ catF c = 6)))) → (¬ (913 ≤ c ∧ c ≤ 969)) → (¬ (1024 ≤ c ∧ c ≤ 1119)) → (¬ (1488 ≤ c ∧ c ≤ 1514)) → (¬ (1568 ≤ c ∧ c ≤ 1610)) → (¬ (12353 ≤ c ∧ c ≤ 12438)) → (¬ (12449 ≤ c ∧ c ≤ 12538)) → W p l e (headSpec w_MO_script (zr 1 21)).room s m args below meth cd s.heap [] 0 0 Q (F0 m 171 ls []) := by
    intro  ls hl g0 g1 g2 g3 g4 g5 g6 g7
    refine lv_iload_n hx hb d_MO_script_171 rfl (lv_at hl 1 rfl) ?_
    refine lv_sipush (v := iI 19968) hx hb d_MO_script_172 (by decide) ?_
    refine ix_icmp_lt (tgt := 187) hx hb d_MO_script_175 (by decide) (by omega) (fun c_175 => ?_) (fun c_175 => ?_)
    · exact J187  ls (lv_sub hl [0, 1, 2] rfl) (by omega) (by omega) (by omega) (by omega) (by omega) (by omega) (by omega) (by omega) (by omega)
    · refine lv_iload_n hx hb d_MO_script_178 rfl (lv_at hl 1 rfl) ?_
      refine lv_ldc (v := iI 40959) hx hb hown (ht _ k_493) d_MO_script_179 ?_
      refine ix_icmp_gt (tgt := 187) hx hb d_MO_script_181 (by decide) (by omega) (fun c_181 => ?_) (fun c_181 => ?_)
      · exact J187  ls (lv_sub hl [0, 1, 2] rfl) (by omega) (by omega) (by omega) (by omega) (by omega) (by omega) (by omega) (by omega) (by omega)
      · refine lv_bipush (v := iI 9) hx hb d_MO_script_184 (by decide) ?_
        subst hQ
        exact W.iret (v := iI 9) hx hb hr (fun t h9 hW => ⟨_, rfl, by first | (exfalso; omega) | (unfold scrF scrG; repeat (first | rw [if_pos (by omega)] | rw [if_neg (by omega)])), h9⟩) (fun _ h9 => by cases h9) d_MO_script_186
  have J154 : ∀ (ls : Array Slot), lv_has ls 3 [(0, .ref (r 0)), (1, .int (iI c)), (2, .int (iI (catF c)))] → (¬ (catF c = 0 ∨ catF c = 3)) → (¬ (c = 170 ∨ c = 186 ∨ c = 8490 ∨ c = 8491 ∨ (c < 384 ∧ c ≠ 181 ∧ (catF c = 4 ∨ catF c = 6)))) → (¬ (913 ≤ c ∧ c ≤ 969)) → (¬ (1024 ≤ c ∧ c ≤ 1119)) → (¬ (1488 ≤ c ∧ c ≤ 1514)) → (¬ (1568 ≤ c ∧ c ≤ 1610)) → (¬ (12353 ≤ c ∧ c ≤ 12438)) → W p l e (headSpec w_MO_script (zr 1 21)).room s m args below meth cd s.heap [] 0 0 Q (F0 m 154 ls []) := by
    intro  ls hl g0 g1 g2 g3 g4 g5 g6
    refine lv_iload_n hx hb d_MO_script_154 rfl (lv_at hl 1 rfl) ?_
    refine lv_sipush (v := iI 12449) hx hb d_MO_script_155 (by decide) ?_
    refine ix_icmp_lt (tgt := 171) hx hb d_MO_script_158 (by decide) (by omega) (fun c_158 => ?_) (fun c_158 => ?_)
    · exact J171  ls (lv_sub hl [0, 1, 2] rfl) (by omega) (by omega) (by omega) (by omega) (by omega) (by omega) (by omega) (by omega)
    · refine lv_iload_n hx hb d_MO_script_161 rfl (lv_at hl 1 rfl) ?_
      refine lv_sipush (v := iI 12538) hx hb d_MO_script_162 (by decide) ?_
      refine ix_icmp_gt (tgt := 171) hx hb d_MO_script_165 (by decide) (by omega) (fun c_165 => ?_) (fun c_165 => ?_)
      · exact J171  ls (lv_sub hl [0, 1, 2] rfl) (by omega) (by omega) (by omega) (by omega) (by omega) (by omega) (by omega) (by omega)
      · refine lv_bipush (v := iI 8) hx hb d_MO_script_168 (by decide) ?_
        subst hQ
        exact W.iret (v := iI 8) hx hb hr (fun t h9 hW => ⟨_, rfl, by first | (exfalso; omega) | (unfold scrF scrG; repeat (first | rw [if_pos (by omega)] | rw [if_neg (by omega)])), h9⟩) (fun _ h9 => by cases h9) d_MO_script_170
  have J137 : ∀ (ls : Array Slot), lv_has ls 3 [(0, .ref (r 0)), (1, .int (iI c)), (2, .int (iI (catF c)))] → (¬ (catF c = 0 ∨ catF c = 3)) → (¬ (c = 170 ∨ c = 186 ∨ c = 8490 ∨ c = 8491 ∨ (c < 384 ∧ c ≠ 181 ∧ (catF c = 4 ∨ catF c = 6)))) → (¬ (913 ≤ c ∧ c ≤ 969)) → (¬ (1024 ≤ c ∧ c ≤ 1119)) → (¬ (1488 ≤ c ∧ c ≤ 1514)) → (¬ (1568 ≤ c ∧ c ≤ 1610)) → W p l e (headSpec w_MO_script (zr 1 21)).room s m args below meth cd s.heap [] 0 0 Q (F0 m 137 ls []) := by
    intro  ls hl g0 g1 g2 g3 g4 g5
    refine lv_iload_n hx hb d_MO_script_137 rfl (lv_at hl 1 rfl) ?_
    refine lv_sipush (v := iI 12353) hx hb d_MO_script_138 (by decide) ?_
    refine ix_icmp_lt (tgt := 154) hx hb d_MO_script_141 (by decide) (by omega) (fun c_141 => ?_) (fun c_141 => ?_)
    · exact J154  ls (lv_sub hl [0, 1, 2] rfl) (by omega) (by omega) (by omega) (by omega) (by omega) (by omega) (by omega)
    · refine lv_iload_n hx hb d_MO_script_144 rfl (lv_at hl 1 rfl) ?_
      refine lv_sipush (v := iI 12438) hx hb d_MO_script_145 (by decide) ?_
      refine ix_icmp_gt (tgt := 154) hx hb d_MO_script_148 (by decide) (by omega) (fun c_148 => ?_) (fun c_148 => ?_)
      · exact J154  ls (lv_sub hl [0, 1, 2] rfl) (by omega) (by omega) (by omega) (by omega) (by omega) (by omega) (by omega)
      · refine lv_bipush (v := iI 7) hx hb d_MO_script_151 (by decide) ?_
        subst hQ
        exact W.iret (v := iI 7) hx hb hr (fun t h9 hW => ⟨_, rfl, by first | (exfalso; omega) | (unfold scrF scrG; repeat (first | rw [if_pos (by omega)] | rw [if_neg (by omega)])), h9⟩) (fun _ h9 => by cases h9) d_MO_script_153
  have J120 : ∀ (ls : Array Slot), lv_has ls 3 [(0, .ref (r 0)), (1, .int (iI c)), (2, .int (iI (catF c)))] → (¬ (catF c = 0 ∨ catF c = 3)) → (¬ (c = 170 ∨ c = 186 ∨ c = 8490 ∨ c = 8491 ∨ (c < 384 ∧ c ≠ 181 ∧ (catF c = 4 ∨ catF c = 6)))) → (¬ (913 ≤ c ∧ c ≤ 969)) → (¬ (1024 ≤ c ∧ c ≤ 1119)) → (¬ (1488 ≤ c ∧ c ≤ 1514)) → W p l e (headSpec w_MO_script (zr 1 21)).room s m args below meth cd s.heap [] 0 0 Q (F0 m 120 ls []) := by
    intro  ls hl g0 g1 g2 g3 g4
    refine lv_iload_n hx hb d_MO_script_120 rfl (lv_at hl 1 rfl) ?_
    refine lv_sipush (v := iI 1568) hx hb d_MO_script_121 (by decide) ?_
    refine ix_icmp_lt (tgt := 137) hx hb d_MO_script_124 (by decide) (by omega) (fun c_124 => ?_) (fun c_124 => ?_)
    · exact J137  ls (lv_sub hl [0, 1, 2] rfl) (by omega) (by omega) (by omega) (by omega) (by omega) (by omega)
    · refine lv_iload_n hx hb d_MO_script_127 rfl (lv_at hl 1 rfl) ?_
      refine lv_sipush (v := iI 1610) hx hb d_MO_script_128 (by decide) ?_
      refine ix_icmp_gt (tgt := 137) hx hb d_MO_script_131 (by decide) (by omega) (fun c_131 => ?_) (fun c_131 => ?_)
      · exact J137  ls (lv_sub hl [0, 1, 2] rfl) (by omega) (by omega) (by omega) (by omega) (by omega) (by omega)
      · refine lv_bipush (v := iI 6) hx hb d_MO_script_134 (by decide) ?_
        subst hQ
        exact W.iret (v := iI 6) hx hb hr (fun t h9 hW => ⟨_, rfl, by first | (exfalso; omega) | (unfold scrF scrG; repeat (first | rw [if_pos (by omega)] | rw [if_neg (by omega)])), h9⟩) (fun _ h9 => by cases h9) d_MO_script_136
  have J104 : ∀ (ls : Array Slot), lv_has ls 3 [(0, .ref (r 0)), (1, .int (iI c)), (2, .int (iI (catF c)))] → (¬ (catF c = 0 ∨ catF c = 3)) → (¬ (c = 170 ∨ c = 186 ∨ c = 8490 ∨ c = 8491 ∨ (c < 384 ∧ c ≠ 181 ∧ (catF c = 4 ∨ catF c = 6)))) → (¬ (913 ≤ c ∧ c ≤ 969)) → (¬ (1024 ≤ c ∧ c ≤ 1119)) → W p l e (headSpec w_MO_script (zr 1 21)).room s m args below meth cd s.heap [] 0 0 Q (F0 m 104 ls []) := by
    intro  ls hl g0 g1 g2 g3
    refine lv_iload_n hx hb d_MO_script_104 rfl (lv_at hl 1 rfl) ?_
    refine lv_sipush (v := iI 1488) hx hb d_MO_script_105 (by decide) ?_
    refine ix_icmp_lt (tgt := 120) hx hb d_MO_script_108 (by decide) (by omega) (fun c_108 => ?_) (fun c_108 => ?_)
    · exact J120  ls (lv_sub hl [0, 1, 2] rfl) (by omega) (by omega) (by omega) (by omega) (by omega)
    · refine lv_iload_n hx hb d_MO_script_111 rfl (lv_at hl 1 rfl) ?_
      refine lv_sipush (v := iI 1514) hx hb d_MO_script_112 (by decide) ?_
      refine ix_icmp_gt (tgt := 120) hx hb d_MO_script_115 (by decide) (by omega) (fun c_115 => ?_) (fun c_115 => ?_)
      · exact J120  ls (lv_sub hl [0, 1, 2] rfl) (by omega) (by omega) (by omega) (by omega) (by omega)
      · refine lv_iconst (v := iI 5) hx hb d_MO_script_118 rfl ?_
        subst hQ
        exact W.iret (v := iI 5) hx hb hr (fun t h9 hW => ⟨_, rfl, by first | (exfalso; omega) | (unfold scrF scrG; repeat (first | rw [if_pos (by omega)] | rw [if_neg (by omega)])), h9⟩) (fun _ h9 => by cases h9) d_MO_script_119
  have J88 : ∀ (ls : Array Slot), lv_has ls 3 [(0, .ref (r 0)), (1, .int (iI c)), (2, .int (iI (catF c)))] → (¬ (catF c = 0 ∨ catF c = 3)) → (¬ (c = 170 ∨ c = 186 ∨ c = 8490 ∨ c = 8491 ∨ (c < 384 ∧ c ≠ 181 ∧ (catF c = 4 ∨ catF c = 6)))) → (¬ (913 ≤ c ∧ c ≤ 969)) → W p l e (headSpec w_MO_script (zr 1 21)).room s m args below meth cd s.heap [] 0 0 Q (F0 m 88 ls []) := by
    intro  ls hl g0 g1 g2
    refine lv_iload_n hx hb d_MO_script_88 rfl (lv_at hl 1 rfl) ?_
    refine lv_sipush (v := iI 1024) hx hb d_MO_script_89 (by decide) ?_
    refine ix_icmp_lt (tgt := 104) hx hb d_MO_script_92 (by decide) (by omega) (fun c_92 => ?_) (fun c_92 => ?_)
    · exact J104  ls (lv_sub hl [0, 1, 2] rfl) (by omega) (by omega) (by omega) (by omega)
    · refine lv_iload_n hx hb d_MO_script_95 rfl (lv_at hl 1 rfl) ?_
      refine lv_sipush (v := iI 1119) hx hb d_MO_script_96 (by decide) ?_
      refine ix_icmp_gt (tgt := 104) hx hb d_MO_script_99 (by decide) (by omega) (fun c_99 => ?_) (fun c_99 => ?_)
      · exact J104  ls (lv_sub hl [0, 1, 2] rfl) (by omega) (by omega) (by omega) (by omega)
      · refine lv_iconst (v := iI 4) hx hb d_MO_script_102 rfl ?_
        subst hQ
        exact W.iret (v := iI 4) hx hb hr (fun t h9 hW => ⟨_, rfl, by first | (exfalso; omega) | (unfold scrF scrG; repeat (first | rw [if_pos (by omega)] | rw [if_neg (by omega)])), h9⟩) (fun _ h9 => by cases h9) d_MO_script_103
  have J72 : ∀ (ls : Array Slot), lv_has ls 3 [(0, .ref (r 0)), (1, .int (iI c)), (2, .int (iI (catF c)))] → (¬ (catF c = 0 ∨ catF c = 3)) → (¬ (c = 170 ∨ c = 186 ∨ c = 8490 ∨ c = 8491 ∨ (c < 384 ∧ c ≠ 181 ∧ (catF c = 4 ∨ catF c = 6)))) → W p l e (headSpec w_MO_script (zr 1 21)).room s m args below meth cd s.heap [] 0 0 Q (F0 m 72 ls []) := by
    intro  ls hl g0 g1
    refine lv_iload_n hx hb d_MO_script_72 rfl (lv_at hl 1 rfl) ?_
    refine lv_sipush (v := iI 913) hx hb d_MO_script_73 (by decide) ?_
    refine ix_icmp_lt (tgt := 88) hx hb d_MO_script_76 (by decide) (by omega) (fun c_76 => ?_) (fun c_76 => ?_)
    · exact J88  ls (lv_sub hl [0, 1, 2] rfl) (by omega) (by omega) (by omega)
    · refine lv_iload_n hx hb d_MO_script_79 rfl (lv_at hl 1 rfl) ?_
      refine lv_sipush (v := iI 969) hx hb d_MO_script_80 (by decide) ?_
      refine ix_icmp_gt (tgt := 88) hx hb d_MO_script_83 (by decide) (by omega) (fun c_83 => ?_) (fun c_83 => ?_)
      · exact J88  ls (lv_sub hl [0, 1, 2] rfl) (by omega) (by omega) (by omega)
      · refine lv_iconst (v := iI 3) hx hb d_MO_script_86 rfl ?_
        subst hQ
        exact W.iret (v := iI 3) hx hb hr (fun t h9 hW => ⟨_, rfl, by first | (exfalso; omega) | (unfold scrF scrG; repeat (first | rw [if_pos (by omega)] | rw [if_neg (by omega)])), h9⟩) (fun _ h9 => by cases h9) d_MO_script_87
  have J17 : ∀ (ls : Array Slot), lv_has ls 3 [(0, .ref (r 0)), (1, .int (iI c)), (2, .int (iI (catF c)))] → (¬ (catF c = 0 ∨ catF c = 3)) → W p l e (headSpec w_MO_script (zr 1 21)).room s m args below meth cd s.heap [] 0 0 Q (F0 m 17 ls []) := by
    intro  ls hl g0
    refine lv_iload_n hx hb d_MO_script_17 rfl (lv_at hl 1 rfl) ?_
    refine lv_sipush (v := iI 170) hx hb d_MO_script_18 (by decide) ?_
    refine ix_icmp_eq (tgt := 70) hx hb d_MO_script_21 (by decide) (by omega) (fun c_21 => ?_) (fun c_21 => ?_)
    · refine lv_iconst (v := iI 2) hx hb d_MO_script_70 rfl ?_
      subst hQ
      exact W.iret (v := iI 2) hx hb hr (fun t h9 hW => ⟨_, rfl, by first | (exfalso; omega) | (unfold scrF scrG; repeat (first | rw [if_pos (by omega)] | rw [if_neg (by omega)])), h9⟩) (fun _ h9 => by cases h9) d_MO_script_71
    · refine lv_iload_n hx hb d_MO_script_24 rfl (lv_at hl 1 rfl) ?_
      refine lv_sipush (v := iI 186) hx hb d_MO_script_25 (by decide) ?_
      refine ix_icmp_eq (tgt := 70) hx hb d_MO_script_28 (by decide) (by omega) (fun c_28 => ?_) (fun c_28 => ?_)
      · refine lv_iconst (v := iI 2) hx hb d_MO_script_70 rfl ?_
        subst hQ
        exact W.iret (v := iI 2) hx hb hr (fun t h9 hW => ⟨_, rfl, by first | (exfalso; omega) | (unfold scrF scrG; repeat (first | rw [if_pos (by omega)] | rw [if_neg (by omega)])), h9⟩) (fun _ h9 => by cases h9) d_MO_script_71
      · refine lv_iload_n hx hb d_MO_script_31 rfl (lv_at hl 1 rfl) ?_
        refine lv_sipush (v := iI 8490) hx hb d_MO_script_32 (by decide) ?_
        refine ix_icmp_eq (tgt := 70) hx hb d_MO_script_35 (by decide) (by omega) (fun c_35 => ?_) (fun c_35 => ?_)
        · refine lv_iconst (v := iI 2) hx hb d_MO_script_70 rfl ?_
          subst hQ
          exact W.iret (v := iI 2) hx hb hr (fun t h9 hW => ⟨_, rfl, by first | (exfalso; omega) | (unfold scrF scrG; repeat (first | rw [if_pos (by omega)] | rw [if_neg (by omega)])), h9⟩) (fun _ h9 => by cases h9) d_MO_script_71
        · refine lv_iload_n hx hb d_MO_script_38 rfl (lv_at hl 1 rfl) ?_
          refine lv_sipush (v := iI 8491) hx hb d_MO_script_39 (by decide) ?_
          refine ix_icmp_eq (tgt := 70) hx hb d_MO_script_42 (by decide) (by omega) (fun c_42 => ?_) (fun c_42 => ?_)
          · refine lv_iconst (v := iI 2) hx hb d_MO_script_70 rfl ?_
            subst hQ
            exact W.iret (v := iI 2) hx hb hr (fun t h9 hW => ⟨_, rfl, by first | (exfalso; omega) | (unfold scrF scrG; repeat (first | rw [if_pos (by omega)] | rw [if_neg (by omega)])), h9⟩) (fun _ h9 => by cases h9) d_MO_script_71
          · refine lv_iload_n hx hb d_MO_script_45 rfl (lv_at hl 1 rfl) ?_
            refine lv_sipush (v := iI 384) hx hb d_MO_script_46 (by decide) ?_
            refine ix_icmp_ge (tgt := 72) hx hb d_MO_script_49 (by decide) (by omega) (fun c_49 => ?_) (fun c_49 => ?_)
            · exact J72  ls (lv_sub hl [0, 1, 2] rfl) (by omega) (by omega)
            · refine lv_iload_n hx hb d_MO_script_52 rfl (lv_at hl 1 rfl) ?_
              refine lv_sipush (v := iI 181) hx hb d_MO_script_53 (by decide) ?_
              refine ix_icmp_eq (tgt := 72) hx hb d_MO_script_56 (by decide) (by omega) (fun c_56 => ?_) (fun c_56 => ?_)
              · exact J72  ls (lv_sub hl [0, 1, 2] rfl) (by omega) (by omega)
              · refine lv_iload_n hx hb d_MO_script_59 rfl (lv_at hl 2 rfl) ?_
                refine lv_iconst (v := iI 4) hx hb d_MO_script_60 rfl ?_
                refine ix_icmp_eq (tgt := 70) hx hb d_MO_script_61 (by decide) (by omega) (fun c_61 => ?_) (fun c_61 => ?_)
                · refine lv_iconst (v := iI 2) hx hb d_MO_script_70 rfl ?_
                  subst hQ
                  exact W.iret (v := iI 2) hx hb hr (fun t h9 hW => ⟨_, rfl, by first | (exfalso; omega) | (unfold scrF scrG; repeat (first | rw [if_pos (by omega)] | rw [if_neg (by omega)])), h9⟩) (fun _ h9 => by cases h9) d_MO_script_71
                · refine lv_iload_n hx hb d_MO_script_64 rfl (lv_at hl 2 rfl) ?_
                  refine lv_bipush (v := iI 6) hx hb d_MO_script_65 (by decide) ?_
                  refine ix_icmp_ne (tgt := 72) hx hb d_MO_script_67 (by decide) (by omega) (fun c_67 => ?_) (fun c_67 => ?_)
                  · exact J72  ls (lv_sub hl [0, 1, 2] rfl) (by omega) (by omega)
                  · refine lv_iconst (v := iI 2) hx hb d_MO_script_70 rfl ?_
                    subst hQ
                    exact W.iret (v := iI 2) hx hb hr (fun t h9 hW => ⟨_, rfl, by first | (exfalso; omega) | (unfold scrF scrG; repeat (first | rw [if_pos (by omega)] | rw [if_neg (by omega)])), h9⟩) (fun _ h9 => by cases h9) d_MO_script_71
  refine lv_aload_n hx hb d_MO_script_0 rfl (lv_at hl 0 rfl) ?_
  refine lv_iload_n hx hb d_MO_script_1 rfl (lv_at hl 1 rfl) ?_
  refine zcV (ci := 4) (q0 := 0) (As := [.int (iI c)]) (rest := []) ⟨hx, hb, hml, hown, ht⟩ v_MO_75 (c_MO_category l g r ut uc la wo bw mt ms c (by omega)) ⟨Nat.le_of_ble_eq_true rfl, Nat.le_of_ble_eq_true rfl⟩ ⟨Nat.zero_le _, Nat.zero_le _⟩ hK hZ hS hP rfl rfl rfl rfl hl.1 rfl (Nat.le_of_ble_eq_true rfl) d_MO_script_2 (fun r_2 h_2 => ?_)
  subst h_2
  have q_2 := catF_bd c (by omega)
  refine lv_istore_n (lv' := [(2, .int (iI (catF c))), (0, .ref (r 0)), (1, .int (iI c))]) hx hb d_MO_script_5 rfl hl (by decide) rfl (fun ls hl => ?_)
  refine lv_iload_n hx hb d_MO_script_6 rfl (lv_at hl 0 rfl) ?_
  refine ix_if_eq (tgt := 15) hx hb d_MO_script_7 (by decide) (by omega) (fun c_7 => ?_) (fun c_7 => ?_)
  · refine lv_iconst (v := iI 0) hx hb d_MO_script_15 rfl ?_
    subst hQ
    exact W.iret (v := iI 0) hx hb hr (fun t h9 hW => ⟨_, rfl, by first | (exfalso; omega) | (unfold scrF scrG; repeat (first | rw [if_pos (by omega)] | rw [if_neg (by omega)])), h9⟩) (fun _ h9 => by cases h9) d_MO_script_16
  · refine lv_iload_n hx hb d_MO_script_10 rfl (lv_at hl 0 rfl) ?_
    refine lv_iconst (v := iI 3) hx hb d_MO_script_11 rfl ?_
    refine ix_icmp_ne (tgt := 17) hx hb d_MO_script_12 (by decide) (by omega) (fun c_12 => ?_) (fun c_12 => ?_)
    · exact J17  ls (lv_sub hl [1, 2, 0] rfl) (by omega)
    · refine lv_iconst (v := iI 0) hx hb d_MO_script_15 rfl ?_
      subst hQ
      exact W.iret (v := iI 0) hx hb hr (fun t h9 hW => ⟨_, rfl, by first | (exfalso; omega) | (unfold scrF scrG; repeat (first | rw [if_pos (by omega)] | rw [if_neg (by omega)])), h9⟩) (fun _ h9 => by cases h9) d_MO_script_16
