set_option maxHeartbeats 4000000 in
set_option maxRecDepth 100000 in
theorem c_MO_caseOf (l : Launch) (g : zG) (sz : Nat) (r : Nat → Nat) (ut uc la wo : Int) (bw : Nat → Nat) (mt : Nat → Int) (ms : Int) (c : Int) (hut : 0 ≤ ut ∧ ut ≤ 1) (huc : 0 ≤ uc ∧ uc ≤ 1) (hla : 0 ≤ la ∧ la ≤ 1114111) (hc : 0 ≤ c ∧ c ≤ 1114111) : Met l y_MO_caseOf w_MO_caseOf { frames := 3, cells := 0, slots := 0, locals := 66 } (zPw g [.ref (r 0), .int (iI c)] [(r 0, .inr (4, [.int (iI ut), .int (iI uc), .int (iI la), .int (iI wo), .ref (r 1), .ref (r 2), .ref (r 3), .int (iI ms), .ref (r 4)])), (r 1, .inl (zJ g, 139264, .inr (.inl (lA bw)))), (r 2, .inl (zBt g, 12544, .inl (ai kF))), (r 3, .inl (zI g, 4, .inl (ai mt))), (r 4, .inl (zI g, 14, .inl (ai PT)))] [] sz) (va_Qv (fun w => ∃ m9 : Nat → Int, w = [(r 0, .inr (4, [.int (iI ut), .int (iI uc), .int (iI la), .int (iI wo), .ref (r 1), .ref (r 2), .ref (r 3), .int (iI ((((kinL ut uc la c).length : Nat) : Int))), .ref (r 4)])), (r 1, .inl (zJ g, 139264, .inr (.inl (lA bw)))), (r 2, .inl (zBt g, 12544, .inl (ai kF))), (r 3, .inl (zI g, 4, .inl (ai m9))), (r 4, .inl (zI g, 14, .inl (ai PT)))] ∧ ∀ i, i < (kinL ut uc la c).length → m9 i = (kinL ut uc la c).getD i 0) (zB g (va_A [(r 0, .inr (4, [.int (iI ut), .int (iI uc), .int (iI la), .int (iI wo), .ref (r 1), .ref (r 2), .ref (r 3), .int (iI ms), .ref (r 4)])), (r 1, .inl (zJ g, 139264, .inr (.inl (lA bw)))), (r 2, .inl (zBt g, 12544, .inl (ai kF))), (r 3, .inl (zI g, 4, .inl (ai mt))), (r 4, .inl (zI g, 14, .inl (ai PT)))] sz)) (va_A [(r 0, .inr (4, [.int (iI ut), .int (iI uc), .int (iI la), .int (iI wo), .ref (r 1), .ref (r 2), .ref (r 3), .int (iI ms), .ref (r 4)])), (r 1, .inl (zJ g, 139264, .inr (.inl (lA bw)))), (r 2, .inl (zBt g, 12544, .inl (ai kF))), (r 3, .inl (zI g, 4, .inl (ai mt))), (r 4, .inl (zI g, 14, .inl (ai PT)))] sz)) 0 0 (va_A [(r 0, .inr (4, [.int (iI ut), .int (iI uc), .int (iI la), .int (iI wo), .ref (r 1), .ref (r 2), .ref (r 3), .int (iI ms), .ref (r 4)])), (r 1, .inl (zJ g, 139264, .inr (.inl (lA bw)))), (r 2, .inl (zBt g, 12544, .inl (ai kF))), (r 3, .inl (zI g, 4, .inl (ai mt))), (r 4, .inl (zI g, 14, .inl (ai PT)))] sz) := by
  refine Met.ofW (cc := b_MO_caseOf) (maxL := 4) (ret := none) (by decide) rfl ?_
  intro p e s m args below meth cd s₁ B hml hv
  obtain ⟨hargs, hsz, hP, hK, hD0, hZ, hO0, hAp⟩ := hv
  have hx := B.exec
  have hb := B.bytes
  have hr := B.returns
  have ht : ∀ w ∈ lw_ok, w.before args s = true := fun w h => atoms_spec (ws := w_MO_caseOf) B.pre w (List.mem_cons_of_mem _ h)
  have hown : s.vm.findClass R_MO = some m.cls := findClass_of_methodNamed B.named
  have hlocks := B.notSynchronized
  subst hsz
  have hD := hD0.self (sz := s.heap.size)
  generalize hAe : va_A [(r 0, .inr (4, [.int (iI ut), .int (iI uc), .int (iI la), .int (iI wo), .ref (r 1), .ref (r 2), .ref (r 3), .int (iI ms), .ref (r 4)])), (r 1, .inl (zJ g, 139264, .inr (.inl (lA bw)))), (r 2, .inl (zBt g, 12544, .inl (ai kF))), (r 3, .inl (zI g, 4, .inl (ai mt))), (r 4, .inl (zI g, 14, .inl (ai PT)))] s.heap.size = A at hD hZ hAp ⊢
  have hA : ∀ q : Nat, s.heap.size ≤ q → A q := fun q h => by rw [← hAe]; exact Or.inr h
  have hS : va_S A s.heap s.heap [] := va_S.rf
  generalize hQ : MQ below _ args s 0 0 _ = Q
  have hl := lv_entry ([.ref (r 0), .int (iI c)]) (n := 4) (Nat.le_of_ble_eq_true rfl)
  rw [show entryFrame m args 4 = entryFrame m ([.ref (r 0), .int (iI c)] : List Value).toArray 4 by rw [hargs], lg_entry_eq]
  generalize (lg_sl ([.ref (r 0), .int (iI c)]) ++ List.replicate (4 - (lg_sl ([.ref (r 0), .int (iI c)])).length) Slot.unset).toArray = ls at hl ⊢
  have hl : lv_has ls 4 [(0, .ref (r 0)), (1, .int (iI c))] := hl
  obtain ⟨H, locs, hHe, hLe⟩ : ∃ (H : Heap) (locs : List Loc), H = s.heap ∧ locs = [] := ⟨_, _, rfl, rfl⟩
  rw [show W p l e _ s m args below meth cd s.heap [] 0 0 Q = W p l e _ s m args below meth cd H locs 0 0 Q by rw [hHe, hLe]]
  rw [← hHe] at hP
  have hS : va_S A s.heap H locs := by rw [hHe, hLe]; exact hS
  have J171 : ∀ (pl a : Int) (m2 : Nat → Int) (L : List Int) (H : Heap) (locs : List Loc) (ls : Array Slot), lv_has ls 4 [(0, .ref (r 0)), (1, .int (iI c)), (2, .int (iI pl)), (3, .int (iI a))] → ((pl = 1 ∧ ut = 0 ∧ uc = 0) ∨ (pl = 0 ∧ ¬ (ut = 0 ∧ uc = 0))) → (a = aF c) → (0 ≤ a ∧ a ≤ 1114111) → (∀ i, i < L.length → m2 i = L.getD i 0) → (L.length ≤ 2 ∨ (L.length ≤ 3 ∧ (a = 83 ∨ a = 75 ∨ a = 197 ∨ a = 924))) → (kinL ut uc la c = t5 la a L) → va_P g.1 classes [(r 0, .inr (4, [.int (iI ut), .int (iI uc), .int (iI la), .int (iI wo), .ref (r 1), .ref (r 2), .ref (r 3), .int (iI (((L.length : Nat) : Int))), .ref (r 4)])), (r 1, .inl (zJ g, 139264, .inr (.inl (lA bw)))), (r 2, .inl (zBt g, 12544, .inl (ai kF))), (r 3, .inl (zI g, 4, .inl (ai m2))), (r 4, .inl (zI g, 14, .inl (ai PT)))] H → va_D A [(r 0, .inr (4, [.int (iI ut), .int (iI uc), .int (iI la), .int (iI wo), .ref (r 1), .ref (r 2), .ref (r 3), .int (iI (((L.length : Nat) : Int))), .ref (r 4)])), (r 1, .inl (zJ g, 139264, .inr (.inl (lA bw)))), (r 2, .inl (zBt g, 12544, .inl (ai kF))), (r 3, .inl (zI g, 4, .inl (ai m2))), (r 4, .inl (zI g, 14, .inl (ai PT)))] → va_S A s.heap H locs → W p l e (headSpec w_MO_caseOf { frames := 3, cells := 0, slots := 0, locals := 66 }).room s m args below meth cd H locs 0 0 Q (F0 m 171 ls []) := by
    intro pl a m2 L H locs ls hl hpl ha9 hab hm2 hle hk hP hD hS
    refine lv_iload_n hx hb d_MO_caseOf_171 rfl (lv_at hl 3 rfl) ?_
    refine lv_sipush (v := iI 931) hx hb d_MO_caseOf_172 (by decide) ?_
    refine ix_icmp_ne (tgt := 185) hx hb d_MO_caseOf_175 (by decide) (by omega) (fun c_175 => ?_) (fun c_175 => ?_)
    · subst hQ
      exact W.vret hx hb hr (fun t h9 hW => ⟨⟨_, rfl, ⟨m2, by rw [show kinL ut uc la c = L by rw [hk]; unfold t5; rw [if_neg (by omega)]], by rw [show kinL ut uc la c = L by rw [hk]; unfold t5; rw [if_neg (by omega)]]; exact hm2⟩, by rw [h9]; exact hP, va_K.moved hW.alike hK, hD⟩, hS.F h9⟩) hS.2.2 d_MO_caseOf_185
    · refine lv_aload_n hx hb d_MO_caseOf_178 rfl (lv_at hl 0 rfl) ?_
      refine lv_sipush (v := iI 962) hx hb d_MO_caseOf_179 (by decide) ?_
      have hF_182 := va_free (wc := [(r 0, .inr (4, [.int (iI ut), .int (iI uc), .int (iI la), .int (iI wo), .ref (r 1), .ref (r 2), .ref (r 3), .int (iI (((L.length : Nat) : Int))), .ref (r 4)])), (r 1, .inl (zJ g, 139264, .inr (.inl (lA bw)))), (r 2, .inl (zBt g, 12544, .inl (ai kF))), (r 3, .inl (zI g, 4, .inl (ai m2))), (r 4, .inl (zI g, 14, .inl (ai PT)))]) hD hS hA [0, 1, 2, 3, 4] rfl
      refine zcVv (ci := 4) (q0 := 0) (As := [.int (iI 962)]) (rest := []) ⟨hx, hb, hml, hown, ht⟩ v_MO_92 (c_MO_withMate l g H.size r ut uc la wo bw m2 L 962 hm2 hla (by first | decide | omega) (by omega)) ⟨Nat.le_of_ble_eq_true rfl, Nat.le_of_ble_eq_true rfl⟩ ⟨Nat.zero_le _, Nat.zero_le _⟩ hK hZ hS hP (hD.weaken (fun _ _ _ _ => trivial)) hF_182 zP_nil zAp_nil rfl rfl rfl rfl hl.1 rfl (Nat.le_of_ble_eq_true rfl) d_MO_caseOf_182 (fun w_182 H locs h_182 pp_182 dd_182 zz_182 kk_182 hS => ?_)
      obtain ⟨m182, rfl, hm182⟩ := h_182
      have hw182 := wm_len la L 962
      have hP : va_P g.1 classes [(r 0, .inr (4, [.int (iI ut), .int (iI uc), .int (iI la), .int (iI wo), .ref (r 1), .ref (r 2), .ref (r 3), .int (iI ((((wm la L 962).length : Nat) : Int))), .ref (r 4)])), (r 1, .inl (zJ g, 139264, .inr (.inl (lA bw)))), (r 2, .inl (zBt g, 12544, .inl (ai kF))), (r 3, .inl (zI g, 4, .inl (ai m182))), (r 4, .inl (zI g, 14, .inl (ai PT)))] H := pp_182
      have hD : va_D A [(r 0, .inr (4, [.int (iI ut), .int (iI uc), .int (iI la), .int (iI wo), .ref (r 1), .ref (r 2), .ref (r 3), .int (iI ((((wm la L 962).length : Nat) : Int))), .ref (r 4)])), (r 1, .inl (zJ g, 139264, .inr (.inl (lA bw)))), (r 2, .inl (zBt g, 12544, .inl (ai kF))), (r 3, .inl (zI g, 4, .inl (ai m182))), (r 4, .inl (zI g, 14, .inl (ai PT)))] := dd_182.weaken (fun _ _ _ h9 => hF_182 _ h9)
      subst hQ
      exact W.vret hx hb hr (fun t h9 hW => ⟨⟨_, rfl, ⟨m182, by rw [show kinL ut uc la c = wm la L 962 by rw [hk]; unfold t5; rw [if_pos (by omega)]], by rw [show kinL ut uc la c = wm la L 962 by rw [hk]; unfold t5; rw [if_pos (by omega)]]; exact hm182⟩, by rw [h9]; exact hP, va_K.moved hW.alike hK, hD⟩, hS.F h9⟩) hS.2.2 d_MO_caseOf_185
  have J157 : ∀ (pl a : Int) (m2 : Nat → Int) (L : List Int) (H : Heap) (locs : List Loc) (ls : Array Slot), lv_has ls 4 [(0, .ref (r 0)), (1, .int (iI c)), (2, .int (iI pl)), (3, .int (iI a))] → ((pl = 1 ∧ ut = 0 ∧ uc = 0) ∨ (pl = 0 ∧ ¬ (ut = 0 ∧ uc = 0))) → (a = aF c) → (0 ≤ a ∧ a ≤ 1114111) → (∀ i, i < L.length → m2 i = L.getD i 0) → (L.length ≤ 2 ∨ (L.length ≤ 3 ∧ (a = 83 ∨ a = 75 ∨ a = 197))) → (kinL ut uc la c = t4 la a L) → va_P g.1 classes [(r 0, .inr (4, [.int (iI ut), .int (iI uc), .int (iI la), .int (iI wo), .ref (r 1), .ref (r 2), .ref (r 3), .int (iI (((L.length : Nat) : Int))), .ref (r 4)])), (r 1, .inl (zJ g, 139264, .inr (.inl (lA bw)))), (r 2, .inl (zBt g, 12544, .inl (ai kF))), (r 3, .inl (zI g, 4, .inl (ai m2))), (r 4, .inl (zI g, 14, .inl (ai PT)))] H → va_D A [(r 0, .inr (4, [.int (iI ut), .int (iI uc), .int (iI la), .int (iI wo), .ref (r 1), .ref (r 2), .ref (r 3), .int (iI (((L.length : Nat) : Int))), .ref (r 4)])), (r 1, .inl (zJ g, 139264, .inr (.inl (lA bw)))), (r 2, .inl (zBt g, 12544, .inl (ai kF))), (r 3, .inl (zI g, 4, .inl (ai m2))), (r 4, .inl (zI g, 14, .inl (ai PT)))] → va_S A s.heap H locs → W p l e (headSpec w_MO_caseOf { frames := 3, cells := 0, slots := 0, locals := 66 }).room s m args below meth cd H locs 0 0 Q (F0 m 157 ls []) := by
    intro pl a m2 L H locs ls hl hpl ha9 hab hm2 hle hk hP hD hS
    refine lv_iload_n hx hb d_MO_caseOf_157 rfl (lv_at hl 3 rfl) ?_
    refine lv_sipush (v := iI 924) hx hb d_MO_caseOf_158 (by decide) ?_
    refine ix_icmp_ne (tgt := 171) hx hb d_MO_caseOf_161 (by decide) (by omega) (fun c_161 => ?_) (fun c_161 => ?_)
    · exact J171 pl a m2 L _ _ ls (lv_sub hl [0, 1, 2, 3] rfl) (by exact hpl) (by exact ha9) (by exact hab) (by exact hm2) (by omega) (by rw [hk]; unfold t4; rw [if_neg (by omega)]) hP hD hS
    · refine lv_aload_n hx hb d_MO_caseOf_164 rfl (lv_at hl 0 rfl) ?_
      refine lv_sipush (v := iI 181) hx hb d_MO_caseOf_165 (by decide) ?_
      have hF_168 := va_free (wc := [(r 0, .inr (4, [.int (iI ut), .int (iI uc), .int (iI la), .int (iI wo), .ref (r 1), .ref (r 2), .ref (r 3), .int (iI (((L.length : Nat) : Int))), .ref (r 4)])), (r 1, .inl (zJ g, 139264, .inr (.inl (lA bw)))), (r 2, .inl (zBt g, 12544, .inl (ai kF))), (r 3, .inl (zI g, 4, .inl (ai m2))), (r 4, .inl (zI g, 14, .inl (ai PT)))]) hD hS hA [0, 1, 2, 3, 4] rfl
      refine zcVv (ci := 4) (q0 := 0) (As := [.int (iI 181)]) (rest := []) ⟨hx, hb, hml, hown, ht⟩ v_MO_92 (c_MO_withMate l g H.size r ut uc la wo bw m2 L 181 hm2 hla (by first | decide | omega) (by omega)) ⟨Nat.le_of_ble_eq_true rfl, Nat.le_of_ble_eq_true rfl⟩ ⟨Nat.zero_le _, Nat.zero_le _⟩ hK hZ hS hP (hD.weaken (fun _ _ _ _ => trivial)) hF_168 zP_nil zAp_nil rfl rfl rfl rfl hl.1 rfl (Nat.le_of_ble_eq_true rfl) d_MO_caseOf_168 (fun w_168 H locs h_168 pp_168 dd_168 zz_168 kk_168 hS => ?_)
      obtain ⟨m168, rfl, hm168⟩ := h_168
      have hw168 := wm_len la L 181
      have hP : va_P g.1 classes [(r 0, .inr (4, [.int (iI ut), .int (iI uc), .int (iI la), .int (iI wo), .ref (r 1), .ref (r 2), .ref (r 3), .int (iI ((((wm la L 181).length : Nat) : Int))), .ref (r 4)])), (r 1, .inl (zJ g, 139264, .inr (.inl (lA bw)))), (r 2, .inl (zBt g, 12544, .inl (ai kF))), (r 3, .inl (zI g, 4, .inl (ai m168))), (r 4, .inl (zI g, 14, .inl (ai PT)))] H := pp_168
      have hD : va_D A [(r 0, .inr (4, [.int (iI ut), .int (iI uc), .int (iI la), .int (iI wo), .ref (r 1), .ref (r 2), .ref (r 3), .int (iI ((((wm la L 181).length : Nat) : Int))), .ref (r 4)])), (r 1, .inl (zJ g, 139264, .inr (.inl (lA bw)))), (r 2, .inl (zBt g, 12544, .inl (ai kF))), (r 3, .inl (zI g, 4, .inl (ai m168))), (r 4, .inl (zI g, 14, .inl (ai PT)))] := dd_168.weaken (fun _ _ _ h9 => hF_168 _ h9)
      exact J171 pl a m168 (wm la L 181) _ _ ls (lv_sub hl [0, 1, 2, 3] rfl) (by exact hpl) (by exact ha9) (by exact hab) (by exact hm168) (by omega) (by rw [hk]; unfold t4; rw [if_pos (by omega)]) hP hD hS
  have J143 : ∀ (pl a : Int) (m2 : Nat → Int) (L : List Int) (H : Heap) (locs : List Loc) (ls : Array Slot), lv_has ls 4 [(0, .ref (r 0)), (1, .int (iI c)), (2, .int (iI pl)), (3, .int (iI a))] → ((pl = 1 ∧ ut = 0 ∧ uc = 0) ∨ (pl = 0 ∧ ¬ (ut = 0 ∧ uc = 0))) → (a = aF c) → (0 ≤ a ∧ a ≤ 1114111) → (∀ i, i < L.length → m2 i = L.getD i 0) → (L.length ≤ 2 ∨ (L.length ≤ 3 ∧ (a = 83 ∨ a = 75))) → (kinL ut uc la c = t3 la a L) → va_P g.1 classes [(r 0, .inr (4, [.int (iI ut), .int (iI uc), .int (iI la), .int (iI wo), .ref (r 1), .ref (r 2), .ref (r 3), .int (iI (((L.length : Nat) : Int))), .ref (r 4)])), (r 1, .inl (zJ g, 139264, .inr (.inl (lA bw)))), (r 2, .inl (zBt g, 12544, .inl (ai kF))), (r 3, .inl (zI g, 4, .inl (ai m2))), (r 4, .inl (zI g, 14, .inl (ai PT)))] H → va_D A [(r 0, .inr (4, [.int (iI ut), .int (iI uc), .int (iI la), .int (iI wo), .ref (r 1), .ref (r 2), .ref (r 3), .int (iI (((L.length : Nat) : Int))), .ref (r 4)])), (r 1, .inl (zJ g, 139264, .inr (.inl (lA bw)))), (r 2, .inl (zBt g, 12544, .inl (ai kF))), (r 3, .inl (zI g, 4, .inl (ai m2))), (r 4, .inl (zI g, 14, .inl (ai PT)))] → va_S A s.heap H locs → W p l e (headSpec w_MO_caseOf { frames := 3, cells := 0, slots := 0, locals := 66 }).room s m args below meth cd H locs 0 0 Q (F0 m 143 ls []) := by
    intro pl a m2 L H locs ls hl hpl ha9 hab hm2 hle hk hP hD hS
    refine lv_iload_n hx hb d_MO_caseOf_143 rfl (lv_at hl 3 rfl) ?_
    refine lv_sipush (v := iI 197) hx hb d_MO_caseOf_144 (by decide) ?_
    refine ix_icmp_ne (tgt := 157) hx hb d_MO_caseOf_147 (by decide) (by omega) (fun c_147 => ?_) (fun c_147 => ?_)
    · exact J157 pl a m2 L _ _ ls (lv_sub hl [0, 1, 2, 3] rfl) (by exact hpl) (by exact ha9) (by exact hab) (by exact hm2) (by omega) (by rw [hk]; unfold t3; rw [if_neg (by omega)]) hP hD hS
    · refine lv_aload_n hx hb d_MO_caseOf_150 rfl (lv_at hl 0 rfl) ?_
      refine lv_sipush (v := iI 8491) hx hb d_MO_caseOf_151 (by decide) ?_
      have hF_154 := va_free (wc := [(r 0, .inr (4, [.int (iI ut), .int (iI uc), .int (iI la), .int (iI wo), .ref (r 1), .ref (r 2), .ref (r 3), .int (iI (((L.length : Nat) : Int))), .ref (r 4)])), (r 1, .inl (zJ g, 139264, .inr (.inl (lA bw)))), (r 2, .inl (zBt g, 12544, .inl (ai kF))), (r 3, .inl (zI g, 4, .inl (ai m2))), (r 4, .inl (zI g, 14, .inl (ai PT)))]) hD hS hA [0, 1, 2, 3, 4] rfl
      refine zcVv (ci := 4) (q0 := 0) (As := [.int (iI 8491)]) (rest := []) ⟨hx, hb, hml, hown, ht⟩ v_MO_92 (c_MO_withMate l g H.size r ut uc la wo bw m2 L 8491 hm2 hla (by first | decide | omega) (by omega)) ⟨Nat.le_of_ble_eq_true rfl, Nat.le_of_ble_eq_true rfl⟩ ⟨Nat.zero_le _, Nat.zero_le _⟩ hK hZ hS hP (hD.weaken (fun _ _ _ _ => trivial)) hF_154 zP_nil zAp_nil rfl rfl rfl rfl hl.1 rfl (Nat.le_of_ble_eq_true rfl) d_MO_caseOf_154 (fun w_154 H locs h_154 pp_154 dd_154 zz_154 kk_154 hS => ?_)
      obtain ⟨m154, rfl, hm154⟩ := h_154
      have hw154 := wm_len la L 8491
      have hP : va_P g.1 classes [(r 0, .inr (4, [.int (iI ut), .int (iI uc), .int (iI la), .int (iI wo), .ref (r 1), .ref (r 2), .ref (r 3), .int (iI ((((wm la L 8491).length : Nat) : Int))), .ref (r 4)])), (r 1, .inl (zJ g, 139264, .inr (.inl (lA bw)))), (r 2, .inl (zBt g, 12544, .inl (ai kF))), (r 3, .inl (zI g, 4, .inl (ai m154))), (r 4, .inl (zI g, 14, .inl (ai PT)))] H := pp_154
      have hD : va_D A [(r 0, .inr (4, [.int (iI ut), .int (iI uc), .int (iI la), .int (iI wo), .ref (r 1), .ref (r 2), .ref (r 3), .int (iI ((((wm la L 8491).length : Nat) : Int))), .ref (r 4)])), (r 1, .inl (zJ g, 139264, .inr (.inl (lA bw)))), (r 2, .inl (zBt g, 12544, .inl (ai kF))), (r 3, .inl (zI g, 4, .inl (ai m154))), (r 4, .inl (zI g, 14, .inl (ai PT)))] := dd_154.weaken (fun _ _ _ h9 => hF_154 _ h9)
      exact J157 pl a m154 (wm la L 8491) _ _ ls (lv_sub hl [0, 1, 2, 3] rfl) (by exact hpl) (by exact ha9) (by exact hab) (by exact hm154) (by omega) (by rw [hk]; unfold t3; rw [if_pos (by omega)]) hP hD hS
  have J130 : ∀ (pl a : Int) (m2 : Nat → Int) (L : List Int) (H : Heap) (locs : List Loc) (ls : Array Slot), lv_has ls 4 [(0, .ref (r 0)), (1, .int (iI c)), (2, .int (iI pl)), (3, .int (iI a))] → ((pl = 1 ∧ ut = 0 ∧ uc = 0) ∨ (pl = 0 ∧ ¬ (ut = 0 ∧ uc = 0))) → (a = aF c) → (0 ≤ a ∧ a ≤ 1114111) → (∀ i, i < L.length → m2 i = L.getD i 0) → (L.length ≤ 2 ∨ (L.length ≤ 3 ∧ (a = 83))) → (kinL ut uc la c = t2 la a L) → va_P g.1 classes [(r 0, .inr (4, [.int (iI ut), .int (iI uc), .int (iI la), .int (iI wo), .ref (r 1), .ref (r 2), .ref (r 3), .int (iI (((L.length : Nat) : Int))), .ref (r 4)])), (r 1, .inl (zJ g, 139264, .inr (.inl (lA bw)))), (r 2, .inl (zBt g, 12544, .inl (ai kF))), (r 3, .inl (zI g, 4, .inl (ai m2))), (r 4, .inl (zI g, 14, .inl (ai PT)))] H → va_D A [(r 0, .inr (4, [.int (iI ut), .int (iI uc), .int (iI la), .int (iI wo), .ref (r 1), .ref (r 2), .ref (r 3), .int (iI (((L.length : Nat) : Int))), .ref (r 4)])), (r 1, .inl (zJ g, 139264, .inr (.inl (lA bw)))), (r 2, .inl (zBt g, 12544, .inl (ai kF))), (r 3, .inl (zI g, 4, .inl (ai m2))), (r 4, .inl (zI g, 14, .inl (ai PT)))] → va_S A s.heap H locs → W p l e (headSpec w_MO_caseOf { frames := 3, cells := 0, slots := 0, locals := 66 }).room s m args below meth cd H locs 0 0 Q (F0 m 130 ls []) := by
    intro pl a m2 L H locs ls hl hpl ha9 hab hm2 hle hk hP hD hS
    refine lv_iload_n hx hb d_MO_caseOf_130 rfl (lv_at hl 3 rfl) ?_
    refine lv_bipush (v := iI 75) hx hb d_MO_caseOf_131 (by decide) ?_
    refine ix_icmp_ne (tgt := 143) hx hb d_MO_caseOf_133 (by decide) (by omega) (fun c_133 => ?_) (fun c_133 => ?_)
    · exact J143 pl a m2 L _ _ ls (lv_sub hl [0, 1, 2, 3] rfl) (by exact hpl) (by exact ha9) (by exact hab) (by exact hm2) (by omega) (by rw [hk]; unfold t2; rw [if_neg (by omega)]) hP hD hS
    · refine lv_aload_n hx hb d_MO_caseOf_136 rfl (lv_at hl 0 rfl) ?_
      refine lv_sipush (v := iI 8490) hx hb d_MO_caseOf_137 (by decide) ?_
      have hF_140 := va_free (wc := [(r 0, .inr (4, [.int (iI ut), .int (iI uc), .int (iI la), .int (iI wo), .ref (r 1), .ref (r 2), .ref (r 3), .int (iI (((L.length : Nat) : Int))), .ref (r 4)])), (r 1, .inl (zJ g, 139264, .inr (.inl (lA bw)))), (r 2, .inl (zBt g, 12544, .inl (ai kF))), (r 3, .inl (zI g, 4, .inl (ai m2))), (r 4, .inl (zI g, 14, .inl (ai PT)))]) hD hS hA [0, 1, 2, 3, 4] rfl
      refine zcVv (ci := 4) (q0 := 0) (As := [.int (iI 8490)]) (rest := []) ⟨hx, hb, hml, hown, ht⟩ v_MO_92 (c_MO_withMate l g H.size r ut uc la wo bw m2 L 8490 hm2 hla (by first | decide | omega) (by omega)) ⟨Nat.le_of_ble_eq_true rfl, Nat.le_of_ble_eq_true rfl⟩ ⟨Nat.zero_le _, Nat.zero_le _⟩ hK hZ hS hP (hD.weaken (fun _ _ _ _ => trivial)) hF_140 zP_nil zAp_nil rfl rfl rfl rfl hl.1 rfl (Nat.le_of_ble_eq_true rfl) d_MO_caseOf_140 (fun w_140 H locs h_140 pp_140 dd_140 zz_140 kk_140 hS => ?_)
      obtain ⟨m140, rfl, hm140⟩ := h_140
      have hw140 := wm_len la L 8490
      have hP : va_P g.1 classes [(r 0, .inr (4, [.int (iI ut), .int (iI uc), .int (iI la), .int (iI wo), .ref (r 1), .ref (r 2), .ref (r 3), .int (iI ((((wm la L 8490).length : Nat) : Int))), .ref (r 4)])), (r 1, .inl (zJ g, 139264, .inr (.inl (lA bw)))), (r 2, .inl (zBt g, 12544, .inl (ai kF))), (r 3, .inl (zI g, 4, .inl (ai m140))), (r 4, .inl (zI g, 14, .inl (ai PT)))] H := pp_140
      have hD : va_D A [(r 0, .inr (4, [.int (iI ut), .int (iI uc), .int (iI la), .int (iI wo), .ref (r 1), .ref (r 2), .ref (r 3), .int (iI ((((wm la L 8490).length : Nat) : Int))), .ref (r 4)])), (r 1, .inl (zJ g, 139264, .inr (.inl (lA bw)))), (r 2, .inl (zBt g, 12544, .inl (ai kF))), (r 3, .inl (zI g, 4, .inl (ai m140))), (r 4, .inl (zI g, 14, .inl (ai PT)))] := dd_140.weaken (fun _ _ _ h9 => hF_140 _ h9)
      exact J143 pl a m140 (wm la L 8490) _ _ ls (lv_sub hl [0, 1, 2, 3] rfl) (by exact hpl) (by exact ha9) (by exact hab) (by exact hm140) (by omega) (by rw [hk]; unfold t2; rw [if_pos (by omega)]) hP hD hS
  have J112 : ∀ (pl a : Int) (m2 : Nat → Int) (L : List Int) (H : Heap) (locs : List Loc) (ls : Array Slot), lv_has ls 4 [(0, .ref (r 0)), (1, .int (iI c)), (2, .int (iI pl)), (3, .int (iI a))] → ((pl = 1 ∧ ut = 0 ∧ uc = 0) ∨ (pl = 0 ∧ ¬ (ut = 0 ∧ uc = 0))) → (a = aF c) → (0 ≤ a ∧ a ≤ 1114111) → (∀ i, i < L.length → m2 i = L.getD i 0) → (L.length ≤ 2) → (kinL ut uc la c = (if ut = 0 ∧ uc = 0 then L else t1 la a L)) → va_P g.1 classes [(r 0, .inr (4, [.int (iI ut), .int (iI uc), .int (iI la), .int (iI wo), .ref (r 1), .ref (r 2), .ref (r 3), .int (iI (((L.length : Nat) : Int))), .ref (r 4)])), (r 1, .inl (zJ g, 139264, .inr (.inl (lA bw)))), (r 2, .inl (zBt g, 12544, .inl (ai kF))), (r 3, .inl (zI g, 4, .inl (ai m2))), (r 4, .inl (zI g, 14, .inl (ai PT)))] H → va_D A [(r 0, .inr (4, [.int (iI ut), .int (iI uc), .int (iI la), .int (iI wo), .ref (r 1), .ref (r 2), .ref (r 3), .int (iI (((L.length : Nat) : Int))), .ref (r 4)])), (r 1, .inl (zJ g, 139264, .inr (.inl (lA bw)))), (r 2, .inl (zBt g, 12544, .inl (ai kF))), (r 3, .inl (zI g, 4, .inl (ai m2))), (r 4, .inl (zI g, 14, .inl (ai PT)))] → va_S A s.heap H locs → W p l e (headSpec w_MO_caseOf { frames := 3, cells := 0, slots := 0, locals := 66 }).room s m args below meth cd H locs 0 0 Q (F0 m 112 ls []) := by
    intro pl a m2 L H locs ls hl hpl ha9 hab hm2 hle hk hP hD hS
    refine lv_iload_n hx hb d_MO_caseOf_112 rfl (lv_at hl 2 rfl) ?_
    refine ix_if_eq (tgt := 117) hx hb d_MO_caseOf_113 (by decide) (by omega) (fun c_113 => ?_) (fun c_113 => ?_)
    · refine lv_iload_n hx hb d_MO_caseOf_117 rfl (lv_at hl 3 rfl) ?_
      refine lv_bipush (v := iI 83) hx hb d_MO_caseOf_118 (by decide) ?_
      refine ix_icmp_ne (tgt := 130) hx hb d_MO_caseOf_120 (by decide) (by omega) (fun c_120 => ?_) (fun c_120 => ?_)
      · exact J130 pl a m2 L _ _ ls (lv_sub hl [0, 1, 2, 3] rfl) (by exact hpl) (by exact ha9) (by exact hab) (by exact hm2) (by omega) (by rw [hk, if_neg (by omega)]; unfold t1; rw [if_neg (by omega)]) hP hD hS
      · refine lv_aload_n hx hb d_MO_caseOf_123 rfl (lv_at hl 0 rfl) ?_
        refine lv_sipush (v := iI 383) hx hb d_MO_caseOf_124 (by decide) ?_
        have hF_127 := va_free (wc := [(r 0, .inr (4, [.int (iI ut), .int (iI uc), .int (iI la), .int (iI wo), .ref (r 1), .ref (r 2), .ref (r 3), .int (iI (((L.length : Nat) : Int))), .ref (r 4)])), (r 1, .inl (zJ g, 139264, .inr (.inl (lA bw)))), (r 2, .inl (zBt g, 12544, .inl (ai kF))), (r 3, .inl (zI g, 4, .inl (ai m2))), (r 4, .inl (zI g, 14, .inl (ai PT)))]) hD hS hA [0, 1, 2, 3, 4] rfl
        refine zcVv (ci := 4) (q0 := 0) (As := [.int (iI 383)]) (rest := []) ⟨hx, hb, hml, hown, ht⟩ v_MO_92 (c_MO_withMate l g H.size r ut uc la wo bw m2 L 383 hm2 hla (by first | decide | omega) (by omega)) ⟨Nat.le_of_ble_eq_true rfl, Nat.le_of_ble_eq_true rfl⟩ ⟨Nat.zero_le _, Nat.zero_le _⟩ hK hZ hS hP (hD.weaken (fun _ _ _ _ => trivial)) hF_127 zP_nil zAp_nil rfl rfl rfl rfl hl.1 rfl (Nat.le_of_ble_eq_true rfl) d_MO_caseOf_127 (fun w_127 H locs h_127 pp_127 dd_127 zz_127 kk_127 hS => ?_)
        obtain ⟨m127, rfl, hm127⟩ := h_127
        have hw127 := wm_len la L 383
        have hP : va_P g.1 classes [(r 0, .inr (4, [.int (iI ut), .int (iI uc), .int (iI la), .int (iI wo), .ref (r 1), .ref (r 2), .ref (r 3), .int (iI ((((wm la L 383).length : Nat) : Int))), .ref (r 4)])), (r 1, .inl (zJ g, 139264, .inr (.inl (lA bw)))), (r 2, .inl (zBt g, 12544, .inl (ai kF))), (r 3, .inl (zI g, 4, .inl (ai m127))), (r 4, .inl (zI g, 14, .inl (ai PT)))] H := pp_127
        have hD : va_D A [(r 0, .inr (4, [.int (iI ut), .int (iI uc), .int (iI la), .int (iI wo), .ref (r 1), .ref (r 2), .ref (r 3), .int (iI ((((wm la L 383).length : Nat) : Int))), .ref (r 4)])), (r 1, .inl (zJ g, 139264, .inr (.inl (lA bw)))), (r 2, .inl (zBt g, 12544, .inl (ai kF))), (r 3, .inl (zI g, 4, .inl (ai m127))), (r 4, .inl (zI g, 14, .inl (ai PT)))] := dd_127.weaken (fun _ _ _ h9 => hF_127 _ h9)
        exact J130 pl a m127 (wm la L 383) _ _ ls (lv_sub hl [0, 1, 2, 3] rfl) (by exact hpl) (by exact ha9) (by exact hab) (by exact hm127) (by omega) (by rw [hk, if_neg (by omega)]; unfold t1; rw [if_pos (by omega)]) hP hD hS
    · subst hQ
      exact W.vret hx hb hr (fun t h9 hW => ⟨⟨_, rfl, ⟨m2, by rw [show kinL ut uc la c = L by rw [hk, if_pos (by omega)]], by rw [show kinL ut uc la c = L by rw [hk, if_pos (by omega)]]; exact hm2⟩, by rw [h9]; exact hP, va_K.moved hW.alike hK, hD⟩, hS.F h9⟩) hS.2.2 d_MO_caseOf_116
  have J42 : ∀ (pl a : Int) (H : Heap) (locs : List Loc) (ls : Array Slot), lv_has ls 4 [(0, .ref (r 0)), (1, .int (iI c)), (2, .int (iI pl)), (3, .int (iI a))] → ((pl = 1 ∧ ut = 0 ∧ uc = 0) ∨ (pl = 0 ∧ ¬ (ut = 0 ∧ uc = 0))) → (a = aF c) → (0 ≤ a ∧ a ≤ 1114111) → va_P g.1 classes [(r 0, .inr (4, [.int (iI ut), .int (iI uc), .int (iI la), .int (iI wo), .ref (r 1), .ref (r 2), .ref (r 3), .int (iI 0), .ref (r 4)])), (r 1, .inl (zJ g, 139264, .inr (.inl (lA bw)))), (r 2, .inl (zBt g, 12544, .inl (ai kF))), (r 3, .inl (zI g, 4, .inl (ai mt))), (r 4, .inl (zI g, 14, .inl (ai PT)))] H → va_D A [(r 0, .inr (4, [.int (iI ut), .int (iI uc), .int (iI la), .int (iI wo), .ref (r 1), .ref (r 2), .ref (r 3), .int (iI 0), .ref (r 4)])), (r 1, .inl (zJ g, 139264, .inr (.inl (lA bw)))), (r 2, .inl (zBt g, 12544, .inl (ai kF))), (r 3, .inl (zI g, 4, .inl (ai mt))), (r 4, .inl (zI g, 14, .inl (ai PT)))] → va_S A s.heap H locs → W p l e (headSpec w_MO_caseOf { frames := 3, cells := 0, slots := 0, locals := 66 }).room s m args below meth cd H locs 0 0 Q (F0 m 42 ls []) := by
    intro pl a H locs ls hl hpl ha9 hab hP hD hS
    refine lv_iload_n hx hb d_MO_caseOf_42 rfl (lv_at hl 2 rfl) ?_
    refine ix_if_eq (tgt := 64) hx hb d_MO_caseOf_43 (by decide) (by omega) (fun c_43 => ?_) (fun c_43 => ?_)
    · refine lv_aload_n hx hb d_MO_caseOf_64 rfl (lv_at hl 0 rfl) ?_
      refine lv_iload_n hx hb d_MO_caseOf_65 rfl (lv_at hl 3 rfl) ?_
      have hF_66 := va_free (wc := [(r 0, .inr (4, [.int (iI ut), .int (iI uc), .int (iI la), .int (iI wo), .ref (r 1), .ref (r 2), .ref (r 3), .int (iI 0), .ref (r 4)])), (r 1, .inl (zJ g, 139264, .inr (.inl (lA bw)))), (r 2, .inl (zBt g, 12544, .inl (ai kF))), (r 3, .inl (zI g, 4, .inl (ai mt))), (r 4, .inl (zI g, 14, .inl (ai PT)))]) hD hS hA [0, 1, 2, 3, 4] rfl
      refine zcVv (ci := 4) (q0 := 0) (As := [.int (iI a)]) (rest := []) ⟨hx, hb, hml, hown, ht⟩ v_MO_92 (c_MO_withMate l g H.size r ut uc la wo bw mt ([]) a (fun i h9 => absurd h9 (Nat.not_lt_zero _)) hla (by first | decide | omega) (by omega)) ⟨Nat.le_of_ble_eq_true rfl, Nat.le_of_ble_eq_true rfl⟩ ⟨Nat.zero_le _, Nat.zero_le _⟩ hK hZ hS hP (hD.weaken (fun _ _ _ _ => trivial)) hF_66 zP_nil zAp_nil rfl rfl rfl rfl hl.1 rfl (Nat.le_of_ble_eq_true rfl) d_MO_caseOf_66 (fun w_66 H locs h_66 pp_66 dd_66 zz_66 kk_66 hS => ?_)
      obtain ⟨m66, rfl, hm66⟩ := h_66
      have hw66 := wm_len la ([]) a
      have hz66 : ([] : List Int).length = 0 := rfl
      have hP : va_P g.1 classes [(r 0, .inr (4, [.int (iI ut), .int (iI uc), .int (iI la), .int (iI wo), .ref (r 1), .ref (r 2), .ref (r 3), .int (iI ((((wm la ([]) a).length : Nat) : Int))), .ref (r 4)])), (r 1, .inl (zJ g, 139264, .inr (.inl (lA bw)))), (r 2, .inl (zBt g, 12544, .inl (ai kF))), (r 3, .inl (zI g, 4, .inl (ai m66))), (r 4, .inl (zI g, 14, .inl (ai PT)))] H := pp_66
      have hD : va_D A [(r 0, .inr (4, [.int (iI ut), .int (iI uc), .int (iI la), .int (iI wo), .ref (r 1), .ref (r 2), .ref (r 3), .int (iI ((((wm la ([]) a).length : Nat) : Int))), .ref (r 4)])), (r 1, .inl (zJ g, 139264, .inr (.inl (lA bw)))), (r 2, .inl (zBt g, 12544, .inl (ai kF))), (r 3, .inl (zI g, 4, .inl (ai m66))), (r 4, .inl (zI g, 14, .inl (ai PT)))] := dd_66.weaken (fun _ _ _ h9 => hF_66 _ h9)
      refine lv_iload_n hx hb d_MO_caseOf_69 rfl (lv_at hl 3 rfl) ?_
      refine lv_sipush (v := iI 376) hx hb d_MO_caseOf_70 (by decide) ?_
      refine ix_icmp_ne (tgt := 86) hx hb d_MO_caseOf_73 (by decide) (by omega) (fun c_73 => ?_) (fun c_73 => ?_)
      · refine lv_iload_n hx hb d_MO_caseOf_86 rfl (lv_at hl 3 rfl) ?_
        refine lv_sipush (v := iI 8704) hx hb d_MO_caseOf_87 (by decide) ?_
        refine ix_icmp_gt (tgt := 112) hx hb d_MO_caseOf_90 (by decide) (by omega) (fun c_90 => ?_) (fun c_90 => ?_)
        · exact J112 pl a m66 (wm la ([]) a) _ _ ls (lv_sub hl [0, 1, 2, 3] rfl) (by exact hpl) (by exact ha9) (by exact hab) (by exact hm66) (by omega) (by unfold kinL; rw [← ha9, if_neg (by omega)]; rw [if_neg c_73, if_neg (by omega)]) hP hD hS
        · refine lv_aload_n hx hb d_MO_caseOf_93 rfl (lv_at hl 0 rfl) ?_
          refine lv_iload_n hx hb d_MO_caseOf_94 rfl (lv_at hl 3 rfl) ?_
          refine zcV (ci := 4) (q0 := 0) (As := [.int (iI a)]) (rest := []) ⟨hx, hb, hml, hown, ht⟩ v_MO_86 (c_MO_pair l g r ut uc la wo bw mt ms a (by omega)) ⟨Nat.le_of_ble_eq_true rfl, Nat.le_of_ble_eq_true rfl⟩ ⟨Nat.zero_le _, Nat.zero_le _⟩ hK hZ hS hP rfl rfl rfl rfl hl.1 rfl (Nat.le_of_ble_eq_true rfl) d_MO_caseOf_95 (fun r_95 h_95 => ?_)
          subst h_95
          have q_95 := pairF_bd a
          refine ix_if_le (tgt := 112) hx hb d_MO_caseOf_98 (by decide) (by omega) (fun c_98 => ?_) (fun c_98 => ?_)
          · exact J112 pl a m66 (wm la ([]) a) _ _ ls (lv_sub hl [0, 1, 2, 3] rfl) (by exact hpl) (by exact ha9) (by exact hab) (by exact hm66) (by omega) (by unfold kinL; rw [← ha9, if_neg (by omega)]; rw [if_neg c_73, if_neg (by omega)]) hP hD hS
          · refine lv_aload_n hx hb d_MO_caseOf_101 rfl (lv_at hl 0 rfl) ?_
            refine lv_iload_n hx hb d_MO_caseOf_102 rfl (lv_at hl 3 rfl) ?_
            refine lv_aload_n hx hb d_MO_caseOf_103 rfl (lv_at hl 0 rfl) ?_
            refine lv_iload_n hx hb d_MO_caseOf_104 rfl (lv_at hl 3 rfl) ?_
            refine zcV (ci := 4) (q0 := 0) (As := [.int (iI a)]) (rest := [.int (iI a), .ref (r 0)]) ⟨hx, hb, hml, hown, ht⟩ v_MO_86 (c_MO_pair l g r ut uc la wo bw mt ms a (by omega)) ⟨Nat.le_of_ble_eq_true rfl, Nat.le_of_ble_eq_true rfl⟩ ⟨Nat.zero_le _, Nat.zero_le _⟩ hK hZ hS hP rfl rfl rfl rfl hl.1 rfl (Nat.le_of_ble_eq_true rfl) d_MO_caseOf_105 (fun r_105 h_105 => ?_)
            subst h_105
            have q_105 := pairF_bd a
            refine ix_iadd hx hb d_MO_caseOf_108 ?_
            have hF_109 := va_free (wc := [(r 0, .inr (4, [.int (iI ut), .int (iI uc), .int (iI la), .int (iI wo), .ref (r 1), .ref (r 2), .ref (r 3), .int (iI ((((wm la ([]) a).length : Nat) : Int))), .ref (r 4)])), (r 1, .inl (zJ g, 139264, .inr (.inl (lA bw)))), (r 2, .inl (zBt g, 12544, .inl (ai kF))), (r 3, .inl (zI g, 4, .inl (ai m66))), (r 4, .inl (zI g, 14, .inl (ai PT)))]) hD hS hA [0, 1, 2, 3, 4] rfl
            refine zcVv (ci := 4) (q0 := 0) (As := [.int (iI (a + (pairF a)))]) (rest := []) ⟨hx, hb, hml, hown, ht⟩ v_MO_92 (c_MO_withMate l g H.size r ut uc la wo bw m66 (wm la ([]) a) (a + (pairF a)) hm66 hla (by first | decide | omega) (by omega)) ⟨Nat.le_of_ble_eq_true rfl, Nat.le_of_ble_eq_true rfl⟩ ⟨Nat.zero_le _, Nat.zero_le _⟩ hK hZ hS hP (hD.weaken (fun _ _ _ _ => trivial)) hF_109 zP_nil zAp_nil rfl rfl rfl rfl hl.1 rfl (Nat.le_of_ble_eq_true rfl) d_MO_caseOf_109 (fun w_109 H locs h_109 pp_109 dd_109 zz_109 kk_109 hS => ?_)
            obtain ⟨m109, rfl, hm109⟩ := h_109
            have hw109 := wm_len la (wm la ([]) a) (a + (pairF a))
            have hP : va_P g.1 classes [(r 0, .inr (4, [.int (iI ut), .int (iI uc), .int (iI la), .int (iI wo), .ref (r 1), .ref (r 2), .ref (r 3), .int (iI ((((wm la (wm la ([]) a) (a + (pairF a))).length : Nat) : Int))), .ref (r 4)])), (r 1, .inl (zJ g, 139264, .inr (.inl (lA bw)))), (r 2, .inl (zBt g, 12544, .inl (ai kF))), (r 3, .inl (zI g, 4, .inl (ai m109))), (r 4, .inl (zI g, 14, .inl (ai PT)))] H := pp_109
            have hD : va_D A [(r 0, .inr (4, [.int (iI ut), .int (iI uc), .int (iI la), .int (iI wo), .ref (r 1), .ref (r 2), .ref (r 3), .int (iI ((((wm la (wm la ([]) a) (a + (pairF a))).length : Nat) : Int))), .ref (r 4)])), (r 1, .inl (zJ g, 139264, .inr (.inl (lA bw)))), (r 2, .inl (zBt g, 12544, .inl (ai kF))), (r 3, .inl (zI g, 4, .inl (ai m109))), (r 4, .inl (zI g, 14, .inl (ai PT)))] := dd_109.weaken (fun _ _ _ h9 => hF_109 _ h9)
            exact J112 pl a m109 (wm la (wm la ([]) a) (a + (pairF a))) _ _ ls (lv_sub hl [0, 1, 2, 3] rfl) (by exact hpl) (by exact ha9) (by exact hab) (by exact hm109) (by omega) (by unfold kinL; rw [← ha9, if_neg (by omega)]; rw [if_neg c_73, if_pos (by omega)]) hP hD hS
      · refine lv_aload_n hx hb d_MO_caseOf_76 rfl (lv_at hl 0 rfl) ?_
        refine lv_sipush (v := iI 255) hx hb d_MO_caseOf_77 (by decide) ?_
        have hF_80 := va_free (wc := [(r 0, .inr (4, [.int (iI ut), .int (iI uc), .int (iI la), .int (iI wo), .ref (r 1), .ref (r 2), .ref (r 3), .int (iI ((((wm la ([]) a).length : Nat) : Int))), .ref (r 4)])), (r 1, .inl (zJ g, 139264, .inr (.inl (lA bw)))), (r 2, .inl (zBt g, 12544, .inl (ai kF))), (r 3, .inl (zI g, 4, .inl (ai m66))), (r 4, .inl (zI g, 14, .inl (ai PT)))]) hD hS hA [0, 1, 2, 3, 4] rfl
        refine zcVv (ci := 4) (q0 := 0) (As := [.int (iI 255)]) (rest := []) ⟨hx, hb, hml, hown, ht⟩ v_MO_92 (c_MO_withMate l g H.size r ut uc la wo bw m66 (wm la ([]) a) 255 hm66 hla (by first | decide | omega) (by omega)) ⟨Nat.le_of_ble_eq_true rfl, Nat.le_of_ble_eq_true rfl⟩ ⟨Nat.zero_le _, Nat.zero_le _⟩ hK hZ hS hP (hD.weaken (fun _ _ _ _ => trivial)) hF_80 zP_nil zAp_nil rfl rfl rfl rfl hl.1 rfl (Nat.le_of_ble_eq_true rfl) d_MO_caseOf_80 (fun w_80 H locs h_80 pp_80 dd_80 zz_80 kk_80 hS => ?_)
        obtain ⟨m80, rfl, hm80⟩ := h_80
        have hw80 := wm_len la (wm la ([]) a) 255
        have hP : va_P g.1 classes [(r 0, .inr (4, [.int (iI ut), .int (iI uc), .int (iI la), .int (iI wo), .ref (r 1), .ref (r 2), .ref (r 3), .int (iI ((((wm la (wm la ([]) a) 255).length : Nat) : Int))), .ref (r 4)])), (r 1, .inl (zJ g, 139264, .inr (.inl (lA bw)))), (r 2, .inl (zBt g, 12544, .inl (ai kF))), (r 3, .inl (zI g, 4, .inl (ai m80))), (r 4, .inl (zI g, 14, .inl (ai PT)))] H := pp_80
        have hD : va_D A [(r 0, .inr (4, [.int (iI ut), .int (iI uc), .int (iI la), .int (iI wo), .ref (r 1), .ref (r 2), .ref (r 3), .int (iI ((((wm la (wm la ([]) a) 255).length : Nat) : Int))), .ref (r 4)])), (r 1, .inl (zJ g, 139264, .inr (.inl (lA bw)))), (r 2, .inl (zBt g, 12544, .inl (ai kF))), (r 3, .inl (zI g, 4, .inl (ai m80))), (r 4, .inl (zI g, 14, .inl (ai PT)))] := dd_80.weaken (fun _ _ _ h9 => hF_80 _ h9)
        refine lv_goto (tgt := 112) hx hb d_MO_caseOf_83 (by decide) ?_
        exact J112 pl a m80 (wm la (wm la ([]) a) 255) _ _ ls (lv_sub hl [0, 1, 2, 3] rfl) (by exact hpl) (by exact ha9) (by exact hab) (by exact hm80) (by omega) (by unfold kinL; rw [← ha9, if_neg (by omega)]; rw [if_pos c_73]) hP hD hS
    · refine lv_aload_n hx hb d_MO_caseOf_46 rfl (lv_at hl 0 rfl) ?_
      refine lv_iload_n hx hb d_MO_caseOf_47 rfl (lv_at hl 3 rfl) ?_
      refine lv_bipush (v := iI 65) hx hb d_MO_caseOf_48 (by decide) ?_
      refine lv_bipush (v := iI 90) hx hb d_MO_caseOf_50 (by decide) ?_
      refine zcV (ci := 4) (q0 := 0) (As := [.int (iI a), .int (iI 65), .int (iI 90)]) (rest := []) ⟨hx, hb, hml, hown, ht⟩ v_MO_79 (c_MO_inAny l g r ut uc la wo bw mt ms a 65 90 (by omega) (by omega)) ⟨Nat.le_of_ble_eq_true rfl, Nat.le_of_ble_eq_true rfl⟩ ⟨Nat.zero_le _, Nat.zero_le _⟩ hK hZ hS hP rfl rfl rfl rfl hl.1 rfl (Nat.le_of_ble_eq_true rfl) d_MO_caseOf_52 (fun r_52 h_52 => ?_)
      rcases h_52 with ⟨h_52, rfl⟩ | ⟨h_52, rfl⟩
      · refine ix_if_ne (tgt := 64) hx hb d_MO_caseOf_55 (by decide) (by omega) (fun c_55 => ?_) (fun c_55 => ?_)
        · refine lv_aload_n hx hb d_MO_caseOf_64 rfl (lv_at hl 0 rfl) ?_
          refine lv_iload_n hx hb d_MO_caseOf_65 rfl (lv_at hl 3 rfl) ?_
          have hF_66 := va_free (wc := [(r 0, .inr (4, [.int (iI ut), .int (iI uc), .int (iI la), .int (iI wo), .ref (r 1), .ref (r 2), .ref (r 3), .int (iI 0), .ref (r 4)])), (r 1, .inl (zJ g, 139264, .inr (.inl (lA bw)))), (r 2, .inl (zBt g, 12544, .inl (ai kF))), (r 3, .inl (zI g, 4, .inl (ai mt))), (r 4, .inl (zI g, 14, .inl (ai PT)))]) hD hS hA [0, 1, 2, 3, 4] rfl
          refine zcVv (ci := 4) (q0 := 0) (As := [.int (iI a)]) (rest := []) ⟨hx, hb, hml, hown, ht⟩ v_MO_92 (c_MO_withMate l g H.size r ut uc la wo bw mt ([]) a (fun i h9 => absurd h9 (Nat.not_lt_zero _)) hla (by first | decide | omega) (by omega)) ⟨Nat.le_of_ble_eq_true rfl, Nat.le_of_ble_eq_true rfl⟩ ⟨Nat.zero_le _, Nat.zero_le _⟩ hK hZ hS hP (hD.weaken (fun _ _ _ _ => trivial)) hF_66 zP_nil zAp_nil rfl rfl rfl rfl hl.1 rfl (Nat.le_of_ble_eq_true rfl) d_MO_caseOf_66 (fun w_66 H locs h_66 pp_66 dd_66 zz_66 kk_66 hS => ?_)
          obtain ⟨m66, rfl, hm66⟩ := h_66
          have hw66 := wm_len la ([]) a
          have hz66 : ([] : List Int).length = 0 := rfl
          have hP : va_P g.1 classes [(r 0, .inr (4, [.int (iI ut), .int (iI uc), .int (iI la), .int (iI wo), .ref (r 1), .ref (r 2), .ref (r 3), .int (iI ((((wm la ([]) a).length : Nat) : Int))), .ref (r 4)])), (r 1, .inl (zJ g, 139264, .inr (.inl (lA bw)))), (r 2, .inl (zBt g, 12544, .inl (ai kF))), (r 3, .inl (zI g, 4, .inl (ai m66))), (r 4, .inl (zI g, 14, .inl (ai PT)))] H := pp_66
          have hD : va_D A [(r 0, .inr (4, [.int (iI ut), .int (iI uc), .int (iI la), .int (iI wo), .ref (r 1), .ref (r 2), .ref (r 3), .int (iI ((((wm la ([]) a).length : Nat) : Int))), .ref (r 4)])), (r 1, .inl (zJ g, 139264, .inr (.inl (lA bw)))), (r 2, .inl (zBt g, 12544, .inl (ai kF))), (r 3, .inl (zI g, 4, .inl (ai m66))), (r 4, .inl (zI g, 14, .inl (ai PT)))] := dd_66.weaken (fun _ _ _ h9 => hF_66 _ h9)
          refine lv_iload_n hx hb d_MO_caseOf_69 rfl (lv_at hl 3 rfl) ?_
          refine lv_sipush (v := iI 376) hx hb d_MO_caseOf_70 (by decide) ?_
          refine ix_icmp_ne (tgt := 86) hx hb d_MO_caseOf_73 (by decide) (by omega) (fun c_73 => ?_) (fun c_73 => ?_)
          · refine lv_iload_n hx hb d_MO_caseOf_86 rfl (lv_at hl 3 rfl) ?_
            refine lv_sipush (v := iI 8704) hx hb d_MO_caseOf_87 (by decide) ?_
            refine ix_icmp_gt (tgt := 112) hx hb d_MO_caseOf_90 (by decide) (by omega) (fun c_90 => ?_) (fun c_90 => ?_)
            · exact J112 pl a m66 (wm la ([]) a) _ _ ls (lv_sub hl [0, 1, 2, 3] rfl) (by exact hpl) (by exact ha9) (by exact hab) (by exact hm66) (by omega) (by unfold kinL; rw [← ha9, if_neg (by omega)]; rw [if_neg c_73, if_neg (by omega)]) hP hD hS
            · refine lv_aload_n hx hb d_MO_caseOf_93 rfl (lv_at hl 0 rfl) ?_
              refine lv_iload_n hx hb d_MO_caseOf_94 rfl (lv_at hl 3 rfl) ?_
              refine zcV (ci := 4) (q0 := 0) (As := [.int (iI a)]) (rest := []) ⟨hx, hb, hml, hown, ht⟩ v_MO_86 (c_MO_pair l g r ut uc la wo bw mt ms a (by omega)) ⟨Nat.le_of_ble_eq_true rfl, Nat.le_of_ble_eq_true rfl⟩ ⟨Nat.zero_le _, Nat.zero_le _⟩ hK hZ hS hP rfl rfl rfl rfl hl.1 rfl (Nat.le_of_ble_eq_true rfl) d_MO_caseOf_95 (fun r_95 h_95 => ?_)
              subst h_95
              have q_95 := pairF_bd a
              refine ix_if_le (tgt := 112) hx hb d_MO_caseOf_98 (by decide) (by omega) (fun c_98 => ?_) (fun c_98 => ?_)
              · exact J112 pl a m66 (wm la ([]) a) _ _ ls (lv_sub hl [0, 1, 2, 3] rfl) (by exact hpl) (by exact ha9) (by exact hab) (by exact hm66) (by omega) (by unfold kinL; rw [← ha9, if_neg (by omega)]; rw [if_neg c_73, if_neg (by omega)]) hP hD hS
              · refine lv_aload_n hx hb d_MO_caseOf_101 rfl (lv_at hl 0 rfl) ?_
                refine lv_iload_n hx hb d_MO_caseOf_102 rfl (lv_at hl 3 rfl) ?_
                refine lv_aload_n hx hb d_MO_caseOf_103 rfl (lv_at hl 0 rfl) ?_
                refine lv_iload_n hx hb d_MO_caseOf_104 rfl (lv_at hl 3 rfl) ?_
                refine zcV (ci := 4) (q0 := 0) (As := [.int (iI a)]) (rest := [.int (iI a), .ref (r 0)]) ⟨hx, hb, hml, hown, ht⟩ v_MO_86 (c_MO_pair l g r ut uc la wo bw mt ms a (by omega)) ⟨Nat.le_of_ble_eq_true rfl, Nat.le_of_ble_eq_true rfl⟩ ⟨Nat.zero_le _, Nat.zero_le _⟩ hK hZ hS hP rfl rfl rfl rfl hl.1 rfl (Nat.le_of_ble_eq_true rfl) d_MO_caseOf_105 (fun r_105 h_105 => ?_)
                subst h_105
                have q_105 := pairF_bd a
                refine ix_iadd hx hb d_MO_caseOf_108 ?_
                have hF_109 := va_free (wc := [(r 0, .inr (4, [.int (iI ut), .int (iI uc), .int (iI la), .int (iI wo), .ref (r 1), .ref (r 2), .ref (r 3), .int (iI ((((wm la ([]) a).length : Nat) : Int))), .ref (r 4)])), (r 1, .inl (zJ g, 139264, .inr (.inl (lA bw)))), (r 2, .inl (zBt g, 12544, .inl (ai kF))), (r 3, .inl (zI g, 4, .inl (ai m66))), (r 4, .inl (zI g, 14, .inl (ai PT)))]) hD hS hA [0, 1, 2, 3, 4] rfl
                refine zcVv (ci := 4) (q0 := 0) (As := [.int (iI (a + (pairF a)))]) (rest := []) ⟨hx, hb, hml, hown, ht⟩ v_MO_92 (c_MO_withMate l g H.size r ut uc la wo bw m66 (wm la ([]) a) (a + (pairF a)) hm66 hla (by first | decide | omega) (by omega)) ⟨Nat.le_of_ble_eq_true rfl, Nat.le_of_ble_eq_true rfl⟩ ⟨Nat.zero_le _, Nat.zero_le _⟩ hK hZ hS hP (hD.weaken (fun _ _ _ _ => trivial)) hF_109 zP_nil zAp_nil rfl rfl rfl rfl hl.1 rfl (Nat.le_of_ble_eq_true rfl) d_MO_caseOf_109 (fun w_109 H locs h_109 pp_109 dd_109 zz_109 kk_109 hS => ?_)
                obtain ⟨m109, rfl, hm109⟩ := h_109
                have hw109 := wm_len la (wm la ([]) a) (a + (pairF a))
                have hP : va_P g.1 classes [(r 0, .inr (4, [.int (iI ut), .int (iI uc), .int (iI la), .int (iI wo), .ref (r 1), .ref (r 2), .ref (r 3), .int (iI ((((wm la (wm la ([]) a) (a + (pairF a))).length : Nat) : Int))), .ref (r 4)])), (r 1, .inl (zJ g, 139264, .inr (.inl (lA bw)))), (r 2, .inl (zBt g, 12544, .inl (ai kF))), (r 3, .inl (zI g, 4, .inl (ai m109))), (r 4, .inl (zI g, 14, .inl (ai PT)))] H := pp_109
                have hD : va_D A [(r 0, .inr (4, [.int (iI ut), .int (iI uc), .int (iI la), .int (iI wo), .ref (r 1), .ref (r 2), .ref (r 3), .int (iI ((((wm la (wm la ([]) a) (a + (pairF a))).length : Nat) : Int))), .ref (r 4)])), (r 1, .inl (zJ g, 139264, .inr (.inl (lA bw)))), (r 2, .inl (zBt g, 12544, .inl (ai kF))), (r 3, .inl (zI g, 4, .inl (ai m109))), (r 4, .inl (zI g, 14, .inl (ai PT)))] := dd_109.weaken (fun _ _ _ h9 => hF_109 _ h9)
                exact J112 pl a m109 (wm la (wm la ([]) a) (a + (pairF a))) _ _ ls (lv_sub hl [0, 1, 2, 3] rfl) (by exact hpl) (by exact ha9) (by exact hab) (by exact hm109) (by omega) (by unfold kinL; rw [← ha9, if_neg (by omega)]; rw [if_neg c_73, if_pos (by omega)]) hP hD hS
          · refine lv_aload_n hx hb d_MO_caseOf_76 rfl (lv_at hl 0 rfl) ?_
            refine lv_sipush (v := iI 255) hx hb d_MO_caseOf_77 (by decide) ?_
            have hF_80 := va_free (wc := [(r 0, .inr (4, [.int (iI ut), .int (iI uc), .int (iI la), .int (iI wo), .ref (r 1), .ref (r 2), .ref (r 3), .int (iI ((((wm la ([]) a).length : Nat) : Int))), .ref (r 4)])), (r 1, .inl (zJ g, 139264, .inr (.inl (lA bw)))), (r 2, .inl (zBt g, 12544, .inl (ai kF))), (r 3, .inl (zI g, 4, .inl (ai m66))), (r 4, .inl (zI g, 14, .inl (ai PT)))]) hD hS hA [0, 1, 2, 3, 4] rfl
            refine zcVv (ci := 4) (q0 := 0) (As := [.int (iI 255)]) (rest := []) ⟨hx, hb, hml, hown, ht⟩ v_MO_92 (c_MO_withMate l g H.size r ut uc la wo bw m66 (wm la ([]) a) 255 hm66 hla (by first | decide | omega) (by omega)) ⟨Nat.le_of_ble_eq_true rfl, Nat.le_of_ble_eq_true rfl⟩ ⟨Nat.zero_le _, Nat.zero_le _⟩ hK hZ hS hP (hD.weaken (fun _ _ _ _ => trivial)) hF_80 zP_nil zAp_nil rfl rfl rfl rfl hl.1 rfl (Nat.le_of_ble_eq_true rfl) d_MO_caseOf_80 (fun w_80 H locs h_80 pp_80 dd_80 zz_80 kk_80 hS => ?_)
            obtain ⟨m80, rfl, hm80⟩ := h_80
            have hw80 := wm_len la (wm la ([]) a) 255
            have hP : va_P g.1 classes [(r 0, .inr (4, [.int (iI ut), .int (iI uc), .int (iI la), .int (iI wo), .ref (r 1), .ref (r 2), .ref (r 3), .int (iI ((((wm la (wm la ([]) a) 255).length : Nat) : Int))), .ref (r 4)])), (r 1, .inl (zJ g, 139264, .inr (.inl (lA bw)))), (r 2, .inl (zBt g, 12544, .inl (ai kF))), (r 3, .inl (zI g, 4, .inl (ai m80))), (r 4, .inl (zI g, 14, .inl (ai PT)))] H := pp_80
            have hD : va_D A [(r 0, .inr (4, [.int (iI ut), .int (iI uc), .int (iI la), .int (iI wo), .ref (r 1), .ref (r 2), .ref (r 3), .int (iI ((((wm la (wm la ([]) a) 255).length : Nat) : Int))), .ref (r 4)])), (r 1, .inl (zJ g, 139264, .inr (.inl (lA bw)))), (r 2, .inl (zBt g, 12544, .inl (ai kF))), (r 3, .inl (zI g, 4, .inl (ai m80))), (r 4, .inl (zI g, 14, .inl (ai PT)))] := dd_80.weaken (fun _ _ _ h9 => hF_80 _ h9)
            refine lv_goto (tgt := 112) hx hb d_MO_caseOf_83 (by decide) ?_
            exact J112 pl a m80 (wm la (wm la ([]) a) 255) _ _ ls (lv_sub hl [0, 1, 2, 3] rfl) (by exact hpl) (by exact ha9) (by exact hab) (by exact hm80) (by omega) (by unfold kinL; rw [← ha9, if_neg (by omega)]; rw [if_pos c_73]) hP hD hS
        · exact absurd c_55 (by decide)
      · refine ix_if_ne (tgt := 64) hx hb d_MO_caseOf_55 (by decide) (by omega) (fun c_55 => ?_) (fun c_55 => ?_)
        · exact absurd c_55 (by decide)
        · refine lv_aload_n hx hb d_MO_caseOf_58 rfl (lv_at hl 0 rfl) ?_
          refine lv_iload_n hx hb d_MO_caseOf_59 rfl (lv_at hl 1 rfl) ?_
          have hF_60 := va_free (wc := [(r 0, .inr (4, [.int (iI ut), .int (iI uc), .int (iI la), .int (iI wo), .ref (r 1), .ref (r 2), .ref (r 3), .int (iI 0), .ref (r 4)])), (r 1, .inl (zJ g, 139264, .inr (.inl (lA bw)))), (r 2, .inl (zBt g, 12544, .inl (ai kF))), (r 3, .inl (zI g, 4, .inl (ai mt))), (r 4, .inl (zI g, 14, .inl (ai PT)))]) hD hS hA [0, 1, 2, 3, 4] rfl
          refine zcVv (ci := 4) (q0 := 0) (As := [.int (iI c)]) (rest := []) ⟨hx, hb, hml, hown, ht⟩ v_MO_92 (c_MO_withMate l g H.size r ut uc la wo bw mt ([]) c (fun i h9 => absurd h9 (Nat.not_lt_zero _)) hla (by first | decide | omega) (by omega)) ⟨Nat.le_of_ble_eq_true rfl, Nat.le_of_ble_eq_true rfl⟩ ⟨Nat.zero_le _, Nat.zero_le _⟩ hK hZ hS hP (hD.weaken (fun _ _ _ _ => trivial)) hF_60 zP_nil zAp_nil rfl rfl rfl rfl hl.1 rfl (Nat.le_of_ble_eq_true rfl) d_MO_caseOf_60 (fun w_60 H locs h_60 pp_60 dd_60 zz_60 kk_60 hS => ?_)
          obtain ⟨m60, rfl, hm60⟩ := h_60
          have hw60 := wm_len la ([]) c
          have hz60 : ([] : List Int).length = 0 := rfl
          have hP : va_P g.1 classes [(r 0, .inr (4, [.int (iI ut), .int (iI uc), .int (iI la), .int (iI wo), .ref (r 1), .ref (r 2), .ref (r 3), .int (iI ((((wm la ([]) c).length : Nat) : Int))), .ref (r 4)])), (r 1, .inl (zJ g, 139264, .inr (.inl (lA bw)))), (r 2, .inl (zBt g, 12544, .inl (ai kF))), (r 3, .inl (zI g, 4, .inl (ai m60))), (r 4, .inl (zI g, 14, .inl (ai PT)))] H := pp_60
          have hD : va_D A [(r 0, .inr (4, [.int (iI ut), .int (iI uc), .int (iI la), .int (iI wo), .ref (r 1), .ref (r 2), .ref (r 3), .int (iI ((((wm la ([]) c).length : Nat) : Int))), .ref (r 4)])), (r 1, .inl (zJ g, 139264, .inr (.inl (lA bw)))), (r 2, .inl (zBt g, 12544, .inl (ai kF))), (r 3, .inl (zI g, 4, .inl (ai m60))), (r 4, .inl (zI g, 14, .inl (ai PT)))] := dd_60.weaken (fun _ _ _ h9 => hF_60 _ h9)
          subst hQ
          exact W.vret hx hb hr (fun t h9 hW => ⟨⟨_, rfl, ⟨m60, by rw [show kinL ut uc la c = wm la ([]) c by unfold kinL; rw [← ha9, if_pos (by omega)]], by rw [show kinL ut uc la c = wm la ([]) c by unfold kinL; rw [← ha9, if_pos (by omega)]]; exact hm60⟩, by rw [h9]; exact hP, va_K.moved hW.alike hK, hD⟩, hS.F h9⟩) hS.2.2 d_MO_caseOf_63
  have J25 : ∀ (pl : Int) (H : Heap) (locs : List Loc) (ls : Array Slot), lv_has ls 4 [(0, .ref (r 0)), (1, .int (iI c)), (2, .int (iI pl))] → ((pl = 1 ∧ ut = 0 ∧ uc = 0) ∨ (pl = 0 ∧ ¬ (ut = 0 ∧ uc = 0))) → va_P g.1 classes [(r 0, .inr (4, [.int (iI ut), .int (iI uc), .int (iI la), .int (iI wo), .ref (r 1), .ref (r 2), .ref (r 3), .int (iI 0), .ref (r 4)])), (r 1, .inl (zJ g, 139264, .inr (.inl (lA bw)))), (r 2, .inl (zBt g, 12544, .inl (ai kF))), (r 3, .inl (zI g, 4, .inl (ai mt))), (r 4, .inl (zI g, 14, .inl (ai PT)))] H → va_D A [(r 0, .inr (4, [.int (iI ut), .int (iI uc), .int (iI la), .int (iI wo), .ref (r 1), .ref (r 2), .ref (r 3), .int (iI 0), .ref (r 4)])), (r 1, .inl (zJ g, 139264, .inr (.inl (lA bw)))), (r 2, .inl (zBt g, 12544, .inl (ai kF))), (r 3, .inl (zI g, 4, .inl (ai mt))), (r 4, .inl (zI g, 14, .inl (ai PT)))] → va_S A s.heap H locs → W p l e (headSpec w_MO_caseOf { frames := 3, cells := 0, slots := 0, locals := 66 }).room s m args below meth cd H locs 0 0 Q (F0 m 25 ls []) := by
    intro pl H locs ls hl hpl hP hD hS
    refine lv_iload_n hx hb d_MO_caseOf_25 rfl (lv_at hl 1 rfl) ?_
    refine lv_sipush (v := iI 8704) hx hb d_MO_caseOf_26 (by decide) ?_
    refine ix_icmp_le (tgt := 36) hx hb d_MO_caseOf_29 (by decide) (by omega) (fun c_29 => ?_) (fun c_29 => ?_)
    · refine lv_aload_n hx hb d_MO_caseOf_36 rfl (lv_at hl 0 rfl) ?_
      refine lv_iload_n hx hb d_MO_caseOf_37 rfl (lv_at hl 1 rfl) ?_
      refine zcV (ci := 4) (q0 := 0) (As := [.int (iI c)]) (rest := []) ⟨hx, hb, hml, hown, ht⟩ v_MO_89 (c_MO_first l g r ut uc la wo bw mt ms c (by omega)) ⟨Nat.le_of_ble_eq_true rfl, Nat.le_of_ble_eq_true rfl⟩ ⟨Nat.zero_le _, Nat.zero_le _⟩ hK hZ hS hP rfl rfl rfl rfl hl.1 rfl (Nat.le_of_ble_eq_true rfl) d_MO_caseOf_38 (fun r_38 h_38 => ?_)
      subst h_38
      have q_38 := firstF_bd c (by omega)
      refine lv_istore_n (lv' := [(3, .int (iI (firstF c))), (0, .ref (r 0)), (1, .int (iI c)), (2, .int (iI pl))]) hx hb d_MO_caseOf_41 rfl hl (by decide) rfl (fun ls hl => ?_)
      exact J42 pl (firstF c) _ _ ls (lv_sub hl [1, 2, 3, 0] rfl) (by exact hpl) (by unfold aF; first | rw [if_pos (by omega)] | rw [if_neg (by omega)]) (by omega) hP hD hS
    · refine lv_iload_n hx hb d_MO_caseOf_32 rfl (lv_at hl 1 rfl) ?_
      refine lv_goto (tgt := 41) hx hb d_MO_caseOf_33 (by decide) ?_
      refine lv_istore_n (lv' := [(3, .int (iI c)), (0, .ref (r 0)), (1, .int (iI c)), (2, .int (iI pl))]) hx hb d_MO_caseOf_41 rfl hl (by decide) rfl (fun ls hl => ?_)
      exact J42 pl c _ _ ls (lv_sub hl [1, 2, 3, 0] rfl) (by exact hpl) (by unfold aF; first | rw [if_pos (by omega)] | rw [if_neg (by omega)]) (by omega) hP hD hS
  refine lv_aload_n hx hb d_MO_caseOf_0 rfl (lv_at hl 0 rfl) ?_
  refine lv_iconst (v := iI 0) hx hb d_MO_caseOf_1 rfl ?_
  refine va_put (D := g.1) (ci := 4) (v := .int (iI 0)) (ty := .int) (C := R_MO) (T := F_MO) (N := 9) hx hb ht i_MO t_MO t_MO_ok n_MO hown hK hP hD hS 0 rfl rfl 7 (by decide) (ht _ k_425) (fun _ h9 => h9) rfl (by decide +kernel) rfl rfl (Nat.le_of_ble_eq_true rfl) d_MO_caseOf_2 (fun H locs hP hD hS => ?_)
  have hP : va_P g.1 classes [(r 0, .inr (4, [.int (iI ut), .int (iI uc), .int (iI la), .int (iI wo), .ref (r 1), .ref (r 2), .ref (r 3), .int (iI 0), .ref (r 4)])), (r 1, .inl (zJ g, 139264, .inr (.inl (lA bw)))), (r 2, .inl (zBt g, 12544, .inl (ai kF))), (r 3, .inl (zI g, 4, .inl (ai mt))), (r 4, .inl (zI g, 14, .inl (ai PT)))] H := hP
  have hD : va_D A [(r 0, .inr (4, [.int (iI ut), .int (iI uc), .int (iI la), .int (iI wo), .ref (r 1), .ref (r 2), .ref (r 3), .int (iI 0), .ref (r 4)])), (r 1, .inl (zJ g, 139264, .inr (.inl (lA bw)))), (r 2, .inl (zBt g, 12544, .inl (ai kF))), (r 3, .inl (zI g, 4, .inl (ai mt))), (r 4, .inl (zI g, 14, .inl (ai PT)))] := hD
  refine lv_aload_n hx hb d_MO_caseOf_5 rfl (lv_at hl 0 rfl) ?_
  refine va_get (D := g.1) (ci := 4) (v := .int (iI ut)) (C := R_MO) (T := F_MO) (N := 9) hx hb ht i_MO hown hK hP 0 rfl rfl 0 (by decide) (ht _ k_418) (fun _ h9 => h9) rfl d_MO_caseOf_6 ?_
  refine ix_if_ne (tgt := 23) hx hb d_MO_caseOf_9 (by decide) (by omega) (fun c_9 => ?_) (fun c_9 => ?_)
  · refine lv_iconst (v := iI 0) hx hb d_MO_caseOf_23 rfl ?_
    refine lv_istore_n (lv' := [(2, .int (iI 0)), (0, .ref (r 0)), (1, .int (iI c))]) hx hb d_MO_caseOf_24 rfl hl (by decide) rfl (fun ls hl => ?_)
    exact J25 0 _ _ ls (lv_sub hl [1, 2, 0] rfl) (by omega) hP hD hS
  · refine lv_aload_n hx hb d_MO_caseOf_12 rfl (lv_at hl 0 rfl) ?_
    refine va_get (D := g.1) (ci := 4) (v := .int (iI uc)) (C := R_MO) (T := F_MO) (N := 9) hx hb ht i_MO hown hK hP 0 rfl rfl 1 (by decide) (ht _ k_419) (fun _ h9 => h9) rfl d_MO_caseOf_13 ?_
    refine ix_if_ne (tgt := 23) hx hb d_MO_caseOf_16 (by decide) (by omega) (fun c_16 => ?_) (fun c_16 => ?_)
    · refine lv_iconst (v := iI 0) hx hb d_MO_caseOf_23 rfl ?_
      refine lv_istore_n (lv' := [(2, .int (iI 0)), (0, .ref (r 0)), (1, .int (iI c))]) hx hb d_MO_caseOf_24 rfl hl (by decide) rfl (fun ls hl => ?_)
      exact J25 0 _ _ ls (lv_sub hl [1, 2, 0] rfl) (by omega) hP hD hS
    · refine lv_iconst (v := iI 1) hx hb d_MO_caseOf_19 rfl ?_
      refine lv_goto (tgt := 24) hx hb d_MO_caseOf_20 (by decide) ?_
      refine lv_istore_n (lv' := [(2, .int (iI 1)), (0, .ref (r 0)), (1, .int (iI c))]) hx hb d_MO_caseOf_24 rfl hl (by decide) rfl (fun ls hl => ?_)
      exact J25 1 _ _ ls (lv_sub hl [1, 2, 0] rfl) (by omega) hP hD hS
