set_option maxHeartbeats 4000000 in
set_option maxRecDepth 100000 in
theorem c_MO_close (l : Launch) (g : zG) (sz : Nat) (r : Nat → Nat) (ut uc la wo : Int) (bw : Nat → Nat) (mt : Nat → Int) (ms : Int) (s9 : Int) (hs9 : -2147483648 ≤ s9 ∧ s9 ≤ 2147483647)(nw last : Nat) (hwo : wo = ((nw : Nat) : Int)) (hnw : nw ≤ 17408) (hla : la = ((last : Nat) : Int)) (hlw : 64 * nw = last + 1) (hbw : ∀ j, bw j < 18446744073709551616) (hut : (ut = 0 ∧ last = 255) ∨ (ut = 1 ∧ last = 1114111)) (huc : 0 ≤ uc ∧ uc ≤ 1) (hKK : ∀ tp : Nat, tp ≤ last → tp ≤ 8704 → ∀ d, d ≤ tp → ∀ y : Nat, ((y : Nat) : Int) ∈ kK ut uc la d → kK ut uc la y = kK ut uc la d) : Met l y_MO_close w_MO_close { frames := 4, cells := 0, slots := 0, locals := 89 } (zPw g [.ref (r 0), .int (iI s9)] ([(r 0, .inr (4, [.int (iI ut), .int (iI uc), .int (iI la), .int (iI wo), .ref (r 1), .ref (r 2), .ref (r 3), .int (iI ms), .ref (r 4)])), (r 1, .inl (zJ g, 139264, .inr (.inl (lA bw)))), (r 2, .inl (zBt g, 12544, .inl (ai kF))), (r 3, .inl (zI g, 4, .inl (ai mt))), (r 4, .inl (zI g, 14, .inl (ai PT)))]) [] sz) (va_Qi (fun z w => ((¬ (0 ≤ s9 ∧ s9 ≤ 7)) ∧ z = iI (-2) ∧ w = [(r 0, .inr (4, [.int (iI ut), .int (iI uc), .int (iI la), .int (iI wo), .ref (r 1), .ref (r 2), .ref (r 3), .int (iI ms), .ref (r 4)])), (r 1, .inl (zJ g, 139264, .inr (.inl (lA bw)))), (r 2, .inl (zBt g, 12544, .inl (ai kF))), (r 3, .inl (zI g, 4, .inl (ai mt))), (r 4, .inl (zI g, 14, .inl (ai PT)))]) ∨ (¬ (¬ (0 ≤ s9 ∧ s9 ≤ 7)) ∧ ∃ (b2 : Nat → Nat) (mt2 : Nat → Int) (ms2 : Int) (tp : Nat), tp = min last 8704 ∧ w = [(r 0, .inr (4, [.int (iI ut), .int (iI uc), .int (iI la), .int (iI wo), .ref (r 1), .ref (r 2), .ref (r 3), .int (iI ms2), .ref (r 4)])), (r 1, .inl (zJ g, 139264, .inr (.inl (lA b2)))), (r 2, .inl (zBt g, 12544, .inl (ai kF))), (r 3, .inl (zI g, 4, .inl (ai mt2))), (r 4, .inl (zI g, 14, .inl (ai PT)))] ∧ chg bw b2 s9.toNat (last + 1) (clB (kK ut uc la) tp (bt bw s9.toNat)) ∧ z = iI (((cnt (clB (kK ut uc la) tp (bt bw s9.toNat)) (last + 1) : Nat) : Int) - ((cnt (bt bw s9.toNat) (last + 1) : Nat) : Int)))) (zB g (va_A ([(r 0, .inr (4, [.int (iI ut), .int (iI uc), .int (iI la), .int (iI wo), .ref (r 1), .ref (r 2), .ref (r 3), .int (iI ms), .ref (r 4)])), (r 1, .inl (zJ g, 139264, .inr (.inl (lA bw)))), (r 2, .inl (zBt g, 12544, .inl (ai kF))), (r 3, .inl (zI g, 4, .inl (ai mt))), (r 4, .inl (zI g, 14, .inl (ai PT)))]) sz)) (va_A ([(r 0, .inr (4, [.int (iI ut), .int (iI uc), .int (iI la), .int (iI wo), .ref (r 1), .ref (r 2), .ref (r 3), .int (iI ms), .ref (r 4)])), (r 1, .inl (zJ g, 139264, .inr (.inl (lA bw)))), (r 2, .inl (zBt g, 12544, .inl (ai kF))), (r 3, .inl (zI g, 4, .inl (ai mt))), (r 4, .inl (zI g, 14, .inl (ai PT)))]) sz)) 0 0 (va_A ([(r 0, .inr (4, [.int (iI ut), .int (iI uc), .int (iI la), .int (iI wo), .ref (r 1), .ref (r 2), .ref (r 3), .int (iI ms), .ref (r 4)])), (r 1, .inl (zJ g, 139264, .inr (.inl (lA bw)))), (r 2, .inl (zBt g, 12544, .inl (ai kF))), (r 3, .inl (zI g, 4, .inl (ai mt))), (r 4, .inl (zI g, 14, .inl (ai PT)))]) sz) := by
  refine Met.ofW (cc := b_MO_close) (maxL := 6) (ret := (some .int)) (by decide) rfl ?_
  intro p e s m args below meth cd s₁ B hml hv
  obtain ⟨hargs, hsz, hP, hK, hD0, hZ, hO0, hAp⟩ := hv
  have hx := B.exec
  have hb := B.bytes
  have hr := B.returns
  have ht : ∀ w ∈ lw_ok, w.before args s = true := fun w h => atoms_spec (ws := w_MO_close) B.pre w (List.mem_cons_of_mem _ h)
  have hown : s.vm.findClass R_MO = some m.cls := findClass_of_methodNamed B.named
  have hlocks := B.notSynchronized
  subst hsz
  have hD := hD0.self (sz := s.heap.size)
  generalize hAe : va_A ([(r 0, .inr (4, [.int (iI ut), .int (iI uc), .int (iI la), .int (iI wo), .ref (r 1), .ref (r 2), .ref (r 3), .int (iI ms), .ref (r 4)])), (r 1, .inl (zJ g, 139264, .inr (.inl (lA bw)))), (r 2, .inl (zBt g, 12544, .inl (ai kF))), (r 3, .inl (zI g, 4, .inl (ai mt))), (r 4, .inl (zI g, 14, .inl (ai PT)))]) s.heap.size = A at hD hZ hAp ⊢
  have hA : ∀ q : Nat, s.heap.size ≤ q → A q := fun q h => by rw [← hAe]; exact Or.inr h
  have hS : va_S A s.heap s.heap [] := va_S.rf
  generalize hQ : MQ below _ args s 0 0 _ = Q
  have hl := lv_entry ([.ref (r 0), .int (iI s9)]) (n := 6) (Nat.le_of_ble_eq_true rfl)
  rw [show entryFrame m args 6 = entryFrame m ([.ref (r 0), .int (iI s9)] : List Value).toArray 6 by rw [hargs], lg_entry_eq]
  generalize (lg_sl ([.ref (r 0), .int (iI s9)]) ++ List.replicate (6 - (lg_sl ([.ref (r 0), .int (iI s9)])).length) Slot.unset).toArray = ls at hl ⊢
  have hl : lv_has ls 6 [(0, .ref (r 0)), (1, .int (iI s9))] := hl
  obtain ⟨H, locs, hHe, hLe⟩ : ∃ (H : Heap) (locs : List Loc), H = s.heap ∧ locs = [] := ⟨_, _, rfl, rfl⟩
  rw [show W p l e _ s m args below meth cd s.heap [] 0 0 Q = W p l e _ s m args below meth cd H locs 0 0 Q by rw [hHe, hLe]]
  rw [← hHe] at hP
  have hS : va_S A s.heap H locs := by rw [hHe, hLe]; exact hS
  have J69 : ∀ fu : Nat, ∀ (sn tp c i : Nat) (b3 : Nat → Nat) (m9 : Nat → Int) (H : Heap) (locs : List Loc) (ls : Array Slot), (kinL ut uc la ((c : Nat) : Int)).length - i < fu → lv_has ls 6 [(0, .ref (r 0)), (1, .int (iI (((sn : Nat) : Int)))), (2, .int (iI ((((cnt (bt bw sn) (64 * nw)) : Nat) : Int)))), (3, .int (iI (((tp : Nat) : Int)))), (4, .int (iI (((c : Nat) : Int)))), (5, .int (iI (((i : Nat) : Int))))] → (s9 = ((sn : Nat) : Int)) → (sn < 8) → ((tp = last ∧ last < 8704) ∨ (tp = 8704 ∧ 8704 ≤ last)) → (c ≤ tp) → (clI bw b3 sn (kK ut uc la) tp c) → (cSrc bw sn (kK ut uc la) tp c) → (i ≤ (kinL ut uc la ((c : Nat) : Int)).length) → (∀ j, j < (kinL ut uc la ((c : Nat) : Int)).length → m9 j = (kinL ut uc la ((c : Nat) : Int)).getD j 0) → (∀ j, j < i → bt b3 sn ((kinL ut uc la ((c : Nat) : Int)).getD j 0).toNat = true) → va_P g.1 classes ([(r 0, .inr (4, [.int (iI ut), .int (iI uc), .int (iI la), .int (iI wo), .ref (r 1), .ref (r 2), .ref (r 3), .int (iI ((((kinL ut uc la ((c : Nat) : Int)).length : Nat) : Int))), .ref (r 4)])), (r 1, .inl (zJ g, 139264, .inr (.inl (lA b3)))), (r 2, .inl (zBt g, 12544, .inl (ai kF))), (r 3, .inl (zI g, 4, .inl (ai m9))), (r 4, .inl (zI g, 14, .inl (ai PT)))]) H → va_D A ([(r 0, .inr (4, [.int (iI ut), .int (iI uc), .int (iI la), .int (iI wo), .ref (r 1), .ref (r 2), .ref (r 3), .int (iI ((((kinL ut uc la ((c : Nat) : Int)).length : Nat) : Int))), .ref (r 4)])), (r 1, .inl (zJ g, 139264, .inr (.inl (lA b3)))), (r 2, .inl (zBt g, 12544, .inl (ai kF))), (r 3, .inl (zI g, 4, .inl (ai m9))), (r 4, .inl (zI g, 14, .inl (ai PT)))]) → va_S A s.heap H locs → (∀ (b4 : Nat → Nat) (m4 : Nat → Int) (ms4 : Int) (H : Heap) (locs : List Loc) (ls : Array Slot), lv_has ls 6 [(0, .ref (r 0)), (1, .int (iI (((sn : Nat) : Int)))), (2, .int (iI ((((cnt (bt bw sn) (64 * nw)) : Nat) : Int)))), (3, .int (iI (((tp : Nat) : Int)))), (4, .int (iI (((c : Nat) : Int))))] → (c ≤ tp) → (clI bw b4 sn (kK ut uc la) tp (c + 1)) → va_P g.1 classes ([(r 0, .inr (4, [.int (iI ut), .int (iI uc), .int (iI la), .int (iI wo), .ref (r 1), .ref (r 2), .ref (r 3), .int (iI ms4), .ref (r 4)])), (r 1, .inl (zJ g, 139264, .inr (.inl (lA b4)))), (r 2, .inl (zBt g, 12544, .inl (ai kF))), (r 3, .inl (zI g, 4, .inl (ai m4))), (r 4, .inl (zI g, 14, .inl (ai PT)))]) H → va_D A ([(r 0, .inr (4, [.int (iI ut), .int (iI uc), .int (iI la), .int (iI wo), .ref (r 1), .ref (r 2), .ref (r 3), .int (iI ms4), .ref (r 4)])), (r 1, .inl (zJ g, 139264, .inr (.inl (lA b4)))), (r 2, .inl (zBt g, 12544, .inl (ai kF))), (r 3, .inl (zI g, 4, .inl (ai m4))), (r 4, .inl (zI g, 14, .inl (ai PT)))]) → va_S A s.heap H locs → W p l e (headSpec w_MO_close { frames := 4, cells := 0, slots := 0, locals := 89 }).room s m args below meth cd H locs 0 0 Q (F0 m 96 ls [])) → W p l e (headSpec w_MO_close { frames := 4, cells := 0, slots := 0, locals := 89 }).room s m args below meth cd H locs 0 0 Q (F0 m 69 ls []) := by
    intro fu
    induction fu with
    | zero => exact fun _ _ _ _ _ _ _ _ _ hfu _ _ _ _ _ _ _ _ _ _ _ _ _ _ => absurd hfu (Nat.not_lt_zero _)
    | succ fu ih =>
      intro sn tp c i b3 m9 H locs ls hfu hl hs9n hsn8 htp h1 hcl hsrc h2 hm9 hpre hP hD hS J96
      have hln := kinL_len ut uc la ((c : Nat) : Int)
      refine lv_iload hx hb d_MO_close_69 (lv_at hl 5 rfl) ?_
      refine lv_aload_n hx hb d_MO_close_71 rfl (lv_at hl 0 rfl) ?_
      refine va_get (D := g.1) (ci := 4) (v := .int (iI ((((kinL ut uc la ((c : Nat) : Int)).length : Nat) : Int)))) (C := R_MO) (T := F_MO) (N := 9) hx hb ht i_MO hown hK hP 0 rfl rfl 7 (by decide) (ht _ k_425) (fun _ h9 => h9) rfl d_MO_close_72 ?_
      refine ix_icmp_ge (tgt := 96) hx hb d_MO_close_75 (by decide) (by omega) (fun c_75 => ?_) (fun c_75 => ?_)
      · exact J96 b3 m9 ((((kinL ut uc la ((c : Nat) : Int)).length : Nat) : Int)) _ _ ls (lv_sub hl [0, 1, 2, 3, 4] rfl) (by omega) (by exact clI_all hcl (fun j hj => hpre j (by have : j < (kinL ut uc la ((c : Nat) : Int)).length := hj; omega))) hP hD hS
      · refine lv_aload_n hx hb d_MO_close_78 rfl (lv_at hl 0 rfl) ?_
        refine lv_iload_n hx hb d_MO_close_79 rfl (lv_at hl 1 rfl) ?_
        refine lv_aload_n hx hb d_MO_close_80 rfl (lv_at hl 0 rfl) ?_
        refine va_get (D := g.1) (ci := 4) (v := .ref (r 3)) (C := R_MO) (T := F_MO) (N := 9) hx hb ht i_MO hown hK hP 0 rfl rfl 6 (by decide) (ht _ k_424) (fun _ h9 => h9) rfl d_MO_close_81 ?_
        refine lv_iload hx hb d_MO_close_84 (lv_at hl 5 rfl) ?_
        refine ix_iald hx hb hK hP 3 0 rfl rfl (i := (((i : Nat) : Int))) i (by omega) d_MO_close_86 ?_
        have gin := gd_in (L := kinL ut uc la ((c : Nat) : Int)) (i := i) (by omega)
        have gb := kinL_bd ut uc la ((c : Nat) : Int) (by omega) _ gin
        obtain ⟨x9, hx9⟩ : ∃ x9 : Nat, (kinL ut uc la ((c : Nat) : Int)).getD i 0 = ((x9 : Nat) : Int) := ⟨((kinL ut uc la ((c : Nat) : Int)).getD i 0).toNat, by omega⟩
        rw [hm9 i (by omega), hx9]
        have hF_87 := va_free (wc := [(r 0, .inr (4, [.int (iI ut), .int (iI uc), .int (iI la), .int (iI wo), .ref (r 1), .ref (r 2), .ref (r 3), .int (iI ((((kinL ut uc la ((c : Nat) : Int)).length : Nat) : Int))), .ref (r 4)])), (r 1, .inl (zJ g, 139264, .inr (.inl (lA b3)))), (r 2, .inl (zBt g, 12544, .inl (ai kF))), (r 3, .inl (zI g, 4, .inl (ai m9))), (r 4, .inl (zI g, 14, .inl (ai PT)))]) hD hS hA [0, 1, 2, 3, 4] rfl
        refine zcVv (ci := 4) (q0 := 0) (As := [.int (iI (((sn : Nat) : Int))), .int (iI (((x9 : Nat) : Int)))]) (rest := []) ⟨hx, hb, hml, hown, ht⟩ v_MO_101 (c_MO_put l g H.size r ut uc la wo b3 m9 (((kinL ut uc la ((c : Nat) : Int)).length : Nat) : Int) sn x9 (by omega) (by omega) hcl.1) ⟨Nat.le_of_ble_eq_true rfl, Nat.le_of_ble_eq_true rfl⟩ ⟨Nat.zero_le _, Nat.zero_le _⟩ hK hZ hS hP (hD.weaken (fun _ _ _ _ => trivial)) hF_87 zP_nil zAp_nil rfl rfl rfl rfl hl.1 rfl (Nat.le_of_ble_eq_true rfl) d_MO_close_87 (fun w_87 H locs h_87 pp_87 dd_87 zz_87 kk_87 hS => ?_)
        subst h_87
        have hP : va_P g.1 classes [(r 0, .inr (4, [.int (iI ut), .int (iI uc), .int (iI la), .int (iI wo), .ref (r 1), .ref (r 2), .ref (r 3), .int (iI ((((kinL ut uc la ((c : Nat) : Int)).length : Nat) : Int))), .ref (r 4)])), (r 1, .inl (zJ g, 139264, .inr (.inl (lA (va_up b3 (sn * 17408 + x9 / 64) (b3 (sn * 17408 + x9 / 64) ||| 2 ^ (x9 % 64))))))), (r 2, .inl (zBt g, 12544, .inl (ai kF))), (r 3, .inl (zI g, 4, .inl (ai m9))), (r 4, .inl (zI g, 14, .inl (ai PT)))] H := pp_87
        have hD : va_D A [(r 0, .inr (4, [.int (iI ut), .int (iI uc), .int (iI la), .int (iI wo), .ref (r 1), .ref (r 2), .ref (r 3), .int (iI ((((kinL ut uc la ((c : Nat) : Int)).length : Nat) : Int))), .ref (r 4)])), (r 1, .inl (zJ g, 139264, .inr (.inl (lA (va_up b3 (sn * 17408 + x9 / 64) (b3 (sn * 17408 + x9 / 64) ||| 2 ^ (x9 % 64))))))), (r 2, .inl (zBt g, 12544, .inl (ai kF))), (r 3, .inl (zI g, 4, .inl (ai m9))), (r 4, .inl (zI g, 14, .inl (ai PT)))] := dd_87.weaken (fun _ _ _ h9 => hF_87 _ h9)
        refine lv_iinc (v := iI ((((i : Nat) : Int)) + 1)) (lv' := [(5, .int (iI ((((i : Nat) : Int)) + 1))), (0, .ref (r 0)), (1, .int (iI (((sn : Nat) : Int)))), (2, .int (iI ((((cnt (bt bw sn) (64 * nw)) : Nat) : Int)))), (3, .int (iI (((tp : Nat) : Int)))), (4, .int (iI (((c : Nat) : Int))))]) hx hb d_MO_close_90 hl (k := 5) rfl (iI_add _ _) (by decide) rfl (fun ls hl => ?_)
        refine lv_goto (tgt := 69) hx hb d_MO_close_93 (by decide) ?_
        exact ih sn tp c (i + 1) (va_up b3 (sn * 17408 + x9 / 64) (b3 (sn * 17408 + x9 / 64) ||| 2 ^ (x9 % 64))) m9 _ _ ls (by omega) (lv_sub hl [1, 2, 3, 4, 5, 0] rfl) (by exact hs9n) (by omega) (by omega) (by omega) (by exact clI_put hcl hsrc (hKK tp (by omega) (by omega)) (by omega) (by rw [← hx9]; exact gin) (by omega)) (by exact hsrc) (by omega) (by exact hm9) (by exact pre_s hpre (by omega) (fun y hy => by have := kinL_bd ut uc la ((c : Nat) : Int) (by omega) y hy; omega) hx9 (by omega)) hP hD hS J96
  have J41 : ∀ fu : Nat, ∀ (sn tp c : Nat) (b2 : Nat → Nat) (mt2 : Nat → Int) (ms2 : Int) (H : Heap) (locs : List Loc) (ls : Array Slot), tp + 1 - c < fu → lv_has ls 6 [(0, .ref (r 0)), (1, .int (iI (((sn : Nat) : Int)))), (2, .int (iI ((((cnt (bt bw sn) (64 * nw)) : Nat) : Int)))), (3, .int (iI (((tp : Nat) : Int)))), (4, .int (iI (((c : Nat) : Int))))] → (s9 = ((sn : Nat) : Int)) → (sn < 8) → ((tp = last ∧ last < 8704) ∨ (tp = 8704 ∧ 8704 ≤ last)) → (c ≤ tp + 1) → (clI bw b2 sn (kK ut uc la) tp c) → va_P g.1 classes ([(r 0, .inr (4, [.int (iI ut), .int (iI uc), .int (iI la), .int (iI wo), .ref (r 1), .ref (r 2), .ref (r 3), .int (iI ms2), .ref (r 4)])), (r 1, .inl (zJ g, 139264, .inr (.inl (lA b2)))), (r 2, .inl (zBt g, 12544, .inl (ai kF))), (r 3, .inl (zI g, 4, .inl (ai mt2))), (r 4, .inl (zI g, 14, .inl (ai PT)))]) H → va_D A ([(r 0, .inr (4, [.int (iI ut), .int (iI uc), .int (iI la), .int (iI wo), .ref (r 1), .ref (r 2), .ref (r 3), .int (iI ms2), .ref (r 4)])), (r 1, .inl (zJ g, 139264, .inr (.inl (lA b2)))), (r 2, .inl (zBt g, 12544, .inl (ai kF))), (r 3, .inl (zI g, 4, .inl (ai mt2))), (r 4, .inl (zI g, 14, .inl (ai PT)))]) → va_S A s.heap H locs → W p l e (headSpec w_MO_close { frames := 4, cells := 0, slots := 0, locals := 89 }).room s m args below meth cd H locs 0 0 Q (F0 m 41 ls []) := by
    intro fu
    induction fu with
    | zero => exact fun _ _ _ _ _ _ _ _ _ hfu _ _ _ _ _ _ _ _ _ => absurd hfu (Nat.not_lt_zero _)
    | succ fu ih =>
      intro sn tp c b2 mt2 ms2 H locs ls hfu hl hs9n hsn8 htp h1 hcl hP hD hS
      have J96 : ∀ (b4 : Nat → Nat) (m4 : Nat → Int) (ms4 : Int) (H : Heap) (locs : List Loc) (ls : Array Slot), lv_has ls 6 [(0, .ref (r 0)), (1, .int (iI (((sn : Nat) : Int)))), (2, .int (iI ((((cnt (bt bw sn) (64 * nw)) : Nat) : Int)))), (3, .int (iI (((tp : Nat) : Int)))), (4, .int (iI (((c : Nat) : Int))))] → (c ≤ tp) → (clI bw b4 sn (kK ut uc la) tp (c + 1)) → va_P g.1 classes ([(r 0, .inr (4, [.int (iI ut), .int (iI uc), .int (iI la), .int (iI wo), .ref (r 1), .ref (r 2), .ref (r 3), .int (iI ms4), .ref (r 4)])), (r 1, .inl (zJ g, 139264, .inr (.inl (lA b4)))), (r 2, .inl (zBt g, 12544, .inl (ai kF))), (r 3, .inl (zI g, 4, .inl (ai m4))), (r 4, .inl (zI g, 14, .inl (ai PT)))]) H → va_D A ([(r 0, .inr (4, [.int (iI ut), .int (iI uc), .int (iI la), .int (iI wo), .ref (r 1), .ref (r 2), .ref (r 3), .int (iI ms4), .ref (r 4)])), (r 1, .inl (zJ g, 139264, .inr (.inl (lA b4)))), (r 2, .inl (zBt g, 12544, .inl (ai kF))), (r 3, .inl (zI g, 4, .inl (ai m4))), (r 4, .inl (zI g, 14, .inl (ai PT)))]) → va_S A s.heap H locs → W p l e (headSpec w_MO_close { frames := 4, cells := 0, slots := 0, locals := 89 }).room s m args below meth cd H locs 0 0 Q (F0 m 96 ls []) := by
        intro b4 m4 ms4 H locs ls hl h1 hcl4 hP hD hS
        refine lv_iinc (v := iI ((((c : Nat) : Int)) + 1)) (lv' := [(4, .int (iI ((((c : Nat) : Int)) + 1))), (0, .ref (r 0)), (1, .int (iI (((sn : Nat) : Int)))), (2, .int (iI ((((cnt (bt bw sn) (64 * nw)) : Nat) : Int)))), (3, .int (iI (((tp : Nat) : Int))))]) hx hb d_MO_close_96 hl (k := 4) rfl (iI_add _ _) (by decide) rfl (fun ls hl => ?_)
        refine lv_goto (tgt := 41) hx hb d_MO_close_99 (by decide) ?_
        exact ih sn tp (c + 1) b4 m4 ms4 _ _ ls (by omega) (lv_sub hl [1, 2, 3, 4, 0] rfl) (by exact hs9n) (by omega) (by omega) (by omega) (by exact hcl4) hP hD hS
      refine lv_iload hx hb d_MO_close_41 (lv_at hl 4 rfl) ?_
      refine lv_iload_n hx hb d_MO_close_43 rfl (lv_at hl 3 rfl) ?_
      refine ix_icmp_gt (tgt := 102) hx hb d_MO_close_44 (by decide) (by omega) (fun c_44 => ?_) (fun c_44 => ?_)
      · have hct : c = tp + 1 := by omega
        rw [hct] at hcl
        refine lv_aload_n hx hb d_MO_close_102 rfl (lv_at hl 0 rfl) ?_
        refine lv_iload_n hx hb d_MO_close_103 rfl (lv_at hl 1 rfl) ?_
        refine zcV (ci := 4) (q0 := 0) (As := [.int (iI (((sn : Nat) : Int)))]) (rest := []) ⟨hx, hb, hml, hown, ht⟩ v_MO_155 (c_MO_count l g r ut uc la wo b2 mt2 ms2 sn nw hwo hnw (by omega) hcl.1) ⟨Nat.le_of_ble_eq_true rfl, Nat.le_of_ble_eq_true rfl⟩ ⟨Nat.zero_le _, Nat.zero_le _⟩ hK hZ hS hP rfl rfl rfl rfl hl.1 rfl (Nat.le_of_ble_eq_true rfl) d_MO_close_104 (fun r_104 h_104 => ?_)
        subst h_104
        refine lv_iload_n hx hb d_MO_close_107 rfl (lv_at hl 2 rfl) ?_
        refine ix_isub hx hb d_MO_close_108 ?_
        subst hQ
        exact W.iret (v := iI (((((cnt (bt b2 sn) (64 * nw)) : Nat) : Int)) - ((((cnt (bt bw sn) (64 * nw)) : Nat) : Int)))) hx hb hr (fun t h9 hW => ⟨⟨_, _, rfl, Or.inr ⟨by omega, b2, mt2, ms2, tp, by omega, rfl, by rw [show s9.toNat = sn by omega]; exact clI_chg hcl (by omega), by rw [show s9.toNat = sn by omega, hlw, chg_c (clI_chg (lim := last + 1) hcl (by omega))]⟩, by rw [h9]; exact hP, va_K.moved hW.alike hK, hD⟩, hS.F h9⟩) hS.2.2 d_MO_close_109
      · refine lv_aload_n hx hb d_MO_close_47 rfl (lv_at hl 0 rfl) ?_
        refine lv_iload_n hx hb d_MO_close_48 rfl (lv_at hl 1 rfl) ?_
        refine lv_iload hx hb d_MO_close_49 (lv_at hl 4 rfl) ?_
        refine zcV (ci := 4) (q0 := 0) (As := [.int (iI (((sn : Nat) : Int))), .int (iI (((c : Nat) : Int)))]) (rest := []) ⟨hx, hb, hml, hown, ht⟩ v_MO_158 (c_MO_in l g r ut uc la wo b2 mt2 ms2 sn c (by omega) (by omega) hcl.1) ⟨Nat.le_of_ble_eq_true rfl, Nat.le_of_ble_eq_true rfl⟩ ⟨Nat.zero_le _, Nat.zero_le _⟩ hK hZ hS hP rfl rfl rfl rfl hl.1 rfl (Nat.le_of_ble_eq_true rfl) d_MO_close_51 (fun r_51 h_51 => ?_)
        rcases h_51 with ⟨h_51, rfl⟩ | ⟨h_51, rfl⟩
        · refine ix_if_ne (tgt := 60) hx hb d_MO_close_54 (by decide) (by omega) (fun c_54 => ?_) (fun c_54 => ?_)
          · refine lv_aload_n hx hb d_MO_close_60 rfl (lv_at hl 0 rfl) ?_
            refine lv_iload hx hb d_MO_close_61 (lv_at hl 4 rfl) ?_
            have hF_63 := va_free (wc := [(r 0, .inr (4, [.int (iI ut), .int (iI uc), .int (iI la), .int (iI wo), .ref (r 1), .ref (r 2), .ref (r 3), .int (iI ms2), .ref (r 4)])), (r 1, .inl (zJ g, 139264, .inr (.inl (lA b2)))), (r 2, .inl (zBt g, 12544, .inl (ai kF))), (r 3, .inl (zI g, 4, .inl (ai mt2))), (r 4, .inl (zI g, 14, .inl (ai PT)))]) hD hS hA [0, 1, 2, 3, 4] rfl
            refine zcVv (ci := 4) (q0 := 0) (As := [.int (iI (((c : Nat) : Int)))]) (rest := []) ⟨hx, hb, hml, hown, ht⟩ v_MO_96 (c_MO_caseOf l g H.size r ut uc la wo b2 mt2 ms2 ((c : Nat) : Int) (by omega) huc (by omega) (by omega)) ⟨Nat.le_of_ble_eq_true rfl, Nat.le_of_ble_eq_true rfl⟩ ⟨Nat.zero_le _, Nat.zero_le _⟩ hK hZ hS hP (hD.weaken (fun _ _ _ _ => trivial)) hF_63 zP_nil zAp_nil rfl rfl rfl rfl hl.1 rfl (Nat.le_of_ble_eq_true rfl) d_MO_close_63 (fun w_63 H locs h_63 pp_63 dd_63 zz_63 kk_63 hS => ?_)
            obtain ⟨m9, rfl, hm9⟩ := h_63
            have hP : va_P g.1 classes [(r 0, .inr (4, [.int (iI ut), .int (iI uc), .int (iI la), .int (iI wo), .ref (r 1), .ref (r 2), .ref (r 3), .int (iI ((((kinL ut uc la ((c : Nat) : Int)).length : Nat) : Int))), .ref (r 4)])), (r 1, .inl (zJ g, 139264, .inr (.inl (lA b2)))), (r 2, .inl (zBt g, 12544, .inl (ai kF))), (r 3, .inl (zI g, 4, .inl (ai m9))), (r 4, .inl (zI g, 14, .inl (ai PT)))] H := pp_63
            have hD : va_D A [(r 0, .inr (4, [.int (iI ut), .int (iI uc), .int (iI la), .int (iI wo), .ref (r 1), .ref (r 2), .ref (r 3), .int (iI ((((kinL ut uc la ((c : Nat) : Int)).length : Nat) : Int))), .ref (r 4)])), (r 1, .inl (zJ g, 139264, .inr (.inl (lA b2)))), (r 2, .inl (zBt g, 12544, .inl (ai kF))), (r 3, .inl (zI g, 4, .inl (ai m9))), (r 4, .inl (zI g, 14, .inl (ai PT)))] := dd_63.weaken (fun _ _ _ h9 => hF_63 _ h9)
            refine lv_iconst (v := iI 0) hx hb d_MO_close_66 rfl ?_
            refine lv_istore (lv' := [(5, .int (iI 0)), (0, .ref (r 0)), (1, .int (iI (((sn : Nat) : Int)))), (2, .int (iI ((((cnt (bt bw sn) (64 * nw)) : Nat) : Int)))), (3, .int (iI (((tp : Nat) : Int)))), (4, .int (iI (((c : Nat) : Int))))]) hx hb d_MO_close_67 hl (by decide) rfl (fun ls hl => ?_)
            exact J69 (_ + 1) sn tp c 0 b2 m9 _ _ ls (Nat.lt_succ_self _) (lv_sub hl [1, 2, 3, 4, 5, 0] rfl) (by exact hs9n) (by omega) (by omega) (by omega) (by exact hcl) (by exact clI_src hcl (by omega) h_51) (by omega) (by exact hm9) (by exact fun j hj => absurd hj (by omega)) hP hD hS J96
          · exact absurd c_54 (by decide)
        · refine ix_if_ne (tgt := 60) hx hb d_MO_close_54 (by decide) (by omega) (fun c_54 => ?_) (fun c_54 => ?_)
          · exact absurd c_54 (by decide)
          · refine lv_goto (tgt := 96) hx hb d_MO_close_57 (by decide) ?_
            exact J96 b2 mt2 ms2 _ _ ls (lv_sub hl [0, 1, 2, 3, 4] rfl) (by omega) (by exact clI_skip hcl (by omega) h_51) hP hD hS
  refine lv_aload_n hx hb d_MO_close_0 rfl (lv_at hl 0 rfl) ?_
  refine lv_iload_n hx hb d_MO_close_1 rfl (lv_at hl 1 rfl) ?_
  refine zcV (ci := 4) (q0 := 0) (As := [.int (iI s9)]) (rest := []) ⟨hx, hb, hml, hown, ht⟩ v_MO_117 (c_MO_none l g r ut uc la wo bw mt ms s9 (by omega)) ⟨Nat.le_of_ble_eq_true rfl, Nat.le_of_ble_eq_true rfl⟩ ⟨Nat.zero_le _, Nat.zero_le _⟩ hK hZ hS hP rfl rfl rfl rfl hl.1 rfl (Nat.le_of_ble_eq_true rfl) d_MO_close_2 (fun r_2 h_2 => ?_)
  rcases h_2 with ⟨h_2, rfl⟩ | ⟨h_2, rfl⟩
  · refine ix_if_eq (tgt := 11) hx hb d_MO_close_5 (by decide) (by omega) (fun c_5 => ?_) (fun c_5 => ?_)
    · exact absurd c_5 (by decide)
    · refine lv_bipush (v := iI (-2)) hx hb d_MO_close_8 (by decide) ?_
      subst hQ
      exact W.iret (v := iI ((-2))) hx hb hr (fun t h9 hW => ⟨⟨_, _, rfl, Or.inl ⟨by omega, rfl, rfl⟩, by rw [h9]; exact hP, va_K.moved hW.alike hK, hD⟩, hS.F h9⟩) hS.2.2 d_MO_close_10
  · refine ix_if_eq (tgt := 11) hx hb d_MO_close_5 (by decide) (by omega) (fun c_5 => ?_) (fun c_5 => ?_)
    · obtain ⟨sn, hsn⟩ : ∃ sn : Nat, s9 = ((sn : Nat) : Int) := ⟨s9.toNat, by omega⟩
      rw [hsn] at hl
      refine lv_aload_n hx hb d_MO_close_11 rfl (lv_at hl 0 rfl) ?_
      refine lv_iload_n hx hb d_MO_close_12 rfl (lv_at hl 1 rfl) ?_
      refine zcV (ci := 4) (q0 := 0) (As := [.int (iI (((sn : Nat) : Int)))]) (rest := []) ⟨hx, hb, hml, hown, ht⟩ v_MO_155 (c_MO_count l g r ut uc la wo bw mt ms sn nw hwo hnw (by omega) hbw) ⟨Nat.le_of_ble_eq_true rfl, Nat.le_of_ble_eq_true rfl⟩ ⟨Nat.zero_le _, Nat.zero_le _⟩ hK hZ hS hP rfl rfl rfl rfl hl.1 rfl (Nat.le_of_ble_eq_true rfl) d_MO_close_13 (fun r_13 h_13 => ?_)
      subst h_13
      refine lv_istore_n (lv' := [(2, .int (iI ((((cnt (bt bw sn) (64 * nw)) : Nat) : Int)))), (0, .ref (r 0)), (1, .int (iI (((sn : Nat) : Int))))]) hx hb d_MO_close_16 rfl hl (by decide) rfl (fun ls hl => ?_)
      refine lv_aload_n hx hb d_MO_close_17 rfl (lv_at hl 1 rfl) ?_
      refine va_get (D := g.1) (ci := 4) (v := .int (iI la)) (C := R_MO) (T := F_MO) (N := 9) hx hb ht i_MO hown hK hP 0 rfl rfl 2 (by decide) (ht _ k_420) (fun _ h9 => h9) rfl d_MO_close_18 ?_
      refine lv_sipush (v := iI 8704) hx hb d_MO_close_21 (by decide) ?_
      refine ix_icmp_ge (tgt := 34) hx hb d_MO_close_24 (by decide) (by omega) (fun c_24 => ?_) (fun c_24 => ?_)
      · refine lv_sipush (v := iI 8704) hx hb d_MO_close_34 (by decide) ?_
        refine lv_istore_n (lv' := [(3, .int (iI 8704)), (2, .int (iI ((((cnt (bt bw sn) (64 * nw)) : Nat) : Int)))), (0, .ref (r 0)), (1, .int (iI (((sn : Nat) : Int))))]) hx hb d_MO_close_37 rfl hl (by decide) rfl (fun ls hl => ?_)
        refine lv_iconst (v := iI 0) hx hb d_MO_close_38 rfl ?_
        refine lv_istore (lv' := [(4, .int (iI 0)), (3, .int (iI 8704)), (2, .int (iI ((((cnt (bt bw sn) (64 * nw)) : Nat) : Int)))), (0, .ref (r 0)), (1, .int (iI (((sn : Nat) : Int))))]) hx hb d_MO_close_39 hl (by decide) rfl (fun ls hl => ?_)
        exact J41 (_ + 1) sn 8704 0 bw mt ms _ _ ls (Nat.lt_succ_self _) (lv_sub hl [3, 4, 2, 1, 0] rfl) (by exact hsn) (by omega) (by omega) (by omega) (by exact clI_0 hbw) hP hD hS
      · refine lv_aload_n hx hb d_MO_close_27 rfl (lv_at hl 1 rfl) ?_
        refine va_get (D := g.1) (ci := 4) (v := .int (iI la)) (C := R_MO) (T := F_MO) (N := 9) hx hb ht i_MO hown hK hP 0 rfl rfl 2 (by decide) (ht _ k_420) (fun _ h9 => h9) rfl d_MO_close_28 ?_
        refine lv_goto (tgt := 37) hx hb d_MO_close_31 (by decide) ?_
        rw [hla]
        refine lv_istore_n (lv' := [(3, .int (iI (((last : Nat) : Int)))), (2, .int (iI ((((cnt (bt bw sn) (64 * nw)) : Nat) : Int)))), (0, .ref (r 0)), (1, .int (iI (((sn : Nat) : Int))))]) hx hb d_MO_close_37 rfl hl (by decide) rfl (fun ls hl => ?_)
        refine lv_iconst (v := iI 0) hx hb d_MO_close_38 rfl ?_
        refine lv_istore (lv' := [(4, .int (iI 0)), (3, .int (iI (((last : Nat) : Int)))), (2, .int (iI ((((cnt (bt bw sn) (64 * nw)) : Nat) : Int)))), (0, .ref (r 0)), (1, .int (iI (((sn : Nat) : Int))))]) hx hb d_MO_close_39 hl (by decide) rfl (fun ls hl => ?_)
        exact J41 (_ + 1) sn last 0 bw mt ms _ _ ls (Nat.lt_succ_self _) (lv_sub hl [3, 4, 2, 1, 0] rfl) (by exact hsn) (by omega) (by omega) (by omega) (by exact clI_0 hbw) hP hD hS
    · exact absurd c_5 (by decide)
