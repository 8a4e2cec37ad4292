set_option maxHeartbeats 4000000 in
set_option maxRecDepth 100000 in
theorem c_MO_ones (l : Launch) (g : zG) (r : Nat → Nat) (ut uc la wo : Int) (bw : Nat → Nat) (mt : Nat → Int) (ms : Int) (b : Nat) (hb64 : b < 18446744073709551616) : Met l y_MO_ones w_MO_ones (zr 0 0) (zP g [.ref (r 0), .long (lN b)] [(r 0, .inr (4, [.int (iI ut), .int (iI uc), .int (iI la), .int (iI wo), .ref (r 1), .ref (r 2), .ref (r 3), .int (iI ms), .ref (r 4)])), (r 1, .inl (zJ g, 139264, .inr (.inl (lA bw)))), (r 2, .inl (zBt g, 12544, .inl (ai kF))), (r 3, .inl (zI g, 4, .inl (ai mt))), (r 4, .inl (zI g, 14, .inl (ai PT)))]) (vp_Si (fun z => z = iI ((cnt (fun i => b.testBit i) 64 : Nat) : Int))) 0 0 (fun _ => False) := by
  refine Met.ofW (cc := b_MO_ones) (maxL := 5) (ret := (some .int)) (by decide) rfl ?_
  intro p e s m args below meth cd s₁ B hml hv
  obtain ⟨hargs, hP, hK, hZ⟩ := hv
  have hx := B.exec
  have hb := B.bytes
  have hr := B.returns
  have ht : ∀ w ∈ lw_ok, w.before args s = true := fun w h => atoms_spec (ws := w_MO_ones) B.pre w (List.mem_cons_of_mem _ h)
  have hown : s.vm.findClass R_MO = some m.cls := findClass_of_methodNamed B.named
  have hlocks := B.notSynchronized
  have hS : va_S (fun _ => False) s.heap s.heap [] := va_S.rf
  generalize hQ : MQ below _ args s 0 0 _ = Q
  have hl := lv_entry ([.ref (r 0), .long (lN b)]) (n := 5) (Nat.le_of_ble_eq_true rfl)
  rw [show entryFrame m args 5 = entryFrame m ([.ref (r 0), .long (lN b)] : List Value).toArray 5 by rw [hargs], lg_entry_eq]
  generalize (lg_sl ([.ref (r 0), .long (lN b)]) ++ List.replicate (5 - (lg_sl ([.ref (r 0), .long (lN b)])).length) Slot.unset).toArray = ls at hl ⊢
  have hl : lv_has ls 5 [(0, .ref (r 0)), (1, .long (lN b))] := hl
  obtain ⟨n1, e1⟩ : ∃ n1, n1 = b - ((b / 2) &&& 6148914691236517205) := ⟨_, rfl⟩
  obtain ⟨n2, e2⟩ : ∃ n2, n2 = (n1 &&& 3689348814741910323) + ((n1 / 4) &&& 3689348814741910323) := ⟨_, rfl⟩
  obtain ⟨n3, e3⟩ : ∃ n3, n3 = (n2 + n2 / 16) &&& 1085102592571150095 := ⟨_, rfl⟩
  obtain ⟨g1, g2, g3, g4, g5, g6⟩ := ones_nat b hb64 n1 n2 n3 e1 e2 e3
  have hcn : cnt (fun i => b.testBit i) 64 ≤ 64 := cnt_le _ 64
  refine lv_lload_n hx hb d_MO_ones_0 rfl (lv_at hl 1 rfl) ?_
  refine lv_lload_n hx hb d_MO_ones_1 rfl (lv_at hl 1 rfl) ?_
  refine lv_iconst (v := iI 1) hx hb d_MO_ones_2 rfl ?_
  refine lv_lushr (v := lN (b / 2)) hx hb d_MO_ones_3 (mo_ushr hb64 1 (by decide)) ?_
  refine lv_ldc2 (v := (6148914691236517205 : Int64)) hx hb hown (ht _ k_477) d_MO_ones_4 ?_
  rw [show (6148914691236517205 : Int64) = lN 6148914691236517205 by decide]
  refine lv_land hx hb d_MO_ones_7 ?_
  rw [show (lN (b / 2)) &&& (lN 6148914691236517205) = lN ((b / 2) &&& 6148914691236517205) from wb_and (Nat.lt_of_le_of_lt (Nat.div_le_self _ _) hb64) (by decide)]
  refine lv_lsub hx hb d_MO_ones_8 ?_
  rw [show (lN b) - (lN ((b / 2) &&& 6148914691236517205)) = lN n1 from (lN_sub g5).trans (congrArg lN e1.symm)]
  refine lv_lstore_n (lv' := [(3, .long (lN n1)), (0, .ref (r 0)), (1, .long (lN b))]) hx hb d_MO_ones_9 rfl hl (by decide) rfl (fun ls hl => ?_)
  refine lv_lload_n hx hb d_MO_ones_10 rfl (lv_at hl 0 rfl) ?_
  refine lv_ldc2 (v := (3689348814741910323 : Int64)) hx hb hown (ht _ k_478) d_MO_ones_11 ?_
  rw [show (3689348814741910323 : Int64) = lN 3689348814741910323 by decide]
  refine lv_land hx hb d_MO_ones_14 ?_
  rw [show (lN n1) &&& (lN 3689348814741910323) = lN (n1 &&& 3689348814741910323) from wb_and g1 (by decide)]
  refine lv_lload_n hx hb d_MO_ones_15 rfl (lv_at hl 0 rfl) ?_
  refine lv_iconst (v := iI 2) hx hb d_MO_ones_16 rfl ?_
  refine lv_lushr (v := lN (n1 / 4)) hx hb d_MO_ones_17 (mo_ushr g1 2 (by decide)) ?_
  refine lv_ldc2 (v := (3689348814741910323 : Int64)) hx hb hown (ht _ k_478) d_MO_ones_18 ?_
  rw [show (3689348814741910323 : Int64) = lN 3689348814741910323 by decide]
  refine lv_land hx hb d_MO_ones_21 ?_
  rw [show (lN (n1 / 4)) &&& (lN 3689348814741910323) = lN ((n1 / 4) &&& 3689348814741910323) from wb_and (Nat.lt_of_le_of_lt (Nat.div_le_self _ _) g1) (by decide)]
  refine lv_ladd hx hb d_MO_ones_22 ?_
  rw [show (lN (n1 &&& 3689348814741910323)) + (lN ((n1 / 4) &&& 3689348814741910323)) = lN n2 from (lN_add _ _).trans (congrArg lN e2.symm)]
  refine lv_lstore_n (lv' := [(3, .long (lN n2)), (0, .ref (r 0)), (1, .long (lN b))]) hx hb d_MO_ones_23 rfl hl (by decide) rfl (fun ls hl => ?_)
  refine lv_lload_n hx hb d_MO_ones_24 rfl (lv_at hl 0 rfl) ?_
  refine lv_lload_n hx hb d_MO_ones_25 rfl (lv_at hl 0 rfl) ?_
  refine lv_iconst (v := iI 4) hx hb d_MO_ones_26 rfl ?_
  refine lv_lushr (v := lN (n2 / 16)) hx hb d_MO_ones_27 (mo_ushr g2 4 (by decide)) ?_
  refine lv_ladd hx hb d_MO_ones_28 ?_
  rw [show (lN n2) + (lN (n2 / 16)) = lN (n2 + n2 / 16) from lN_add _ _]
  refine lv_ldc2 (v := (1085102592571150095 : Int64)) hx hb hown (ht _ k_479) d_MO_ones_29 ?_
  rw [show (1085102592571150095 : Int64) = lN 1085102592571150095 by decide]
  refine lv_land hx hb d_MO_ones_32 ?_
  rw [show (lN (n2 + n2 / 16)) &&& (lN 1085102592571150095) = lN n3 from (wb_and g3 (by decide)).trans (congrArg lN e3.symm)]
  refine lv_lstore_n (lv' := [(3, .long (lN n3)), (0, .ref (r 0)), (1, .long (lN b))]) hx hb d_MO_ones_33 rfl hl (by decide) rfl (fun ls hl => ?_)
  refine lv_lload_n hx hb d_MO_ones_34 rfl (lv_at hl 0 rfl) ?_
  refine lv_ldc2 (v := (72340172838076673 : Int64)) hx hb hown (ht _ k_480) d_MO_ones_35 ?_
  rw [show (72340172838076673 : Int64) = lN 72340172838076673 by decide]
  refine lv_lmul hx hb d_MO_ones_38 ?_
  rw [show (lN n3) * (lN 72340172838076673) = lN (n3 * 72340172838076673 % 18446744073709551616) from (lN_mul _ _).trans (wb_mod _)]
  refine lv_bipush (v := iI 56) hx hb d_MO_ones_39 (by decide) ?_
  refine lv_lushr (v := lN (n3 * 72340172838076673 % 18446744073709551616 / 72057594037927936)) hx hb d_MO_ones_41 (mo_ushr (Nat.mod_lt _ (by decide)) 56 (by decide)) ?_
  refine lv_l2i (v := iI (((cnt (fun i => b.testBit i) 64 : Nat) : Int))) hx hb d_MO_ones_42 (by rw [g6, lN_i, iI_nat]) ?_
  subst hQ
  exact W.iret (v := iI (((cnt (fun i => b.testBit i) 64 : Nat) : Int))) hx hb hr (fun t h9 hW => ⟨_, rfl, rfl, h9⟩) (fun _ h9 => by cases h9) d_MO_ones_43
