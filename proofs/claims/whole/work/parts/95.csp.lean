/-- CATEGORIES of a property, one bit each -/
def catM (k : Nat) : Nat := ([1, 2, 4, 8, 16, 32, 64, 128, 256, 512, 1024, 2048, 4096, 8192, 16384, 32768, 65536, 131072, 262144, 524288, 1048576, 2097152, 4194304, 8388608, 16777216, 15, 112, 128, 1792, 260096, 3932160, 29360128, 0, 0, 0, 0, 0, 0, 0, 0, 0, 0, 0, 0, 33554431, 80, 1904, 1904, 29360128] : List Nat).getD k 0
theorem catM_shl : ∀ k, k < 25 → iI 1 <<< (iI ((k : Nat) : Int) &&& 31) = iI ((catM k : Nat) : Int) := by decide +kernel
theorem catM_let : ∀ k, k < 32 → 25 ≤ k → (stE 0).getD (k - 25) 0 = ((catM k : Nat) : Int) := by decide +kernel
theorem catM_0 : ∀ k, k < 44 → 32 ≤ k → catM k = 0 := by decide +kernel
theorem catM_lt : ∀ k, k < 49 → catM k < 33554432 := by decide +kernel
def proF (k : Nat) : Int := ([8, 47, 48, -1, -1, 26, 4, 6, 8, 46, 47, 48, -1, 1, -1, -1, -1, -1, -1] : List Int).getD k 0
def lisF (k : Nat) : Nat := ([2, 7, 8, 17, 16, 5, 3, 4, 2, 6, 7, 8, 9, 10, 11, 12, 13, 14, 15] : List Nat).getD k 1
set_option maxHeartbeats 4000000 in
set_option maxRecDepth 100000 in
theorem c_CS_categoriesOf (l : Launch) (g : zG) (k : Nat) (hk : k ≤ 48) : Met l y_CS_categoriesOf w_CS_categoriesOf (zr 0 0) (zP g [.int (iI (((k : Nat) : Int)))] ([])) (vp_Si (fun z => z = iI ((catM k : Nat) : Int))) 0 0 (fun _ => False) := by
  refine Met.ofW (cc := b_CS_categoriesOf) (maxL := 1) (ret := (some .int)) (by decide) rfl ?_
  intro p e s m args below meth cd s₁ B hml hv
  obtain ⟨hargs, hP, hK, hZ⟩ := hv
  have hx := B.exec
  have hb := B.bytes
  have hr := B.returns
  have ht : ∀ w ∈ lw_ok, w.before args s = true := fun w h => atoms_spec (ws := w_CS_categoriesOf) B.pre w (List.mem_cons_of_mem _ h)
  have hown : s.vm.findClass R_CS = some m.cls := findClass_of_methodNamed B.named
  have hlocks := B.notSynchronized
  have hS : va_S (fun _ => False) s.heap s.heap [] := va_S.rf
  generalize hQ : MQ below _ args s 0 0 _ = Q
  have hl := lv_entry ([.int (iI (((k : Nat) : Int)))]) (n := 1) (Nat.le_of_ble_eq_true rfl)
  rw [show entryFrame m args 1 = entryFrame m ([.int (iI (((k : Nat) : Int)))] : List Value).toArray 1 by rw [hargs], lg_entry_eq]
  generalize (lg_sl ([.int (iI (((k : Nat) : Int)))]) ++ List.replicate (1 - (lg_sl ([.int (iI (((k : Nat) : Int)))])).length) Slot.unset).toArray = ls at hl ⊢
  have hl : lv_has ls 1 [(0, .int (iI (((k : Nat) : Int))))] := hl
  refine lv_iload_n hx hb d_CS_categoriesOf_0 rfl (lv_at hl 0 rfl) ?_
  refine ix_if_lt (tgt := 14) hx hb d_CS_categoriesOf_1 (by decide) (by omega) (fun c_1 => ?_) (fun c_1 => ?_)
  · refine lv_iload_n hx hb d_CS_categoriesOf_14 rfl (lv_at hl 0 rfl) ?_
    refine lv_bipush (v := iI 25) hx hb d_CS_categoriesOf_15 (by decide) ?_
    refine ix_icmp_lt (tgt := 35) hx hb d_CS_categoriesOf_17 (by decide) (by omega) (fun c_17 => ?_) (fun c_17 => ?_)
    · refine lv_iload_n hx hb d_CS_categoriesOf_35 rfl (lv_at hl 0 rfl) ?_
      rcases (show ((k : Nat) : Int) = 44 ∨ ((k : Nat) : Int) = 45 ∨ ((k : Nat) : Int) = 46 ∨ ((k : Nat) : Int) = 47 ∨ ((k : Nat) : Int) = 48 ∨ (((k : Nat) : Int) < 44 ∨ 48 < ((k : Nat) : Int)) from by omega) with c_36 | c_36 | c_36 | c_36 | c_36 | c_36
      · refine ix_table (tgt := 72) hx hb d_CS_categoriesOf_36 (by omega) 36 (by omega) (by rw [c_36]; rfl) (by decide) ?_
        refine lv_ldc (v := iI 33554431) hx hb hown (ht _ k_195) d_CS_categoriesOf_72 ?_
        subst hQ
        exact W.iret (v := iI 33554431) hx hb hr (fun t h9 hW => ⟨_, rfl, by (obtain rfl : k = 44 := by omega); decide, h9⟩) (fun _ h9 => by cases h9) d_CS_categoriesOf_74
      · refine ix_table (tgt := 75) hx hb d_CS_categoriesOf_36 (by omega) 39 (by omega) (by rw [c_36]; rfl) (by decide) ?_
        refine lv_bipush (v := iI 80) hx hb d_CS_categoriesOf_75 (by decide) ?_
        subst hQ
        exact W.iret (v := iI 80) hx hb hr (fun t h9 hW => ⟨_, rfl, by (obtain rfl : k = 45 := by omega); decide, h9⟩) (fun _ h9 => by cases h9) d_CS_categoriesOf_77
      · refine ix_table (tgt := 78) hx hb d_CS_categoriesOf_36 (by omega) 42 (by omega) (by rw [c_36]; rfl) (by decide) ?_
        refine lv_sipush (v := iI 1904) hx hb d_CS_categoriesOf_78 (by decide) ?_
        subst hQ
        exact W.iret (v := iI 1904) hx hb hr (fun t h9 hW => ⟨_, rfl, by (obtain rfl : k = 46 := by omega); decide, h9⟩) (fun _ h9 => by cases h9) d_CS_categoriesOf_81
      · refine ix_table (tgt := 78) hx hb d_CS_categoriesOf_36 (by omega) 42 (by omega) (by rw [c_36]; rfl) (by decide) ?_
        refine lv_sipush (v := iI 1904) hx hb d_CS_categoriesOf_78 (by decide) ?_
        subst hQ
        exact W.iret (v := iI 1904) hx hb hr (fun t h9 hW => ⟨_, rfl, by (obtain rfl : k = 47 := by omega); decide, h9⟩) (fun _ h9 => by cases h9) d_CS_categoriesOf_81
      · refine ix_table (tgt := 82) hx hb d_CS_categoriesOf_36 (by omega) 46 (by omega) (by rw [c_36]; rfl) (by decide) ?_
        refine lv_ldc (v := iI 29360128) hx hb hown (ht _ k_196) d_CS_categoriesOf_82 ?_
        subst hQ
        exact W.iret (v := iI 29360128) hx hb hr (fun t h9 hW => ⟨_, rfl, by (obtain rfl : k = 48 := by omega); decide, h9⟩) (fun _ h9 => by cases h9) d_CS_categoriesOf_84
      · refine ix_tableO (tgt := 85) hx hb d_CS_categoriesOf_36 (by omega) c_36 (by decide) ?_
        refine lv_iconst (v := iI 0) hx hb d_CS_categoriesOf_85 rfl ?_
        subst hQ
        exact W.iret (v := iI 0) hx hb hr (fun t h9 hW => ⟨_, rfl, congrArg iI (by rw [catM_0 k (by omega) (by omega)]; rfl), h9⟩) (fun _ h9 => by cases h9) d_CS_categoriesOf_86
    · refine lv_iload_n hx hb d_CS_categoriesOf_20 rfl (lv_at hl 0 rfl) ?_
      refine lv_bipush (v := iI 32) hx hb d_CS_categoriesOf_21 (by decide) ?_
      refine ix_icmp_ge (tgt := 35) hx hb d_CS_categoriesOf_23 (by decide) (by omega) (fun c_23 => ?_) (fun c_23 => ?_)
      · refine lv_iload_n hx hb d_CS_categoriesOf_35 rfl (lv_at hl 0 rfl) ?_
        rcases (show ((k : Nat) : Int) = 44 ∨ ((k : Nat) : Int) = 45 ∨ ((k : Nat) : Int) = 46 ∨ ((k : Nat) : Int) = 47 ∨ ((k : Nat) : Int) = 48 ∨ (((k : Nat) : Int) < 44 ∨ 48 < ((k : Nat) : Int)) from by omega) with c_36 | c_36 | c_36 | c_36 | c_36 | c_36
        · refine ix_table (tgt := 72) hx hb d_CS_categoriesOf_36 (by omega) 36 (by omega) (by rw [c_36]; rfl) (by decide) ?_
          refine lv_ldc (v := iI 33554431) hx hb hown (ht _ k_195) d_CS_categoriesOf_72 ?_
          subst hQ
          exact W.iret (v := iI 33554431) hx hb hr (fun t h9 hW => ⟨_, rfl, by (obtain rfl : k = 44 := by omega); decide, h9⟩) (fun _ h9 => by cases h9) d_CS_categoriesOf_74
        · refine ix_table (tgt := 75) hx hb d_CS_categoriesOf_36 (by omega) 39 (by omega) (by rw [c_36]; rfl) (by decide) ?_
          refine lv_bipush (v := iI 80) hx hb d_CS_categoriesOf_75 (by decide) ?_
          subst hQ
          exact W.iret (v := iI 80) hx hb hr (fun t h9 hW => ⟨_, rfl, by (obtain rfl : k = 45 := by omega); decide, h9⟩) (fun _ h9 => by cases h9) d_CS_categoriesOf_77
        · refine ix_table (tgt := 78) hx hb d_CS_categoriesOf_36 (by omega) 42 (by omega) (by rw [c_36]; rfl) (by decide) ?_
          refine lv_sipush (v := iI 1904) hx hb d_CS_categoriesOf_78 (by decide) ?_
          subst hQ
          exact W.iret (v := iI 1904) hx hb hr (fun t h9 hW => ⟨_, rfl, by (obtain rfl : k = 46 := by omega); decide, h9⟩) (fun _ h9 => by cases h9) d_CS_categoriesOf_81
        · refine ix_table (tgt := 78) hx hb d_CS_categoriesOf_36 (by omega) 42 (by omega) (by rw [c_36]; rfl) (by decide) ?_
          refine lv_sipush (v := iI 1904) hx hb d_CS_categoriesOf_78 (by decide) ?_
          subst hQ
          exact W.iret (v := iI 1904) hx hb hr (fun t h9 hW => ⟨_, rfl, by (obtain rfl : k = 47 := by omega); decide, h9⟩) (fun _ h9 => by cases h9) d_CS_categoriesOf_81
        · refine ix_table (tgt := 82) hx hb d_CS_categoriesOf_36 (by omega) 46 (by omega) (by rw [c_36]; rfl) (by decide) ?_
          refine lv_ldc (v := iI 29360128) hx hb hown (ht _ k_196) d_CS_categoriesOf_82 ?_
          subst hQ
          exact W.iret (v := iI 29360128) hx hb hr (fun t h9 hW => ⟨_, rfl, by (obtain rfl : k = 48 := by omega); decide, h9⟩) (fun _ h9 => by cases h9) d_CS_categoriesOf_84
        · refine ix_tableO (tgt := 85) hx hb d_CS_categoriesOf_36 (by omega) c_36 (by decide) ?_
          refine lv_iconst (v := iI 0) hx hb d_CS_categoriesOf_85 rfl ?_
          subst hQ
          exact W.iret (v := iI 0) hx hb hr (fun t h9 hW => ⟨_, rfl, congrArg iI (by rw [catM_0 k (by omega) (by omega)]; rfl), h9⟩) (fun _ h9 => by cases h9) d_CS_categoriesOf_86
      · refine ix_gets hx hb hZ 0 (by decide) hS hown (ht _ k_193) d_CS_categoriesOf_26 ?_
        refine lv_iload_n hx hb d_CS_categoriesOf_29 rfl (lv_at hl 0 rfl) ?_
        refine lv_bipush (v := iI 25) hx hb d_CS_categoriesOf_30 (by decide) ?_
        refine ix_isub hx hb d_CS_categoriesOf_32 ?_
        refine ix_tald hx hb hZ 0 (by decide) hS (z := ((((k : Nat) : Int)) - 25)) (k - 25) (by refine ⟨by omega, ?_, by omega⟩; show _ < (stE 0).length; simp only [stE, List.length_cons, List.length_nil]; omega) d_CS_categoriesOf_33 ?_
        subst hQ
        exact W.iret (v := iI ((stE 0).getD (k - 25) 0)) hx hb hr (fun t h9 hW => ⟨_, rfl, congrArg iI (by rw [catM_let k (by omega) (by omega)]), h9⟩) (fun _ h9 => by cases h9) d_CS_categoriesOf_34
  · refine lv_iload_n hx hb d_CS_categoriesOf_4 rfl (lv_at hl 0 rfl) ?_
    refine lv_bipush (v := iI 25) hx hb d_CS_categoriesOf_5 (by decide) ?_
    refine ix_icmp_ge (tgt := 14) hx hb d_CS_categoriesOf_7 (by decide) (by omega) (fun c_7 => ?_) (fun c_7 => ?_)
    · refine lv_iload_n hx hb d_CS_categoriesOf_14 rfl (lv_at hl 0 rfl) ?_
      refine lv_bipush (v := iI 25) hx hb d_CS_categoriesOf_15 (by decide) ?_
      refine ix_icmp_lt (tgt := 35) hx hb d_CS_categoriesOf_17 (by decide) (by omega) (fun c_17 => ?_) (fun c_17 => ?_)
      · refine lv_iload_n hx hb d_CS_categoriesOf_35 rfl (lv_at hl 0 rfl) ?_
        rcases (show ((k : Nat) : Int) = 44 ∨ ((k : Nat) : Int) = 45 ∨ ((k : Nat) : Int) = 46 ∨ ((k : Nat) : Int) = 47 ∨ ((k : Nat) : Int) = 48 ∨ (((k : Nat) : Int) < 44 ∨ 48 < ((k : Nat) : Int)) from by omega) with c_36 | c_36 | c_36 | c_36 | c_36 | c_36
        · refine ix_table (tgt := 72) hx hb d_CS_categoriesOf_36 (by omega) 36 (by omega) (by rw [c_36]; rfl) (by decide) ?_
          refine lv_ldc (v := iI 33554431) hx hb hown (ht _ k_195) d_CS_categoriesOf_72 ?_
          subst hQ
          exact W.iret (v := iI 33554431) hx hb hr (fun t h9 hW => ⟨_, rfl, by (obtain rfl : k = 44 := by omega); decide, h9⟩) (fun _ h9 => by cases h9) d_CS_categoriesOf_74
        · refine ix_table (tgt := 75) hx hb d_CS_categoriesOf_36 (by omega) 39 (by omega) (by rw [c_36]; rfl) (by decide) ?_
          refine lv_bipush (v := iI 80) hx hb d_CS_categoriesOf_75 (by decide) ?_
          subst hQ
          exact W.iret (v := iI 80) hx hb hr (fun t h9 hW => ⟨_, rfl, by (obtain rfl : k = 45 := by omega); decide, h9⟩) (fun _ h9 => by cases h9) d_CS_categoriesOf_77
        · refine ix_table (tgt := 78) hx hb d_CS_categoriesOf_36 (by omega) 42 (by omega) (by rw [c_36]; rfl) (by decide) ?_
          refine lv_sipush (v := iI 1904) hx hb d_CS_categoriesOf_78 (by decide) ?_
          subst hQ
          exact W.iret (v := iI 1904) hx hb hr (fun t h9 hW => ⟨_, rfl, by (obtain rfl : k = 46 := by omega); decide, h9⟩) (fun _ h9 => by cases h9) d_CS_categoriesOf_81
        · refine ix_table (tgt := 78) hx hb d_CS_categoriesOf_36 (by omega) 42 (by omega) (by rw [c_36]; rfl) (by decide) ?_
          refine lv_sipush (v := iI 1904) hx hb d_CS_categoriesOf_78 (by decide) ?_
          subst hQ
          exact W.iret (v := iI 1904) hx hb hr (fun t h9 hW => ⟨_, rfl, by (obtain rfl : k = 47 := by omega); decide, h9⟩) (fun _ h9 => by cases h9) d_CS_categoriesOf_81
        · refine ix_table (tgt := 82) hx hb d_CS_categoriesOf_36 (by omega) 46 (by omega) (by rw [c_36]; rfl) (by decide) ?_
          refine lv_ldc (v := iI 29360128) hx hb hown (ht _ k_196) d_CS_categoriesOf_82 ?_
          subst hQ
          exact W.iret (v := iI 29360128) hx hb hr (fun t h9 hW => ⟨_, rfl, by (obtain rfl : k = 48 := by omega); decide, h9⟩) (fun _ h9 => by cases h9) d_CS_categoriesOf_84
        · refine ix_tableO (tgt := 85) hx hb d_CS_categoriesOf_36 (by omega) c_36 (by decide) ?_
          refine lv_iconst (v := iI 0) hx hb d_CS_categoriesOf_85 rfl ?_
          subst hQ
          exact W.iret (v := iI 0) hx hb hr (fun t h9 hW => ⟨_, rfl, congrArg iI (by rw [catM_0 k (by omega) (by omega)]; rfl), h9⟩) (fun _ h9 => by cases h9) d_CS_categoriesOf_86
      · refine lv_iload_n hx hb d_CS_categoriesOf_20 rfl (lv_at hl 0 rfl) ?_
        refine lv_bipush (v := iI 32) hx hb d_CS_categoriesOf_21 (by decide) ?_
        refine ix_icmp_ge (tgt := 35) hx hb d_CS_categoriesOf_23 (by decide) (by omega) (fun c_23 => ?_) (fun c_23 => ?_)
        · refine lv_iload_n hx hb d_CS_categoriesOf_35 rfl (lv_at hl 0 rfl) ?_
          rcases (show ((k : Nat) : Int) = 44 ∨ ((k : Nat) : Int) = 45 ∨ ((k : Nat) : Int) = 46 ∨ ((k : Nat) : Int) = 47 ∨ ((k : Nat) : Int) = 48 ∨ (((k : Nat) : Int) < 44 ∨ 48 < ((k : Nat) : Int)) from by omega) with c_36 | c_36 | c_36 | c_36 | c_36 | c_36
          · refine ix_table (tgt := 72) hx hb d_CS_categoriesOf_36 (by omega) 36 (by omega) (by rw [c_36]; rfl) (by decide) ?_
            refine lv_ldc (v := iI 33554431) hx hb hown (ht _ k_195) d_CS_categoriesOf_72 ?_
            subst hQ
            exact W.iret (v := iI 33554431) hx hb hr (fun t h9 hW => ⟨_, rfl, by (obtain rfl : k = 44 := by omega); decide, h9⟩) (fun _ h9 => by cases h9) d_CS_categoriesOf_74
          · refine ix_table (tgt := 75) hx hb d_CS_categoriesOf_36 (by omega) 39 (by omega) (by rw [c_36]; rfl) (by decide) ?_
            refine lv_bipush (v := iI 80) hx hb d_CS_categoriesOf_75 (by decide) ?_
            subst hQ
            exact W.iret (v := iI 80) hx hb hr (fun t h9 hW => ⟨_, rfl, by (obtain rfl : k = 45 := by omega); decide, h9⟩) (fun _ h9 => by cases h9) d_CS_categoriesOf_77
          · refine ix_table (tgt := 78) hx hb d_CS_categoriesOf_36 (by omega) 42 (by omega) (by rw [c_36]; rfl) (by decide) ?_
            refine lv_sipush (v := iI 1904) hx hb d_CS_categoriesOf_78 (by decide) ?_
            subst hQ
            exact W.iret (v := iI 1904) hx hb hr (fun t h9 hW => ⟨_, rfl, by (obtain rfl : k = 46 := by omega); decide, h9⟩) (fun _ h9 => by cases h9) d_CS_categoriesOf_81
          · refine ix_table (tgt := 78) hx hb d_CS_categoriesOf_36 (by omega) 42 (by omega) (by rw [c_36]; rfl) (by decide) ?_
            refine lv_sipush (v := iI 1904) hx hb d_CS_categoriesOf_78 (by decide) ?_
            subst hQ
            exact W.iret (v := iI 1904) hx hb hr (fun t h9 hW => ⟨_, rfl, by (obtain rfl : k = 47 := by omega); decide, h9⟩) (fun _ h9 => by cases h9) d_CS_categoriesOf_81
          · refine ix_table (tgt := 82) hx hb d_CS_categoriesOf_36 (by omega) 46 (by omega) (by rw [c_36]; rfl) (by decide) ?_
            refine lv_ldc (v := iI 29360128) hx hb hown (ht _ k_196) d_CS_categoriesOf_82 ?_
            subst hQ
            exact W.iret (v := iI 29360128) hx hb hr (fun t h9 hW => ⟨_, rfl, by (obtain rfl : k = 48 := by omega); decide, h9⟩) (fun _ h9 => by cases h9) d_CS_categoriesOf_84
          · refine ix_tableO (tgt := 85) hx hb d_CS_categoriesOf_36 (by omega) c_36 (by decide) ?_
            refine lv_iconst (v := iI 0) hx hb d_CS_categoriesOf_85 rfl ?_
            subst hQ
            exact W.iret (v := iI 0) hx hb hr (fun t h9 hW => ⟨_, rfl, congrArg iI (by rw [catM_0 k (by omega) (by omega)]; rfl), h9⟩) (fun _ h9 => by cases h9) d_CS_categoriesOf_86
        · refine ix_gets hx hb hZ 0 (by decide) hS hown (ht _ k_193) d_CS_categoriesOf_26 ?_
          refine lv_iload_n hx hb d_CS_categoriesOf_29 rfl (lv_at hl 0 rfl) ?_
          refine lv_bipush (v := iI 25) hx hb d_CS_categoriesOf_30 (by decide) ?_
          refine ix_isub hx hb d_CS_categoriesOf_32 ?_
          refine ix_tald hx hb hZ 0 (by decide) hS (z := ((((k : Nat) : Int)) - 25)) (k - 25) (by refine ⟨by omega, ?_, by omega⟩; show _ < (stE 0).length; simp only [stE, List.length_cons, List.length_nil]; omega) d_CS_categoriesOf_33 ?_
          subst hQ
          exact W.iret (v := iI ((stE 0).getD (k - 25) 0)) hx hb hr (fun t h9 hW => ⟨_, rfl, congrArg iI (by rw [catM_let k (by omega) (by omega)]), h9⟩) (fun _ h9 => by cases h9) d_CS_categoriesOf_34
    · refine lv_iconst (v := iI 1) hx hb d_CS_categoriesOf_10 rfl ?_
      refine lv_iload_n hx hb d_CS_categoriesOf_11 rfl (lv_at hl 0 rfl) ?_
      refine lv_ishl hx hb d_CS_categoriesOf_12 ?_
      subst hQ
      exact W.iret (v := iI 1 <<< (iI (((k : Nat) : Int)) &&& 31)) hx hb hr (fun t h9 hW => ⟨_, rfl, catM_shl k (by omega), h9⟩) (fun _ h9 => by cases h9) d_CS_categoriesOf_13
set_option maxHeartbeats 4000000 in
set_option maxRecDepth 100000 in
theorem c_CS_propertyOf (l : Launch) (g : zG) (k : Nat) (hk : k ≤ 18) : Met l y_CS_propertyOf w_CS_propertyOf (zr 0 0) (zP g [.int (iI (((k : Nat) : Int)))] ([])) (vp_Si (fun z => z = iI (proF k))) 0 0 (fun _ => False) := by
  refine Met.ofW (cc := b_CS_propertyOf) (maxL := 1) (ret := (some .int)) (by decide) rfl ?_
  intro p e s m args below meth cd s₁ B hml hv
  obtain ⟨hargs, hP, hK, hZ⟩ := hv
  have hx := B.exec
  have hb := B.bytes
  have hr := B.returns
  have ht : ∀ w ∈ lw_ok, w.before args s = true := fun w h => atoms_spec (ws := w_CS_propertyOf) B.pre w (List.mem_cons_of_mem _ h)
  have hown : s.vm.findClass R_CS = some m.cls := findClass_of_methodNamed B.named
  have hlocks := B.notSynchronized
  have hS : va_S (fun _ => False) s.heap s.heap [] := va_S.rf
  generalize hQ : MQ below _ args s 0 0 _ = Q
  have hl := lv_entry ([.int (iI (((k : Nat) : Int)))]) (n := 1) (Nat.le_of_ble_eq_true rfl)
  rw [show entryFrame m args 1 = entryFrame m ([.int (iI (((k : Nat) : Int)))] : List Value).toArray 1 by rw [hargs], lg_entry_eq]
  generalize (lg_sl ([.int (iI (((k : Nat) : Int)))]) ++ List.replicate (1 - (lg_sl ([.int (iI (((k : Nat) : Int)))])).length) Slot.unset).toArray = ls at hl ⊢
  have hl : lv_has ls 1 [(0, .int (iI (((k : Nat) : Int))))] := hl
  refine lv_iload_n hx hb d_CS_propertyOf_0 rfl (lv_at hl 0 rfl) ?_
  rcases (show ((k : Nat) : Int) = 0 ∨ ((k : Nat) : Int) = 1 ∨ ((k : Nat) : Int) = 2 ∨ ((k : Nat) : Int) = 3 ∨ ((k : Nat) : Int) = 4 ∨ ((k : Nat) : Int) = 5 ∨ ((k : Nat) : Int) = 6 ∨ ((k : Nat) : Int) = 7 ∨ ((k : Nat) : Int) = 8 ∨ ((k : Nat) : Int) = 9 ∨ ((k : Nat) : Int) = 10 ∨ ((k : Nat) : Int) = 11 ∨ ((k : Nat) : Int) = 12 ∨ ((k : Nat) : Int) = 13 ∨ (((k : Nat) : Int) < 0 ∨ 13 < ((k : Nat) : Int)) from by omega) with c_1 | c_1 | c_1 | c_1 | c_1 | c_1 | c_1 | c_1 | c_1 | c_1 | c_1 | c_1 | c_1 | c_1 | c_1
  · refine ix_table (tgt := 72) hx hb d_CS_propertyOf_1 (by omega) 71 (by omega) (by rw [c_1]; rfl) (by decide) ?_
    refine lv_bipush (v := iI 8) hx hb d_CS_propertyOf_72 (by decide) ?_
    subst hQ
    exact W.iret (v := iI 8) hx hb hr (fun t h9 hW => ⟨_, rfl, by (obtain rfl : k = 0 := by omega); decide, h9⟩) (fun _ h9 => by cases h9) d_CS_propertyOf_74
  · refine ix_table (tgt := 75) hx hb d_CS_propertyOf_1 (by omega) 74 (by omega) (by rw [c_1]; rfl) (by decide) ?_
    refine lv_bipush (v := iI 47) hx hb d_CS_propertyOf_75 (by decide) ?_
    subst hQ
    exact W.iret (v := iI 47) hx hb hr (fun t h9 hW => ⟨_, rfl, by (obtain rfl : k = 1 := by omega); decide, h9⟩) (fun _ h9 => by cases h9) d_CS_propertyOf_77
  · refine ix_table (tgt := 78) hx hb d_CS_propertyOf_1 (by omega) 77 (by omega) (by rw [c_1]; rfl) (by decide) ?_
    refine lv_bipush (v := iI 48) hx hb d_CS_propertyOf_78 (by decide) ?_
    subst hQ
    exact W.iret (v := iI 48) hx hb hr (fun t h9 hW => ⟨_, rfl, by (obtain rfl : k = 2 := by omega); decide, h9⟩) (fun _ h9 => by cases h9) d_CS_propertyOf_80
  · refine ix_table (tgt := 94) hx hb d_CS_propertyOf_1 (by omega) 93 (by omega) (by rw [c_1]; rfl) (by decide) ?_
    refine lv_iconst (v := iI (-1)) hx hb d_CS_propertyOf_94 rfl ?_
    subst hQ
    exact W.iret (v := iI ((-1))) hx hb hr (fun t h9 hW => ⟨_, rfl, by (obtain rfl : k = 3 := by omega); decide, h9⟩) (fun _ h9 => by cases h9) d_CS_propertyOf_95
  · refine ix_table (tgt := 94) hx hb d_CS_propertyOf_1 (by omega) 93 (by omega) (by rw [c_1]; rfl) (by decide) ?_
    refine lv_iconst (v := iI (-1)) hx hb d_CS_propertyOf_94 rfl ?_
    subst hQ
    exact W.iret (v := iI ((-1))) hx hb hr (fun t h9 hW => ⟨_, rfl, by (obtain rfl : k = 4 := by omega); decide, h9⟩) (fun _ h9 => by cases h9) d_CS_propertyOf_95
  · refine ix_table (tgt := 81) hx hb d_CS_propertyOf_1 (by omega) 80 (by omega) (by rw [c_1]; rfl) (by decide) ?_
    refine lv_bipush (v := iI 26) hx hb d_CS_propertyOf_81 (by decide) ?_
    subst hQ
    exact W.iret (v := iI 26) hx hb hr (fun t h9 hW => ⟨_, rfl, by (obtain rfl : k = 5 := by omega); decide, h9⟩) (fun _ h9 => by cases h9) d_CS_propertyOf_83
  · refine ix_table (tgt := 84) hx hb d_CS_propertyOf_1 (by omega) 83 (by omega) (by rw [c_1]; rfl) (by decide) ?_
    refine lv_iconst (v := iI 4) hx hb d_CS_propertyOf_84 rfl ?_
    subst hQ
    exact W.iret (v := iI 4) hx hb hr (fun t h9 hW => ⟨_, rfl, by (obtain rfl : k = 6 := by omega); decide, h9⟩) (fun _ h9 => by cases h9) d_CS_propertyOf_85
  · refine ix_table (tgt := 86) hx hb d_CS_propertyOf_1 (by omega) 85 (by omega) (by rw [c_1]; rfl) (by decide) ?_
    refine lv_bipush (v := iI 6) hx hb d_CS_propertyOf_86 (by decide) ?_
    subst hQ
    exact W.iret (v := iI 6) hx hb hr (fun t h9 hW => ⟨_, rfl, by (obtain rfl : k = 7 := by omega); decide, h9⟩) (fun _ h9 => by cases h9) d_CS_propertyOf_88
  · refine ix_table (tgt := 72) hx hb d_CS_propertyOf_1 (by omega) 71 (by omega) (by rw [c_1]; rfl) (by decide) ?_
    refine lv_bipush (v := iI 8) hx hb d_CS_propertyOf_72 (by decide) ?_
    subst hQ
    exact W.iret (v := iI 8) hx hb hr (fun t h9 hW => ⟨_, rfl, by (obtain rfl : k = 8 := by omega); decide, h9⟩) (fun _ h9 => by cases h9) d_CS_propertyOf_74
  · refine ix_table (tgt := 89) hx hb d_CS_propertyOf_1 (by omega) 88 (by omega) (by rw [c_1]; rfl) (by decide) ?_
    refine lv_bipush (v := iI 46) hx hb d_CS_propertyOf_89 (by decide) ?_
    subst hQ
    exact W.iret (v := iI 46) hx hb hr (fun t h9 hW => ⟨_, rfl, by (obtain rfl : k = 9 := by omega); decide, h9⟩) (fun _ h9 => by cases h9) d_CS_propertyOf_91
  · refine ix_table (tgt := 75) hx hb d_CS_propertyOf_1 (by omega) 74 (by omega) (by rw [c_1]; rfl) (by decide) ?_
    refine lv_bipush (v := iI 47) hx hb d_CS_propertyOf_75 (by decide) ?_
    subst hQ
    exact W.iret (v := iI 47) hx hb hr (fun t h9 hW => ⟨_, rfl, by (obtain rfl : k = 10 := by omega); decide, h9⟩) (fun _ h9 => by cases h9) d_CS_propertyOf_77
  · refine ix_table (tgt := 78) hx hb d_CS_propertyOf_1 (by omega) 77 (by omega) (by rw [c_1]; rfl) (by decide) ?_
    refine lv_bipush (v := iI 48) hx hb d_CS_propertyOf_78 (by decide) ?_
    subst hQ
    exact W.iret (v := iI 48) hx hb hr (fun t h9 hW => ⟨_, rfl, by (obtain rfl : k = 11 := by omega); decide, h9⟩) (fun _ h9 => by cases h9) d_CS_propertyOf_80
  · refine ix_table (tgt := 94) hx hb d_CS_propertyOf_1 (by omega) 93 (by omega) (by rw [c_1]; rfl) (by decide) ?_
    refine lv_iconst (v := iI (-1)) hx hb d_CS_propertyOf_94 rfl ?_
    subst hQ
    exact W.iret (v := iI ((-1))) hx hb hr (fun t h9 hW => ⟨_, rfl, by (obtain rfl : k = 12 := by omega); decide, h9⟩) (fun _ h9 => by cases h9) d_CS_propertyOf_95
  · refine ix_table (tgt := 92) hx hb d_CS_propertyOf_1 (by omega) 91 (by omega) (by rw [c_1]; rfl) (by decide) ?_
    refine lv_iconst (v := iI 1) hx hb d_CS_propertyOf_92 rfl ?_
    subst hQ
    exact W.iret (v := iI 1) hx hb hr (fun t h9 hW => ⟨_, rfl, by (obtain rfl : k = 13 := by omega); decide, h9⟩) (fun _ h9 => by cases h9) d_CS_propertyOf_93
  · refine ix_tableO (tgt := 94) hx hb d_CS_propertyOf_1 (by omega) c_1 (by decide) ?_
    refine lv_iconst (v := iI (-1)) hx hb d_CS_propertyOf_94 rfl ?_
    subst hQ
    exact W.iret (v := iI ((-1))) hx hb hr (fun t h9 hW => ⟨_, rfl, by rcases (show k = 14 ∨ k = 15 ∨ k = 16 ∨ k = 17 ∨ k = 18 by omega) with rfl | rfl | rfl | rfl | rfl <;> decide, h9⟩) (fun _ h9 => by cases h9) d_CS_propertyOf_95
set_option maxHeartbeats 4000000 in
set_option maxRecDepth 100000 in
theorem c_CS_listOf (l : Launch) (g : zG) (k : Nat) (hk : k ≤ 18) : Met l y_CS_listOf w_CS_listOf (zr 0 0) (zP g [.int (iI (((k : Nat) : Int)))] []) (va_Sr (fun i => i = lisF k) (fun k => .ref (g.2.2 k))) 0 0 (fun _ => False) := by
  refine Met.ofW (cc := b_CS_listOf) (maxL := 1) (ret := (some (.array .int))) (by decide) rfl ?_
  intro p e s m args below meth cd s₁ B hml hv
  obtain ⟨hargs, hP, hK, hZ⟩ := hv
  have hx := B.exec
  have hb := B.bytes
  have hr := B.returns
  have ht : ∀ w ∈ lw_ok, w.before args s = true := fun w h => atoms_spec (ws := w_CS_listOf) B.pre w (List.mem_cons_of_mem _ h)
  have hown : s.vm.findClass R_CS = some m.cls := findClass_of_methodNamed B.named
  have hlocks := B.notSynchronized
  have hS : va_S (fun _ => False) s.heap s.heap [] := va_S.rf
  generalize hQ : MQ below _ args s 0 0 _ = Q
  have hl := lv_entry ([.int (iI (((k : Nat) : Int)))]) (n := 1) (Nat.le_of_ble_eq_true rfl)
  rw [show entryFrame m args 1 = entryFrame m ([.int (iI (((k : Nat) : Int)))] : List Value).toArray 1 by rw [hargs], lg_entry_eq]
  generalize (lg_sl ([.int (iI (((k : Nat) : Int)))]) ++ List.replicate (1 - (lg_sl ([.int (iI (((k : Nat) : Int)))])).length) Slot.unset).toArray = ls at hl ⊢
  have hl : lv_has ls 1 [(0, .int (iI (((k : Nat) : Int))))] := hl
  refine lv_iload_n hx hb d_CS_listOf_0 rfl (lv_at hl 0 rfl) ?_
  rcases (show ((k : Nat) : Int) = 0 ∨ ((k : Nat) : Int) = 1 ∨ ((k : Nat) : Int) = 2 ∨ ((k : Nat) : Int) = 3 ∨ ((k : Nat) : Int) = 4 ∨ ((k : Nat) : Int) = 5 ∨ ((k : Nat) : Int) = 6 ∨ ((k : Nat) : Int) = 7 ∨ ((k : Nat) : Int) = 8 ∨ ((k : Nat) : Int) = 9 ∨ ((k : Nat) : Int) = 10 ∨ ((k : Nat) : Int) = 11 ∨ ((k : Nat) : Int) = 12 ∨ ((k : Nat) : Int) = 13 ∨ ((k : Nat) : Int) = 14 ∨ ((k : Nat) : Int) = 15 ∨ ((k : Nat) : Int) = 16 ∨ ((k : Nat) : Int) = 17 ∨ ((k : Nat) : Int) = 18 ∨ (((k : Nat) : Int) < 0 ∨ 18 < ((k : Nat) : Int)) from by omega) with c_1 | c_1 | c_1 | c_1 | c_1 | c_1 | c_1 | c_1 | c_1 | c_1 | c_1 | c_1 | c_1 | c_1 | c_1 | c_1 | c_1 | c_1 | c_1 | c_1
  · refine ix_table (tgt := 92) hx hb d_CS_listOf_1 (by omega) 91 (by omega) (by rw [c_1]; rfl) (by decide) ?_
    refine ix_gets hx hb hZ 2 (by decide) hS hown (ht _ k_238) d_CS_listOf_92 ?_
    subst hQ
    exact W.aret (v := .ref (g.2.2 2)) hx hb hr (Or.inr ⟨_, rfl⟩) (Or.inr ⟨_, rfl⟩) (fun t h9 hW => ⟨2, rfl, by (obtain rfl : k = 0 := by omega); decide, h9⟩) (fun _ h9 => by cases h9) d_CS_listOf_95
  · refine ix_table (tgt := 96) hx hb d_CS_listOf_1 (by omega) 95 (by omega) (by rw [c_1]; rfl) (by decide) ?_
    refine ix_gets hx hb hZ 7 (by decide) hS hown (ht _ k_240) d_CS_listOf_96 ?_
    subst hQ
    exact W.aret (v := .ref (g.2.2 7)) hx hb hr (Or.inr ⟨_, rfl⟩) (Or.inr ⟨_, rfl⟩) (fun t h9 hW => ⟨7, rfl, by (obtain rfl : k = 1 := by omega); decide, h9⟩) (fun _ h9 => by cases h9) d_CS_listOf_99
  · refine ix_table (tgt := 100) hx hb d_CS_listOf_1 (by omega) 99 (by omega) (by rw [c_1]; rfl) (by decide) ?_
    refine ix_gets hx hb hZ 8 (by decide) hS hown (ht _ k_242) d_CS_listOf_100 ?_
    subst hQ
    exact W.aret (v := .ref (g.2.2 8)) hx hb hr (Or.inr ⟨_, rfl⟩) (Or.inr ⟨_, rfl⟩) (fun t h9 hW => ⟨8, rfl, by (obtain rfl : k = 2 := by omega); decide, h9⟩) (fun _ h9 => by cases h9) d_CS_listOf_103
  · refine ix_table (tgt := 104) hx hb d_CS_listOf_1 (by omega) 103 (by omega) (by rw [c_1]; rfl) (by decide) ?_
    refine ix_gets hx hb hZ 17 (by decide) hS hown (ht _ k_244) d_CS_listOf_104 ?_
    subst hQ
    exact W.aret (v := .ref (g.2.2 17)) hx hb hr (Or.inr ⟨_, rfl⟩) (Or.inr ⟨_, rfl⟩) (fun t h9 hW => ⟨17, rfl, by (obtain rfl : k = 3 := by omega); decide, h9⟩) (fun _ h9 => by cases h9) d_CS_listOf_107
  · refine ix_table (tgt := 108) hx hb d_CS_listOf_1 (by omega) 107 (by omega) (by rw [c_1]; rfl) (by decide) ?_
    refine ix_gets hx hb hZ 16 (by decide) hS hown (ht _ k_246) d_CS_listOf_108 ?_
    subst hQ
    exact W.aret (v := .ref (g.2.2 16)) hx hb hr (Or.inr ⟨_, rfl⟩) (Or.inr ⟨_, rfl⟩) (fun t h9 hW => ⟨16, rfl, by (obtain rfl : k = 4 := by omega); decide, h9⟩) (fun _ h9 => by cases h9) d_CS_listOf_111
  · refine ix_table (tgt := 112) hx hb d_CS_listOf_1 (by omega) 111 (by omega) (by rw [c_1]; rfl) (by decide) ?_
    refine ix_gets hx hb hZ 5 (by decide) hS hown (ht _ k_248) d_CS_listOf_112 ?_
    subst hQ
    exact W.aret (v := .ref (g.2.2 5)) hx hb hr (Or.inr ⟨_, rfl⟩) (Or.inr ⟨_, rfl⟩) (fun t h9 hW => ⟨5, rfl, by (obtain rfl : k = 5 := by omega); decide, h9⟩) (fun _ h9 => by cases h9) d_CS_listOf_115
  · refine ix_table (tgt := 116) hx hb d_CS_listOf_1 (by omega) 115 (by omega) (by rw [c_1]; rfl) (by decide) ?_
    refine ix_gets hx hb hZ 3 (by decide) hS hown (ht _ k_250) d_CS_listOf_116 ?_
    subst hQ
    exact W.aret (v := .ref (g.2.2 3)) hx hb hr (Or.inr ⟨_, rfl⟩) (Or.inr ⟨_, rfl⟩) (fun t h9 hW => ⟨3, rfl, by (obtain rfl : k = 6 := by omega); decide, h9⟩) (fun _ h9 => by cases h9) d_CS_listOf_119
  · refine ix_table (tgt := 120) hx hb d_CS_listOf_1 (by omega) 119 (by omega) (by rw [c_1]; rfl) (by decide) ?_
    refine ix_gets hx hb hZ 4 (by decide) hS hown (ht _ k_252) d_CS_listOf_120 ?_
    subst hQ
    exact W.aret (v := .ref (g.2.2 4)) hx hb hr (Or.inr ⟨_, rfl⟩) (Or.inr ⟨_, rfl⟩) (fun t h9 hW => ⟨4, rfl, by (obtain rfl : k = 7 := by omega); decide, h9⟩) (fun _ h9 => by cases h9) d_CS_listOf_123
  · refine ix_table (tgt := 92) hx hb d_CS_listOf_1 (by omega) 91 (by omega) (by rw [c_1]; rfl) (by decide) ?_
    refine ix_gets hx hb hZ 2 (by decide) hS hown (ht _ k_238) d_CS_listOf_92 ?_
    subst hQ
    exact W.aret (v := .ref (g.2.2 2)) hx hb hr (Or.inr ⟨_, rfl⟩) (Or.inr ⟨_, rfl⟩) (fun t h9 hW => ⟨2, rfl, by (obtain rfl : k = 8 := by omega); decide, h9⟩) (fun _ h9 => by cases h9) d_CS_listOf_95
  · refine ix_table (tgt := 124) hx hb d_CS_listOf_1 (by omega) 123 (by omega) (by rw [c_1]; rfl) (by decide) ?_
    refine ix_gets hx hb hZ 6 (by decide) hS hown (ht _ k_254) d_CS_listOf_124 ?_
    subst hQ
    exact W.aret (v := .ref (g.2.2 6)) hx hb hr (Or.inr ⟨_, rfl⟩) (Or.inr ⟨_, rfl⟩) (fun t h9 hW => ⟨6, rfl, by (obtain rfl : k = 9 := by omega); decide, h9⟩) (fun _ h9 => by cases h9) d_CS_listOf_127
  · refine ix_table (tgt := 96) hx hb d_CS_listOf_1 (by omega) 95 (by omega) (by rw [c_1]; rfl) (by decide) ?_
    refine ix_gets hx hb hZ 7 (by decide) hS hown (ht _ k_240) d_CS_listOf_96 ?_
    subst hQ
    exact W.aret (v := .ref (g.2.2 7)) hx hb hr (Or.inr ⟨_, rfl⟩) (Or.inr ⟨_, rfl⟩) (fun t h9 hW => ⟨7, rfl, by (obtain rfl : k = 10 := by omega); decide, h9⟩) (fun _ h9 => by cases h9) d_CS_listOf_99
  · refine ix_table (tgt := 100) hx hb d_CS_listOf_1 (by omega) 99 (by omega) (by rw [c_1]; rfl) (by decide) ?_
    refine ix_gets hx hb hZ 8 (by decide) hS hown (ht _ k_242) d_CS_listOf_100 ?_
    subst hQ
    exact W.aret (v := .ref (g.2.2 8)) hx hb hr (Or.inr ⟨_, rfl⟩) (Or.inr ⟨_, rfl⟩) (fun t h9 hW => ⟨8, rfl, by (obtain rfl : k = 11 := by omega); decide, h9⟩) (fun _ h9 => by cases h9) d_CS_listOf_103
  · refine ix_table (tgt := 128) hx hb d_CS_listOf_1 (by omega) 127 (by omega) (by rw [c_1]; rfl) (by decide) ?_
    refine ix_gets hx hb hZ 9 (by decide) hS hown (ht _ k_256) d_CS_listOf_128 ?_
    subst hQ
    exact W.aret (v := .ref (g.2.2 9)) hx hb hr (Or.inr ⟨_, rfl⟩) (Or.inr ⟨_, rfl⟩) (fun t h9 hW => ⟨9, rfl, by (obtain rfl : k = 12 := by omega); decide, h9⟩) (fun _ h9 => by cases h9) d_CS_listOf_131
  · refine ix_table (tgt := 132) hx hb d_CS_listOf_1 (by omega) 131 (by omega) (by rw [c_1]; rfl) (by decide) ?_
    refine ix_gets hx hb hZ 10 (by decide) hS hown (ht _ k_258) d_CS_listOf_132 ?_
    subst hQ
    exact W.aret (v := .ref (g.2.2 10)) hx hb hr (Or.inr ⟨_, rfl⟩) (Or.inr ⟨_, rfl⟩) (fun t h9 hW => ⟨10, rfl, by (obtain rfl : k = 13 := by omega); decide, h9⟩) (fun _ h9 => by cases h9) d_CS_listOf_135
  · refine ix_table (tgt := 136) hx hb d_CS_listOf_1 (by omega) 135 (by omega) (by rw [c_1]; rfl) (by decide) ?_
    refine ix_gets hx hb hZ 11 (by decide) hS hown (ht _ k_260) d_CS_listOf_136 ?_
    subst hQ
    exact W.aret (v := .ref (g.2.2 11)) hx hb hr (Or.inr ⟨_, rfl⟩) (Or.inr ⟨_, rfl⟩) (fun t h9 hW => ⟨11, rfl, by (obtain rfl : k = 14 := by omega); decide, h9⟩) (fun _ h9 => by cases h9) d_CS_listOf_139
  · refine ix_table (tgt := 140) hx hb d_CS_listOf_1 (by omega) 139 (by omega) (by rw [c_1]; rfl) (by decide) ?_
    refine ix_gets hx hb hZ 12 (by decide) hS hown (ht _ k_262) d_CS_listOf_140 ?_
    subst hQ
    exact W.aret (v := .ref (g.2.2 12)) hx hb hr (Or.inr ⟨_, rfl⟩) (Or.inr ⟨_, rfl⟩) (fun t h9 hW => ⟨12, rfl, by (obtain rfl : k = 15 := by omega); decide, h9⟩) (fun _ h9 => by cases h9) d_CS_listOf_143
  · refine ix_table (tgt := 144) hx hb d_CS_listOf_1 (by omega) 143 (by omega) (by rw [c_1]; rfl) (by decide) ?_
    refine ix_gets hx hb hZ 13 (by decide) hS hown (ht _ k_264) d_CS_listOf_144 ?_
    subst hQ
    exact W.aret (v := .ref (g.2.2 13)) hx hb hr (Or.inr ⟨_, rfl⟩) (Or.inr ⟨_, rfl⟩) (fun t h9 hW => ⟨13, rfl, by (obtain rfl : k = 16 := by omega); decide, h9⟩) (fun _ h9 => by cases h9) d_CS_listOf_147
  · refine ix_table (tgt := 148) hx hb d_CS_listOf_1 (by omega) 147 (by omega) (by rw [c_1]; rfl) (by decide) ?_
    refine ix_gets hx hb hZ 14 (by decide) hS hown (ht _ k_266) d_CS_listOf_148 ?_
    subst hQ
    exact W.aret (v := .ref (g.2.2 14)) hx hb hr (Or.inr ⟨_, rfl⟩) (Or.inr ⟨_, rfl⟩) (fun t h9 hW => ⟨14, rfl, by (obtain rfl : k = 17 := by omega); decide, h9⟩) (fun _ h9 => by cases h9) d_CS_listOf_151
  · refine ix_table (tgt := 152) hx hb d_CS_listOf_1 (by omega) 151 (by omega) (by rw [c_1]; rfl) (by decide) ?_
    refine ix_gets hx hb hZ 15 (by decide) hS hown (ht _ k_268) d_CS_listOf_152 ?_
    subst hQ
    exact W.aret (v := .ref (g.2.2 15)) hx hb hr (Or.inr ⟨_, rfl⟩) (Or.inr ⟨_, rfl⟩) (fun t h9 hW => ⟨15, rfl, by (obtain rfl : k = 18 := by omega); decide, h9⟩) (fun _ h9 => by cases h9) d_CS_listOf_155
  · exact absurd c_1 (by omega)
def rlP (la : Int) (k : Nat) : List (Int × Int) := if 32 ≤ k ∧ k < 44 then rlS (((k : Nat) : Int) - 32) 253 else if k = 48 then (133, 133) :: (9, 13) :: rlC (catM k) la 253 else if k = 47 then (95, 95) :: rlC (catM k) la 253 else rlC (catM k) la 253
set_option maxHeartbeats 4000000 in
set_option maxRecDepth 100000 in
theorem c_CS_gatherProperty (l : Launch) (g : zG) (sz : Nat) (q : Nat → Nat) (u la : Int) (NX : Nat → Int) (n : Nat → Nat) (es : Nat → Nat → Int) (mg : Nat) (eg : Nat → Int) (k : Nat) (Bs : List Int) (hBl : Bs.length ≤ 2046) (hgo : gok Bs eg mg) (hla : 0 ≤ la ∧ la ≤ 1114111) (hk : k ≤ 48) (hla2 : 255 ≤ la) (hPB1 : ∀ i, i < 253 → LOf i ≤ min (hiE i - 1) la → LOf i ∈ Bs ∧ min (hiE i - 1) la + 1 ∈ Bs) (hBC : 95 ∈ Bs ∧ 96 ∈ Bs ∧ 9 ∈ Bs ∧ 14 ∈ Bs ∧ 133 ∈ Bs ∧ 134 ∈ Bs)  : Met l y_CS_gatherProperty w_CS_gatherProperty { frames := 4, cells := 0, slots := 0, locals := 98 } (zPw g [.ref (q 0), .int (iI (((k : Nat) : Int)))] (cw g q u la NX (va_up n 8 mg) (va_up es 8 eg)) [] sz) (va_Qv (fun w => ∃ (e2 : Nat → Int) (n2 : Nat), GG la eg mg (rlP la k) e2 n2 ∧ gok Bs e2 n2 ∧ w = cw g q u la NX (va_up n 8 n2) (va_up es 8 e2)) (zB g (va_A (cw g q u la NX (va_up n 8 mg) (va_up es 8 eg)) sz)) (va_A (cw g q u la NX (va_up n 8 mg) (va_up es 8 eg)) sz)) 0 0 (va_A (cw g q u la NX (va_up n 8 mg) (va_up es 8 eg)) sz) := by
  refine Met.ofW (cc := b_CS_gatherProperty) (maxL := 2) (ret := none) (by decide) rfl ?_
  intro p e s m args below meth cd s₁ B hml hv
  obtain ⟨hargs, hsz, hP, hK, hD0, hZ, hO0, hAp⟩ := hv
  have hx := B.exec
  have hb := B.bytes
  have hr := B.returns
  have ht : ∀ w ∈ lw_ok, w.before args s = true := fun w h => atoms_spec (ws := w_CS_gatherProperty) B.pre w (List.mem_cons_of_mem _ h)
  have hown : s.vm.findClass R_CS = some m.cls := findClass_of_methodNamed B.named
  have hlocks := B.notSynchronized
  subst hsz
  have hD := hD0.self (sz := s.heap.size)
  generalize hAe : va_A (cw g q u la NX (va_up n 8 mg) (va_up es 8 eg)) s.heap.size = A at hD hZ hAp ⊢
  have hA : ∀ q : Nat, s.heap.size ≤ q → A q := fun q h => by rw [← hAe]; exact Or.inr h
  have hS : va_S A s.heap s.heap [] := va_S.rf
  generalize hQ : MQ below _ args s 0 0 _ = Q
  have hl := lv_entry ([.ref (q 0), .int (iI (((k : Nat) : Int)))]) (n := 2) (Nat.le_of_ble_eq_true rfl)
  rw [show entryFrame m args 2 = entryFrame m ([.ref (q 0), .int (iI (((k : Nat) : Int)))] : List Value).toArray 2 by rw [hargs], lg_entry_eq]
  generalize (lg_sl ([.ref (q 0), .int (iI (((k : Nat) : Int)))]) ++ List.replicate (2 - (lg_sl ([.ref (q 0), .int (iI (((k : Nat) : Int)))])).length) Slot.unset).toArray = ls at hl ⊢
  have hl : lv_has ls 2 [(0, .ref (q 0)), (1, .int (iI (((k : Nat) : Int))))] := hl
  obtain ⟨H, locs, hHe, hLe⟩ : ∃ (H : Heap) (locs : List Loc), H = s.heap ∧ locs = [] := ⟨_, _, rfl, rfl⟩
  rw [show W p l e _ s m args below meth cd s.heap [] 0 0 Q = W p l e _ s m args below meth cd H locs 0 0 Q by rw [hHe, hLe]]
  rw [← hHe] at hP
  have hS : va_S A s.heap H locs := by rw [hHe, hLe]; exact hS
  refine lv_iload_n hx hb d_CS_gatherProperty_0 rfl (lv_at hl 1 rfl) ?_
  refine lv_bipush (v := iI 32) hx hb d_CS_gatherProperty_1 (by decide) ?_
  refine ix_icmp_lt (tgt := 21) hx hb d_CS_gatherProperty_3 (by decide) (by omega) (fun c_3 => ?_) (fun c_3 => ?_)
  · refine lv_aload_n hx hb d_CS_gatherProperty_21 rfl (lv_at hl 0 rfl) ?_
    refine lv_iload_n hx hb d_CS_gatherProperty_22 rfl (lv_at hl 1 rfl) ?_
    refine zcS (As := [.int (iI (((k : Nat) : Int)))]) (rest := [.ref (q 0)]) ⟨hx, hb, hml, hown, ht⟩ t_CS_129 (c_CS_categoriesOf l g k (by omega)) ⟨Nat.le_of_ble_eq_true rfl, Nat.le_of_ble_eq_true rfl⟩ ⟨Nat.zero_le _, Nat.zero_le _⟩ hK hZ hS zP_nil rfl hl.1 rfl (Nat.le_of_ble_eq_true rfl) d_CS_gatherProperty_23 (fun r_23 h_23 => ?_)
    subst h_23
    refine lv_aload_n hx hb d_CS_gatherProperty_26 rfl (lv_at hl 0 rfl) ?_
    refine va_get (D := g.1) (ci := 0) (v := .int (iI la)) (C := R_CS) (T := F_CS) (N := 6) hx hb ht i_CS hown hK hP 0 rfl rfl 1 (by decide) (ht _ k_102) (fun _ h9 => h9) rfl d_CS_gatherProperty_27 ?_
    have hF_30 : ∀ x9, va_A (cw g q u la NX (va_up n 8 mg) (va_up es 8 eg)) H.size x9 → A x9 := fun x9 h9 => h9.elim (fun ⟨j9, e9, hj9⟩ => hD.2 j9 _ hj9) (fun h9 => hA x9 (Nat.le_trans hS.1 h9))
    refine zcVv (ci := 0) (q0 := 0) (As := [.int (iI ((((catM k) : Nat) : Int))), .int (iI la)]) (rest := []) ⟨hx, hb, hml, hown, ht⟩ v_CS_132 (c_CS_gatherCategories l g H.size q u la NX n es mg eg (catM k) la Bs hBl hgo hla (catM_lt k (by omega)) (by omega) (fun i hi h9 => by have q9 := hPB1 i hi (by omega); rw [show min (min (hiE i - 1) la) la = min (hiE i - 1) la by omega]; exact q9)) ⟨Nat.le_of_ble_eq_true rfl, Nat.le_of_ble_eq_true rfl⟩ ⟨Nat.zero_le _, Nat.zero_le _⟩ hK hZ hS hP (hD.weaken (fun _ _ _ _ => trivial)) hF_30 zP_nil zAp_nil rfl rfl rfl rfl hl.1 rfl (Nat.le_of_ble_eq_true rfl) d_CS_gatherProperty_30 (fun w_30 H locs h_30 pp_30 dd_30 zz_30 kk_30 hS => ?_)
    obtain ⟨e30, m30, hGG30, hg30, rfl⟩ := h_30
    have hP : va_P g.1 classes (cw g q u la NX (va_up n 8 m30) (va_up es 8 e30)) H := pp_30
    have hD : va_D A (cw g q u la NX (va_up n 8 m30) (va_up es 8 e30)) := dd_30.weaken (fun _ _ _ h9 => hF_30 _ h9)
    refine lv_iload_n hx hb d_CS_gatherProperty_33 rfl (lv_at hl 1 rfl) ?_
    refine lv_bipush (v := iI 47) hx hb d_CS_gatherProperty_34 (by decide) ?_
    refine ix_icmp_ne (tgt := 47) hx hb d_CS_gatherProperty_36 (by decide) (by omega) (fun c_36 => ?_) (fun c_36 => ?_)
    · refine lv_iload_n hx hb d_CS_gatherProperty_47 rfl (lv_at hl 1 rfl) ?_
      refine lv_bipush (v := iI 48) hx hb d_CS_gatherProperty_48 (by decide) ?_
      refine ix_icmp_ne (tgt := 71) hx hb d_CS_gatherProperty_50 (by decide) (by omega) (fun c_50 => ?_) (fun c_50 => ?_)
      · subst hQ
        exact W.vret hx hb hr (fun t h9 hW => ⟨⟨_, rfl, ⟨e30, m30, by first | (exfalso; omega) | (unfold rlP; first | (rw [if_pos (show 32 ≤ k ∧ k < 44 by omega)]; exact hGG30) | (rw [if_neg (show ¬ (32 ≤ k ∧ k < 44) by omega)]; first | (rw [if_pos (show k = 48 by omega)]; exact hGG30) | (rw [if_neg (show ¬ k = 48 by omega)]; first | (rw [if_pos (show k = 47 by omega)]; exact hGG30) | (rw [if_neg (show ¬ k = 47 by omega)]; exact hGG30)))), hg30, rfl⟩, by rw [h9]; exact hP, va_K.moved hW.alike hK, hD⟩, hS.F h9⟩) hS.2.2 d_CS_gatherProperty_71
      · refine lv_aload_n hx hb d_CS_gatherProperty_53 rfl (lv_at hl 0 rfl) ?_
        refine lv_bipush (v := iI 9) hx hb d_CS_gatherProperty_54 (by decide) ?_
        refine lv_bipush (v := iI 13) hx hb d_CS_gatherProperty_56 (by decide) ?_
        have hB_58 : 9 ≤ min 13 la → 9 ∈ Bs ∧ min 13 la + 1 ∈ Bs := (fun _ => ⟨by first | exact hBC.1 | exact hBC.2.2.1 | exact hBC.2.2.2.2.1, by first | (rw [show min (95 : Int) la + 1 = 96 by omega]; exact hBC.2.1) | (rw [show min (13 : Int) la + 1 = 14 by omega]; exact hBC.2.2.2.1) | (rw [show min (133 : Int) la + 1 = 134 by omega]; exact hBC.2.2.2.2.2)⟩)
        have hF_58 : ∀ x9, va_A (cw g q u la NX (va_up n 8 m30) (va_up es 8 e30)) H.size x9 → A x9 := fun x9 h9 => h9.elim (fun ⟨j9, e9, hj9⟩ => hD.2 j9 _ hj9) (fun h9 => hA x9 (Nat.le_trans hS.1 h9))
        refine zcVv (ci := 0) (q0 := 0) (As := [.int (iI 9), .int (iI 13)]) (rest := []) ⟨hx, hb, hml, hown, ht⟩ v_CS_135 (c_CS_gather l g H.size q u la NX n es m30 e30 9 13 Bs hBl hg30 hla (by omega) (by omega) hB_58) ⟨Nat.le_of_ble_eq_true rfl, Nat.le_of_ble_eq_true rfl⟩ ⟨Nat.zero_le _, Nat.zero_le _⟩ hK hZ hS hP (hD.weaken (fun _ _ _ _ => trivial)) hF_58 zP_nil zAp_nil rfl rfl rfl rfl hl.1 rfl (Nat.le_of_ble_eq_true rfl) d_CS_gatherProperty_58 (fun w_58 H locs h_58 pp_58 dd_58 zz_58 kk_58 hS => ?_)
        obtain ⟨e58, m58, hGI58, rfl⟩ := h_58
        have hP : va_P g.1 classes (cw g q u la NX (va_up n 8 m58) (va_up es 8 e58)) H := pp_58
        have hD : va_D A (cw g q u la NX (va_up n 8 m58) (va_up es 8 e58)) := dd_58.weaken (fun _ _ _ h9 => hF_58 _ h9)
        have hg58 := gok_GI hla (by omega) hg30 hGI58 hB_58
        have hGG58 : GG la eg mg ((9, 13) :: _) e58 m58 := ⟨e30, m30, hGG30, hGI58⟩
        refine lv_aload_n hx hb d_CS_gatherProperty_61 rfl (lv_at hl 0 rfl) ?_
        refine lv_sipush (v := iI 133) hx hb d_CS_gatherProperty_62 (by decide) ?_
        refine lv_sipush (v := iI 133) hx hb d_CS_gatherProperty_65 (by decide) ?_
        have hB_68 : 133 ≤ min 133 la → 133 ∈ Bs ∧ min 133 la + 1 ∈ Bs := (fun _ => ⟨by first | exact hBC.1 | exact hBC.2.2.1 | exact hBC.2.2.2.2.1, by first | (rw [show min (95 : Int) la + 1 = 96 by omega]; exact hBC.2.1) | (rw [show min (13 : Int) la + 1 = 14 by omega]; exact hBC.2.2.2.1) | (rw [show min (133 : Int) la + 1 = 134 by omega]; exact hBC.2.2.2.2.2)⟩)
        have hF_68 : ∀ x9, va_A (cw g q u la NX (va_up n 8 m58) (va_up es 8 e58)) H.size x9 → A x9 := fun x9 h9 => h9.elim (fun ⟨j9, e9, hj9⟩ => hD.2 j9 _ hj9) (fun h9 => hA x9 (Nat.le_trans hS.1 h9))
        refine zcVv (ci := 0) (q0 := 0) (As := [.int (iI 133), .int (iI 133)]) (rest := []) ⟨hx, hb, hml, hown, ht⟩ v_CS_135 (c_CS_gather l g H.size q u la NX n es m58 e58 133 133 Bs hBl hg58 hla (by omega) (by omega) hB_68) ⟨Nat.le_of_ble_eq_true rfl, Nat.le_of_ble_eq_true rfl⟩ ⟨Nat.zero_le _, Nat.zero_le _⟩ hK hZ hS hP (hD.weaken (fun _ _ _ _ => trivial)) hF_68 zP_nil zAp_nil rfl rfl rfl rfl hl.1 rfl (Nat.le_of_ble_eq_true rfl) d_CS_gatherProperty_68 (fun w_68 H locs h_68 pp_68 dd_68 zz_68 kk_68 hS => ?_)
        obtain ⟨e68, m68, hGI68, rfl⟩ := h_68
        have hP : va_P g.1 classes (cw g q u la NX (va_up n 8 m68) (va_up es 8 e68)) H := pp_68
        have hD : va_D A (cw g q u la NX (va_up n 8 m68) (va_up es 8 e68)) := dd_68.weaken (fun _ _ _ h9 => hF_68 _ h9)
        have hg68 := gok_GI hla (by omega) hg58 hGI68 hB_68
        have hGG68 : GG la eg mg ((133, 133) :: _) e68 m68 := ⟨e58, m58, hGG58, hGI68⟩
        subst hQ
        exact W.vret hx hb hr (fun t h9 hW => ⟨⟨_, rfl, ⟨e68, m68, by first | (exfalso; omega) | (unfold rlP; first | (rw [if_pos (show 32 ≤ k ∧ k < 44 by omega)]; exact hGG68) | (rw [if_neg (show ¬ (32 ≤ k ∧ k < 44) by omega)]; first | (rw [if_pos (show k = 48 by omega)]; exact hGG68) | (rw [if_neg (show ¬ k = 48 by omega)]; first | (rw [if_pos (show k = 47 by omega)]; exact hGG68) | (rw [if_neg (show ¬ k = 47 by omega)]; exact hGG68)))), hg68, rfl⟩, by rw [h9]; exact hP, va_K.moved hW.alike hK, hD⟩, hS.F h9⟩) hS.2.2 d_CS_gatherProperty_71
    · refine lv_aload_n hx hb d_CS_gatherProperty_39 rfl (lv_at hl 0 rfl) ?_
      refine lv_bipush (v := iI 95) hx hb d_CS_gatherProperty_40 (by decide) ?_
      refine lv_bipush (v := iI 95) hx hb d_CS_gatherProperty_42 (by decide) ?_
      have hB_44 : 95 ≤ min 95 la → 95 ∈ Bs ∧ min 95 la + 1 ∈ Bs := (fun _ => ⟨by first | exact hBC.1 | exact hBC.2.2.1 | exact hBC.2.2.2.2.1, by first | (rw [show min (95 : Int) la + 1 = 96 by omega]; exact hBC.2.1) | (rw [show min (13 : Int) la + 1 = 14 by omega]; exact hBC.2.2.2.1) | (rw [show min (133 : Int) la + 1 = 134 by omega]; exact hBC.2.2.2.2.2)⟩)
      have hF_44 : ∀ x9, va_A (cw g q u la NX (va_up n 8 m30) (va_up es 8 e30)) H.size x9 → A x9 := fun x9 h9 => h9.elim (fun ⟨j9, e9, hj9⟩ => hD.2 j9 _ hj9) (fun h9 => hA x9 (Nat.le_trans hS.1 h9))
      refine zcVv (ci := 0) (q0 := 0) (As := [.int (iI 95), .int (iI 95)]) (rest := []) ⟨hx, hb, hml, hown, ht⟩ v_CS_135 (c_CS_gather l g H.size q u la NX n es m30 e30 95 95 Bs hBl hg30 hla (by omega) (by omega) hB_44) ⟨Nat.le_of_ble_eq_true rfl, Nat.le_of_ble_eq_true rfl⟩ ⟨Nat.zero_le _, Nat.zero_le _⟩ hK hZ hS hP (hD.weaken (fun _ _ _ _ => trivial)) hF_44 zP_nil zAp_nil rfl rfl rfl rfl hl.1 rfl (Nat.le_of_ble_eq_true rfl) d_CS_gatherProperty_44 (fun w_44 H locs h_44 pp_44 dd_44 zz_44 kk_44 hS => ?_)
      obtain ⟨e44, m44, hGI44, rfl⟩ := h_44
      have hP : va_P g.1 classes (cw g q u la NX (va_up n 8 m44) (va_up es 8 e44)) H := pp_44
      have hD : va_D A (cw g q u la NX (va_up n 8 m44) (va_up es 8 e44)) := dd_44.weaken (fun _ _ _ h9 => hF_44 _ h9)
      have hg44 := gok_GI hla (by omega) hg30 hGI44 hB_44
      have hGG44 : GG la eg mg ((95, 95) :: _) e44 m44 := ⟨e30, m30, hGG30, hGI44⟩
      refine lv_iload_n hx hb d_CS_gatherProperty_47 rfl (lv_at hl 1 rfl) ?_
      refine lv_bipush (v := iI 48) hx hb d_CS_gatherProperty_48 (by decide) ?_
      refine ix_icmp_ne (tgt := 71) hx hb d_CS_gatherProperty_50 (by decide) (by omega) (fun c_50 => ?_) (fun c_50 => ?_)
      · subst hQ
        exact W.vret hx hb hr (fun t h9 hW => ⟨⟨_, rfl, ⟨e44, m44, by first | (exfalso; omega) | (unfold rlP; first | (rw [if_pos (show 32 ≤ k ∧ k < 44 by omega)]; exact hGG44) | (rw [if_neg (show ¬ (32 ≤ k ∧ k < 44) by omega)]; first | (rw [if_pos (show k = 48 by omega)]; exact hGG44) | (rw [if_neg (show ¬ k = 48 by omega)]; first | (rw [if_pos (show k = 47 by omega)]; exact hGG44) | (rw [if_neg (show ¬ k = 47 by omega)]; exact hGG44)))), hg44, rfl⟩, by rw [h9]; exact hP, va_K.moved hW.alike hK, hD⟩, hS.F h9⟩) hS.2.2 d_CS_gatherProperty_71
      · refine lv_aload_n hx hb d_CS_gatherProperty_53 rfl (lv_at hl 0 rfl) ?_
        refine lv_bipush (v := iI 9) hx hb d_CS_gatherProperty_54 (by decide) ?_
        refine lv_bipush (v := iI 13) hx hb d_CS_gatherProperty_56 (by decide) ?_
        have hB_58 : 9 ≤ min 13 la → 9 ∈ Bs ∧ min 13 la + 1 ∈ Bs := (fun _ => ⟨by first | exact hBC.1 | exact hBC.2.2.1 | exact hBC.2.2.2.2.1, by first | (rw [show min (95 : Int) la + 1 = 96 by omega]; exact hBC.2.1) | (rw [show min (13 : Int) la + 1 = 14 by omega]; exact hBC.2.2.2.1) | (rw [show min (133 : Int) la + 1 = 134 by omega]; exact hBC.2.2.2.2.2)⟩)
        have hF_58 : ∀ x9, va_A (cw g q u la NX (va_up n 8 m44) (va_up es 8 e44)) H.size x9 → A x9 := fun x9 h9 => h9.elim (fun ⟨j9, e9, hj9⟩ => hD.2 j9 _ hj9) (fun h9 => hA x9 (Nat.le_trans hS.1 h9))
        refine zcVv (ci := 0) (q0 := 0) (As := [.int (iI 9), .int (iI 13)]) (rest := []) ⟨hx, hb, hml, hown, ht⟩ v_CS_135 (c_CS_gather l g H.size q u la NX n es m44 e44 9 13 Bs hBl hg44 hla (by omega) (by omega) hB_58) ⟨Nat.le_of_ble_eq_true rfl, Nat.le_of_ble_eq_true rfl⟩ ⟨Nat.zero_le _, Nat.zero_le _⟩ hK hZ hS hP (hD.weaken (fun _ _ _ _ => trivial)) hF_58 zP_nil zAp_nil rfl rfl rfl rfl hl.1 rfl (Nat.le_of_ble_eq_true rfl) d_CS_gatherProperty_58 (fun w_58 H locs h_58 pp_58 dd_58 zz_58 kk_58 hS => ?_)
        obtain ⟨e58, m58, hGI58, rfl⟩ := h_58
        have hP : va_P g.1 classes (cw g q u la NX (va_up n 8 m58) (va_up es 8 e58)) H := pp_58
        have hD : va_D A (cw g q u la NX (va_up n 8 m58) (va_up es 8 e58)) := dd_58.weaken (fun _ _ _ h9 => hF_58 _ h9)
        have hg58 := gok_GI hla (by omega) hg44 hGI58 hB_58
        have hGG58 : GG la eg mg ((9, 13) :: _) e58 m58 := ⟨e44, m44, hGG44, hGI58⟩
        refine lv_aload_n hx hb d_CS_gatherProperty_61 rfl (lv_at hl 0 rfl) ?_
        refine lv_sipush (v := iI 133) hx hb d_CS_gatherProperty_62 (by decide) ?_
        refine lv_sipush (v := iI 133) hx hb d_CS_gatherProperty_65 (by decide) ?_
        have hB_68 : 133 ≤ min 133 la → 133 ∈ Bs ∧ min 133 la + 1 ∈ Bs := (fun _ => ⟨by first | exact hBC.1 | exact hBC.2.2.1 | exact hBC.2.2.2.2.1, by first | (rw [show min (95 : Int) la + 1 = 96 by omega]; exact hBC.2.1) | (rw [show min (13 : Int) la + 1 = 14 by omega]; exact hBC.2.2.2.1) | (rw [show min (133 : Int) la + 1 = 134 by omega]; exact hBC.2.2.2.2.2)⟩)
        have hF_68 : ∀ x9, va_A (cw g q u la NX (va_up n 8 m58) (va_up es 8 e58)) H.size x9 → A x9 := fun x9 h9 => h9.elim (fun ⟨j9, e9, hj9⟩ => hD.2 j9 _ hj9) (fun h9 => hA x9 (Nat.le_trans hS.1 h9))
        refine zcVv (ci := 0) (q0 := 0) (As := [.int (iI 133), .int (iI 133)]) (rest := []) ⟨hx, hb, hml, hown, ht⟩ v_CS_135 (c_CS_gather l g H.size q u la NX n es m58 e58 133 133 Bs hBl hg58 hla (by omega) (by omega) hB_68) ⟨Nat.le_of_ble_eq_true rfl, Nat.le_of_ble_eq_true rfl⟩ ⟨Nat.zero_le _, Nat.zero_le _⟩ hK hZ hS hP (hD.weaken (fun _ _ _ _ => trivial)) hF_68 zP_nil zAp_nil rfl rfl rfl rfl hl.1 rfl (Nat.le_of_ble_eq_true rfl) d_CS_gatherProperty_68 (fun w_68 H locs h_68 pp_68 dd_68 zz_68 kk_68 hS => ?_)
        obtain ⟨e68, m68, hGI68, rfl⟩ := h_68
        have hP : va_P g.1 classes (cw g q u la NX (va_up n 8 m68) (va_up es 8 e68)) H := pp_68
        have hD : va_D A (cw g q u la NX (va_up n 8 m68) (va_up es 8 e68)) := dd_68.weaken (fun _ _ _ h9 => hF_68 _ h9)
        have hg68 := gok_GI hla (by omega) hg58 hGI68 hB_68
        have hGG68 : GG la eg mg ((133, 133) :: _) e68 m68 := ⟨e58, m58, hGG58, hGI68⟩
        subst hQ
        exact W.vret hx hb hr (fun t h9 hW => ⟨⟨_, rfl, ⟨e68, m68, by first | (exfalso; omega) | (unfold rlP; first | (rw [if_pos (show 32 ≤ k ∧ k < 44 by omega)]; exact hGG68) | (rw [if_neg (show ¬ (32 ≤ k ∧ k < 44) by omega)]; first | (rw [if_pos (show k = 48 by omega)]; exact hGG68) | (rw [if_neg (show ¬ k = 48 by omega)]; first | (rw [if_pos (show k = 47 by omega)]; exact hGG68) | (rw [if_neg (show ¬ k = 47 by omega)]; exact hGG68)))), hg68, rfl⟩, by rw [h9]; exact hP, va_K.moved hW.alike hK, hD⟩, hS.F h9⟩) hS.2.2 d_CS_gatherProperty_71
  · refine lv_iload_n hx hb d_CS_gatherProperty_6 rfl (lv_at hl 1 rfl) ?_
    refine lv_bipush (v := iI 44) hx hb d_CS_gatherProperty_7 (by decide) ?_
    refine ix_icmp_ge (tgt := 21) hx hb d_CS_gatherProperty_9 (by decide) (by omega) (fun c_9 => ?_) (fun c_9 => ?_)
    · refine lv_aload_n hx hb d_CS_gatherProperty_21 rfl (lv_at hl 0 rfl) ?_
      refine lv_iload_n hx hb d_CS_gatherProperty_22 rfl (lv_at hl 1 rfl) ?_
      refine zcS (As := [.int (iI (((k : Nat) : Int)))]) (rest := [.ref (q 0)]) ⟨hx, hb, hml, hown, ht⟩ t_CS_129 (c_CS_categoriesOf l g k (by omega)) ⟨Nat.le_of_ble_eq_true rfl, Nat.le_of_ble_eq_true rfl⟩ ⟨Nat.zero_le _, Nat.zero_le _⟩ hK hZ hS zP_nil rfl hl.1 rfl (Nat.le_of_ble_eq_true rfl) d_CS_gatherProperty_23 (fun r_23 h_23 => ?_)
      subst h_23
      refine lv_aload_n hx hb d_CS_gatherProperty_26 rfl (lv_at hl 0 rfl) ?_
      refine va_get (D := g.1) (ci := 0) (v := .int (iI la)) (C := R_CS) (T := F_CS) (N := 6) hx hb ht i_CS hown hK hP 0 rfl rfl 1 (by decide) (ht _ k_102) (fun _ h9 => h9) rfl d_CS_gatherProperty_27 ?_
      have hF_30 : ∀ x9, va_A (cw g q u la NX (va_up n 8 mg) (va_up es 8 eg)) H.size x9 → A x9 := fun x9 h9 => h9.elim (fun ⟨j9, e9, hj9⟩ => hD.2 j9 _ hj9) (fun h9 => hA x9 (Nat.le_trans hS.1 h9))
      refine zcVv (ci := 0) (q0 := 0) (As := [.int (iI ((((catM k) : Nat) : Int))), .int (iI la)]) (rest := []) ⟨hx, hb, hml, hown, ht⟩ v_CS_132 (c_CS_gatherCategories l g H.size q u la NX n es mg eg (catM k) la Bs hBl hgo hla (catM_lt k (by omega)) (by omega) (fun i hi h9 => by have q9 := hPB1 i hi (by omega); rw [show min (min (hiE i - 1) la) la = min (hiE i - 1) la by omega]; exact q9)) ⟨Nat.le_of_ble_eq_true rfl, Nat.le_of_ble_eq_true rfl⟩ ⟨Nat.zero_le _, Nat.zero_le _⟩ hK hZ hS hP (hD.weaken (fun _ _ _ _ => trivial)) hF_30 zP_nil zAp_nil rfl rfl rfl rfl hl.1 rfl (Nat.le_of_ble_eq_true rfl) d_CS_gatherProperty_30 (fun w_30 H locs h_30 pp_30 dd_30 zz_30 kk_30 hS => ?_)
      obtain ⟨e30, m30, hGG30, hg30, rfl⟩ := h_30
      have hP : va_P g.1 classes (cw g q u la NX (va_up n 8 m30) (va_up es 8 e30)) H := pp_30
      have hD : va_D A (cw g q u la NX (va_up n 8 m30) (va_up es 8 e30)) := dd_30.weaken (fun _ _ _ h9 => hF_30 _ h9)
      refine lv_iload_n hx hb d_CS_gatherProperty_33 rfl (lv_at hl 1 rfl) ?_
      refine lv_bipush (v := iI 47) hx hb d_CS_gatherProperty_34 (by decide) ?_
      refine ix_icmp_ne (tgt := 47) hx hb d_CS_gatherProperty_36 (by decide) (by omega) (fun c_36 => ?_) (fun c_36 => ?_)
      · refine lv_iload_n hx hb d_CS_gatherProperty_47 rfl (lv_at hl 1 rfl) ?_
        refine lv_bipush (v := iI 48) hx hb d_CS_gatherProperty_48 (by decide) ?_
        refine ix_icmp_ne (tgt := 71) hx hb d_CS_gatherProperty_50 (by decide) (by omega) (fun c_50 => ?_) (fun c_50 => ?_)
        · subst hQ
          exact W.vret hx hb hr (fun t h9 hW => ⟨⟨_, rfl, ⟨e30, m30, by first | (exfalso; omega) | (unfold rlP; first | (rw [if_pos (show 32 ≤ k ∧ k < 44 by omega)]; exact hGG30) | (rw [if_neg (show ¬ (32 ≤ k ∧ k < 44) by omega)]; first | (rw [if_pos (show k = 48 by omega)]; exact hGG30) | (rw [if_neg (show ¬ k = 48 by omega)]; first | (rw [if_pos (show k = 47 by omega)]; exact hGG30) | (rw [if_neg (show ¬ k = 47 by omega)]; exact hGG30)))), hg30, rfl⟩, by rw [h9]; exact hP, va_K.moved hW.alike hK, hD⟩, hS.F h9⟩) hS.2.2 d_CS_gatherProperty_71
        · refine lv_aload_n hx hb d_CS_gatherProperty_53 rfl (lv_at hl 0 rfl) ?_
          refine lv_bipush (v := iI 9) hx hb d_CS_gatherProperty_54 (by decide) ?_
          refine lv_bipush (v := iI 13) hx hb d_CS_gatherProperty_56 (by decide) ?_
          have hB_58 : 9 ≤ min 13 la → 9 ∈ Bs ∧ min 13 la + 1 ∈ Bs := (fun _ => ⟨by first | exact hBC.1 | exact hBC.2.2.1 | exact hBC.2.2.2.2.1, by first | (rw [show min (95 : Int) la + 1 = 96 by omega]; exact hBC.2.1) | (rw [show min (13 : Int) la + 1 = 14 by omega]; exact hBC.2.2.2.1) | (rw [show min (133 : Int) la + 1 = 134 by omega]; exact hBC.2.2.2.2.2)⟩)
          have hF_58 : ∀ x9, va_A (cw g q u la NX (va_up n 8 m30) (va_up es 8 e30)) H.size x9 → A x9 := fun x9 h9 => h9.elim (fun ⟨j9, e9, hj9⟩ => hD.2 j9 _ hj9) (fun h9 => hA x9 (Nat.le_trans hS.1 h9))
          refine zcVv (ci := 0) (q0 := 0) (As := [.int (iI 9), .int (iI 13)]) (rest := []) ⟨hx, hb, hml, hown, ht⟩ v_CS_135 (c_CS_gather l g H.size q u la NX n es m30 e30 9 13 Bs hBl hg30 hla (by omega) (by omega) hB_58) ⟨Nat.le_of_ble_eq_true rfl, Nat.le_of_ble_eq_true rfl⟩ ⟨Nat.zero_le _, Nat.zero_le _⟩ hK hZ hS hP (hD.weaken (fun _ _ _ _ => trivial)) hF_58 zP_nil zAp_nil rfl rfl rfl rfl hl.1 rfl (Nat.le_of_ble_eq_true rfl) d_CS_gatherProperty_58 (fun w_58 H locs h_58 pp_58 dd_58 zz_58 kk_58 hS => ?_)
          obtain ⟨e58, m58, hGI58, rfl⟩ := h_58
          have hP : va_P g.1 classes (cw g q u la NX (va_up n 8 m58) (va_up es 8 e58)) H := pp_58
          have hD : va_D A (cw g q u la NX (va_up n 8 m58) (va_up es 8 e58)) := dd_58.weaken (fun _ _ _ h9 => hF_58 _ h9)
          have hg58 := gok_GI hla (by omega) hg30 hGI58 hB_58
          have hGG58 : GG la eg mg ((9, 13) :: _) e58 m58 := ⟨e30, m30, hGG30, hGI58⟩
          refine lv_aload_n hx hb d_CS_gatherProperty_61 rfl (lv_at hl 0 rfl) ?_
          refine lv_sipush (v := iI 133) hx hb d_CS_gatherProperty_62 (by decide) ?_
          refine lv_sipush (v := iI 133) hx hb d_CS_gatherProperty_65 (by decide) ?_
          have hB_68 : 133 ≤ min 133 la → 133 ∈ Bs ∧ min 133 la + 1 ∈ Bs := (fun _ => ⟨by first | exact hBC.1 | exact hBC.2.2.1 | exact hBC.2.2.2.2.1, by first | (rw [show min (95 : Int) la + 1 = 96 by omega]; exact hBC.2.1) | (rw [show min (13 : Int) la + 1 = 14 by omega]; exact hBC.2.2.2.1) | (rw [show min (133 : Int) la + 1 = 134 by omega]; exact hBC.2.2.2.2.2)⟩)
          have hF_68 : ∀ x9, va_A (cw g q u la NX (va_up n 8 m58) (va_up es 8 e58)) H.size x9 → A x9 := fun x9 h9 => h9.elim (fun ⟨j9, e9, hj9⟩ => hD.2 j9 _ hj9) (fun h9 => hA x9 (Nat.le_trans hS.1 h9))
          refine zcVv (ci := 0) (q0 := 0) (As := [.int (iI 133), .int (iI 133)]) (rest := []) ⟨hx, hb, hml, hown, ht⟩ v_CS_135 (c_CS_gather l g H.size q u la NX n es m58 e58 133 133 Bs hBl hg58 hla (by omega) (by omega) hB_68) ⟨Nat.le_of_ble_eq_true rfl, Nat.le_of_ble_eq_true rfl⟩ ⟨Nat.zero_le _, Nat.zero_le _⟩ hK hZ hS hP (hD.weaken (fun _ _ _ _ => trivial)) hF_68 zP_nil zAp_nil rfl rfl rfl rfl hl.1 rfl (Nat.le_of_ble_eq_true rfl) d_CS_gatherProperty_68 (fun w_68 H locs h_68 pp_68 dd_68 zz_68 kk_68 hS => ?_)
          obtain ⟨e68, m68, hGI68, rfl⟩ := h_68
          have hP : va_P g.1 classes (cw g q u la NX (va_up n 8 m68) (va_up es 8 e68)) H := pp_68
          have hD : va_D A (cw g q u la NX (va_up n 8 m68) (va_up es 8 e68)) := dd_68.weaken (fun _ _ _ h9 => hF_68 _ h9)
          have hg68 := gok_GI hla (by omega) hg58 hGI68 hB_68
          have hGG68 : GG la eg mg ((133, 133) :: _) e68 m68 := ⟨e58, m58, hGG58, hGI68⟩
          subst hQ
          exact W.vret hx hb hr (fun t h9 hW => ⟨⟨_, rfl, ⟨e68, m68, by first | (exfalso; omega) | (unfold rlP; first | (rw [if_pos (show 32 ≤ k ∧ k < 44 by omega)]; exact hGG68) | (rw [if_neg (show ¬ (32 ≤ k ∧ k < 44) by omega)]; first | (rw [if_pos (show k = 48 by omega)]; exact hGG68) | (rw [if_neg (show ¬ k = 48 by omega)]; first | (rw [if_pos (show k = 47 by omega)]; exact hGG68) | (rw [if_neg (show ¬ k = 47 by omega)]; exact hGG68)))), hg68, rfl⟩, by rw [h9]; exact hP, va_K.moved hW.alike hK, hD⟩, hS.F h9⟩) hS.2.2 d_CS_gatherProperty_71
      · refine lv_aload_n hx hb d_CS_gatherProperty_39 rfl (lv_at hl 0 rfl) ?_
        refine lv_bipush (v := iI 95) hx hb d_CS_gatherProperty_40 (by decide) ?_
        refine lv_bipush (v := iI 95) hx hb d_CS_gatherProperty_42 (by decide) ?_
        have hB_44 : 95 ≤ min 95 la → 95 ∈ Bs ∧ min 95 la + 1 ∈ Bs := (fun _ => ⟨by first | exact hBC.1 | exact hBC.2.2.1 | exact hBC.2.2.2.2.1, by first | (rw [show min (95 : Int) la + 1 = 96 by omega]; exact hBC.2.1) | (rw [show min (13 : Int) la + 1 = 14 by omega]; exact hBC.2.2.2.1) | (rw [show min (133 : Int) la + 1 = 134 by omega]; exact hBC.2.2.2.2.2)⟩)
        have hF_44 : ∀ x9, va_A (cw g q u la NX (va_up n 8 m30) (va_up es 8 e30)) H.size x9 → A x9 := fun x9 h9 => h9.elim (fun ⟨j9, e9, hj9⟩ => hD.2 j9 _ hj9) (fun h9 => hA x9 (Nat.le_trans hS.1 h9))
        refine zcVv (ci := 0) (q0 := 0) (As := [.int (iI 95), .int (iI 95)]) (rest := []) ⟨hx, hb, hml, hown, ht⟩ v_CS_135 (c_CS_gather l g H.size q u la NX n es m30 e30 95 95 Bs hBl hg30 hla (by omega) (by omega) hB_44) ⟨Nat.le_of_ble_eq_true rfl, Nat.le_of_ble_eq_true rfl⟩ ⟨Nat.zero_le _, Nat.zero_le _⟩ hK hZ hS hP (hD.weaken (fun _ _ _ _ => trivial)) hF_44 zP_nil zAp_nil rfl rfl rfl rfl hl.1 rfl (Nat.le_of_ble_eq_true rfl) d_CS_gatherProperty_44 (fun w_44 H locs h_44 pp_44 dd_44 zz_44 kk_44 hS => ?_)
        obtain ⟨e44, m44, hGI44, rfl⟩ := h_44
        have hP : va_P g.1 classes (cw g q u la NX (va_up n 8 m44) (va_up es 8 e44)) H := pp_44
        have hD : va_D A (cw g q u la NX (va_up n 8 m44) (va_up es 8 e44)) := dd_44.weaken (fun _ _ _ h9 => hF_44 _ h9)
        have hg44 := gok_GI hla (by omega) hg30 hGI44 hB_44
        have hGG44 : GG la eg mg ((95, 95) :: _) e44 m44 := ⟨e30, m30, hGG30, hGI44⟩
        refine lv_iload_n hx hb d_CS_gatherProperty_47 rfl (lv_at hl 1 rfl) ?_
        refine lv_bipush (v := iI 48) hx hb d_CS_gatherProperty_48 (by decide) ?_
        refine ix_icmp_ne (tgt := 71) hx hb d_CS_gatherProperty_50 (by decide) (by omega) (fun c_50 => ?_) (fun c_50 => ?_)
        · subst hQ
          exact W.vret hx hb hr (fun t h9 hW => ⟨⟨_, rfl, ⟨e44, m44, by first | (exfalso; omega) | (unfold rlP; first | (rw [if_pos (show 32 ≤ k ∧ k < 44 by omega)]; exact hGG44) | (rw [if_neg (show ¬ (32 ≤ k ∧ k < 44) by omega)]; first | (rw [if_pos (show k = 48 by omega)]; exact hGG44) | (rw [if_neg (show ¬ k = 48 by omega)]; first | (rw [if_pos (show k = 47 by omega)]; exact hGG44) | (rw [if_neg (show ¬ k = 47 by omega)]; exact hGG44)))), hg44, rfl⟩, by rw [h9]; exact hP, va_K.moved hW.alike hK, hD⟩, hS.F h9⟩) hS.2.2 d_CS_gatherProperty_71
        · refine lv_aload_n hx hb d_CS_gatherProperty_53 rfl (lv_at hl 0 rfl) ?_
          refine lv_bipush (v := iI 9) hx hb d_CS_gatherProperty_54 (by decide) ?_
          refine lv_bipush (v := iI 13) hx hb d_CS_gatherProperty_56 (by decide) ?_
          have hB_58 : 9 ≤ min 13 la → 9 ∈ Bs ∧ min 13 la + 1 ∈ Bs := (fun _ => ⟨by first | exact hBC.1 | exact hBC.2.2.1 | exact hBC.2.2.2.2.1, by first | (rw [show min (95 : Int) la + 1 = 96 by omega]; exact hBC.2.1) | (rw [show min (13 : Int) la + 1 = 14 by omega]; exact hBC.2.2.2.1) | (rw [show min (133 : Int) la + 1 = 134 by omega]; exact hBC.2.2.2.2.2)⟩)
          have hF_58 : ∀ x9, va_A (cw g q u la NX (va_up n 8 m44) (va_up es 8 e44)) H.size x9 → A x9 := fun x9 h9 => h9.elim (fun ⟨j9, e9, hj9⟩ => hD.2 j9 _ hj9) (fun h9 => hA x9 (Nat.le_trans hS.1 h9))
          refine zcVv (ci := 0) (q0 := 0) (As := [.int (iI 9), .int (iI 13)]) (rest := []) ⟨hx, hb, hml, hown, ht⟩ v_CS_135 (c_CS_gather l g H.size q u la NX n es m44 e44 9 13 Bs hBl hg44 hla (by omega) (by omega) hB_58) ⟨Nat.le_of_ble_eq_true rfl, Nat.le_of_ble_eq_true rfl⟩ ⟨Nat.zero_le _, Nat.zero_le _⟩ hK hZ hS hP (hD.weaken (fun _ _ _ _ => trivial)) hF_58 zP_nil zAp_nil rfl rfl rfl rfl hl.1 rfl (Nat.le_of_ble_eq_true rfl) d_CS_gatherProperty_58 (fun w_58 H locs h_58 pp_58 dd_58 zz_58 kk_58 hS => ?_)
          obtain ⟨e58, m58, hGI58, rfl⟩ := h_58
          have hP : va_P g.1 classes (cw g q u la NX (va_up n 8 m58) (va_up es 8 e58)) H := pp_58
          have hD : va_D A (cw g q u la NX (va_up n 8 m58) (va_up es 8 e58)) := dd_58.weaken (fun _ _ _ h9 => hF_58 _ h9)
          have hg58 := gok_GI hla (by omega) hg44 hGI58 hB_58
          have hGG58 : GG la eg mg ((9, 13) :: _) e58 m58 := ⟨e44, m44, hGG44, hGI58⟩
          refine lv_aload_n hx hb d_CS_gatherProperty_61 rfl (lv_at hl 0 rfl) ?_
          refine lv_sipush (v := iI 133) hx hb d_CS_gatherProperty_62 (by decide) ?_
          refine lv_sipush (v := iI 133) hx hb d_CS_gatherProperty_65 (by decide) ?_
          have hB_68 : 133 ≤ min 133 la → 133 ∈ Bs ∧ min 133 la + 1 ∈ Bs := (fun _ => ⟨by first | exact hBC.1 | exact hBC.2.2.1 | exact hBC.2.2.2.2.1, by first | (rw [show min (95 : Int) la + 1 = 96 by omega]; exact hBC.2.1) | (rw [show min (13 : Int) la + 1 = 14 by omega]; exact hBC.2.2.2.1) | (rw [show min (133 : Int) la + 1 = 134 by omega]; exact hBC.2.2.2.2.2)⟩)
          have hF_68 : ∀ x9, va_A (cw g q u la NX (va_up n 8 m58) (va_up es 8 e58)) H.size x9 → A x9 := fun x9 h9 => h9.elim (fun ⟨j9, e9, hj9⟩ => hD.2 j9 _ hj9) (fun h9 => hA x9 (Nat.le_trans hS.1 h9))
          refine zcVv (ci := 0) (q0 := 0) (As := [.int (iI 133), .int (iI 133)]) (rest := []) ⟨hx, hb, hml, hown, ht⟩ v_CS_135 (c_CS_gather l g H.size q u la NX n es m58 e58 133 133 Bs hBl hg58 hla (by omega) (by omega) hB_68) ⟨Nat.le_of_ble_eq_true rfl, Nat.le_of_ble_eq_true rfl⟩ ⟨Nat.zero_le _, Nat.zero_le _⟩ hK hZ hS hP (hD.weaken (fun _ _ _ _ => trivial)) hF_68 zP_nil zAp_nil rfl rfl rfl rfl hl.1 rfl (Nat.le_of_ble_eq_true rfl) d_CS_gatherProperty_68 (fun w_68 H locs h_68 pp_68 dd_68 zz_68 kk_68 hS => ?_)
          obtain ⟨e68, m68, hGI68, rfl⟩ := h_68
          have hP : va_P g.1 classes (cw g q u la NX (va_up n 8 m68) (va_up es 8 e68)) H := pp_68
          have hD : va_D A (cw g q u la NX (va_up n 8 m68) (va_up es 8 e68)) := dd_68.weaken (fun _ _ _ h9 => hF_68 _ h9)
          have hg68 := gok_GI hla (by omega) hg58 hGI68 hB_68
          have hGG68 : GG la eg mg ((133, 133) :: _) e68 m68 := ⟨e58, m58, hGG58, hGI68⟩
          subst hQ
          exact W.vret hx hb hr (fun t h9 hW => ⟨⟨_, rfl, ⟨e68, m68, by first | (exfalso; omega) | (unfold rlP; first | (rw [if_pos (show 32 ≤ k ∧ k < 44 by omega)]; exact hGG68) | (rw [if_neg (show ¬ (32 ≤ k ∧ k < 44) by omega)]; first | (rw [if_pos (show k = 48 by omega)]; exact hGG68) | (rw [if_neg (show ¬ k = 48 by omega)]; first | (rw [if_pos (show k = 47 by omega)]; exact hGG68) | (rw [if_neg (show ¬ k = 47 by omega)]; exact hGG68)))), hg68, rfl⟩, by rw [h9]; exact hP, va_K.moved hW.alike hK, hD⟩, hS.F h9⟩) hS.2.2 d_CS_gatherProperty_71
    · refine lv_aload_n hx hb d_CS_gatherProperty_12 rfl (lv_at hl 0 rfl) ?_
      refine lv_iload_n hx hb d_CS_gatherProperty_13 rfl (lv_at hl 1 rfl) ?_
      refine lv_bipush (v := iI 32) hx hb d_CS_gatherProperty_14 (by decide) ?_
      refine ix_isub hx hb d_CS_gatherProperty_16 ?_
      have hF_17 : ∀ x9, va_A (cw g q u la NX (va_up n 8 mg) (va_up es 8 eg)) H.size x9 → A x9 := fun x9 h9 => h9.elim (fun ⟨j9, e9, hj9⟩ => hD.2 j9 _ hj9) (fun h9 => hA x9 (Nat.le_trans hS.1 h9))
      refine zcVv (ci := 0) (q0 := 0) (As := [.int (iI ((((k : Nat) : Int)) - 32))]) (rest := []) ⟨hx, hb, hml, hown, ht⟩ v_CS_126 (c_CS_gatherScript l g H.size q u la NX n es mg eg (((k : Nat) : Int) - 32) Bs hBl hgo hla (by omega) hPB1) ⟨Nat.le_of_ble_eq_true rfl, Nat.le_of_ble_eq_true rfl⟩ ⟨Nat.zero_le _, Nat.zero_le _⟩ hK hZ hS hP (hD.weaken (fun _ _ _ _ => trivial)) hF_17 zP_nil zAp_nil rfl rfl rfl rfl hl.1 rfl (Nat.le_of_ble_eq_true rfl) d_CS_gatherProperty_17 (fun w_17 H locs h_17 pp_17 dd_17 zz_17 kk_17 hS => ?_)
      obtain ⟨e17, m17, hGG17, hg17, rfl⟩ := h_17
      have hP : va_P g.1 classes (cw g q u la NX (va_up n 8 m17) (va_up es 8 e17)) H := pp_17
      have hD : va_D A (cw g q u la NX (va_up n 8 m17) (va_up es 8 e17)) := dd_17.weaken (fun _ _ _ h9 => hF_17 _ h9)
      subst hQ
      exact W.vret hx hb hr (fun t h9 hW => ⟨⟨_, rfl, ⟨e17, m17, by first | (exfalso; omega) | (unfold rlP; first | (rw [if_pos (show 32 ≤ k ∧ k < 44 by omega)]; exact hGG17) | (rw [if_neg (show ¬ (32 ≤ k ∧ k < 44) by omega)]; first | (rw [if_pos (show k = 48 by omega)]; exact hGG17) | (rw [if_neg (show ¬ k = 48 by omega)]; first | (rw [if_pos (show k = 47 by omega)]; exact hGG17) | (rw [if_neg (show ¬ k = 47 by omega)]; exact hGG17)))), hg17, rfl⟩, by rw [h9]; exact hP, va_K.moved hW.alike hK, hD⟩, hS.F h9⟩) hS.2.2 d_CS_gatherProperty_20
