/-! CASES' constructor, pure -/
def lpF (la d sp x1 : Int) : Nat → Int → (Nat → Int) → (Nat → Int)
  | 0, _, N => N
  | f + 1, x, N => if x ≤ x1 then lpF la d sp x1 f (x + sp) (if x + d ≤ la then pntF (pntF N x (x + d)) (x + d) x else N) else N
theorem lp_end {la d sp x1 x : Int} {f : Nat} {N : Nat → Int} (h : x1 < x) : lpF la d sp x1 f x N = N := by
  cases f with
  | zero => rfl
  | succ f => exact if_neg (by omega)
theorem lp_s {la d sp x1 x : Int} {f : Nat} {N : Nat → Int} (h : x ≤ x1) : lpF la d sp x1 (f + 1) x N = lpF la d sp x1 f (x + sp) (if x + d ≤ la then pntF (pntF N x (x + d)) (x + d) x else N) := if_pos h
def nrp0 : Nat → Int := pcf chA 1122
def nrp1 (la : Int) : Nat → Int := lpF la 32 (if (1 : Int) = 2 then 2 else 1) 90 60 65 nrp0
def nrp2 (la : Int) : Nat → Int := lpF la 32 (if (1 : Int) = 2 then 2 else 1) 214 60 192 (nrp1 la)
def nrp3 (la : Int) : Nat → Int := lpF la 32 (if (1 : Int) = 2 then 2 else 1) 222 60 216 (nrp2 la)
def nrp4 (la : Int) : Nat → Int := lpF la 32 (if (1 : Int) = 2 then 2 else 1) 929 60 913 (nrp3 la)
def nrp5 (la : Int) : Nat → Int := lpF la 32 (if (1 : Int) = 2 then 2 else 1) 937 60 931 (nrp4 la)
def nrp6 (la : Int) : Nat → Int := lpF la 32 (if (1 : Int) = 2 then 2 else 1) 1071 60 1040 (nrp5 la)
def nrp7 (la : Int) : Nat → Int := lpF la 80 (if (1 : Int) = 2 then 2 else 1) 1039 60 1024 (nrp6 la)
def nrp8 (la : Int) : Nat → Int := lpF la 1 (if (2 : Int) = 2 then 2 else 1) 302 60 256 (nrp7 la)
def nrp9 (la : Int) : Nat → Int := lpF la 1 (if (2 : Int) = 2 then 2 else 1) 310 60 306 (nrp8 la)
def nrp10 (la : Int) : Nat → Int := lpF la 1 (if (2 : Int) = 2 then 2 else 1) 327 60 313 (nrp9 la)
def nrp11 (la : Int) : Nat → Int := lpF la 1 (if (2 : Int) = 2 then 2 else 1) 374 60 330 (nrp10 la)
def nrp12 (la : Int) : Nat → Int := lpF la 1 (if (2 : Int) = 2 then 2 else 1) 381 60 377 (nrp11 la)
def nrp13 (la : Int) : Nat → Int := lpF la 121 (if (1 : Int) = 2 then 2 else 1) 255 60 255 (nrp12 la)
def NXa (la : Int) : Nat → Int := thrF la (thrF la (thrF la (thrF la (thrF la (nrp1 la) 83 115 383) 75 107 8490) 197 229 8491) 181 924 956) 931 962 963
def NXb (la : Int) : Nat → Int := thrF la (thrF la (thrF la (thrF la (thrF la (nrp13 la) 83 115 383) 75 107 8490) 197 229 8491) 181 924 956) 931 962 963
set_option maxHeartbeats 4000000 in
set_option maxRecDepth 100000 in
theorem c_CR_linkPairs (l : Launch) (g : zG) (sz : Nat) (h q : Nat) (la : Int) (NX : Nat → Int) (rr : Nat) (x0 x1 d s0 : Int) (hla : 0 ≤ la ∧ la ≤ 1114111) (hrr : rr + 3 < 52) (v0 : (stE 20).getD rr 0 = x0) (v1 : (stE 20).getD (rr + 1) 0 = x1) (v2 : (stE 20).getD (rr + 2) 0 = d) (v3 : (stE 20).getD (rr + 3) 0 = s0) (hb0 : 0 ≤ x0 ∧ x0 ≤ 1200 ∧ 0 ≤ x1 ∧ x1 ≤ 1200 ∧ 0 ≤ d ∧ d ≤ 200 ∧ 0 ≤ s0 ∧ s0 ≤ 2 ∧ x1 - x0 < 60) : Met l y_CR_linkPairs w_CR_linkPairs { frames := 2, cells := 0, slots := 0, locals := 43 } (zPw g [.ref h, .int (iI (((rr : Nat) : Int)))] ([(h, .inr (3, [.int (iI la), .ref q])), (q, .inl (zI g, 1122, .inl (ai NX)))]) [] sz) (va_Qv (fun w => w = [(h, .inr (3, [.int (iI la), .ref q])), (q, .inl (zI g, 1122, .inl (ai ((lpF la d (if (s0 : Int) = 2 then 2 else 1) x1 60 x0 NX)))))]) (zB g (va_A ([(h, .inr (3, [.int (iI la), .ref q])), (q, .inl (zI g, 1122, .inl (ai NX)))]) sz)) (va_A ([(h, .inr (3, [.int (iI la), .ref q])), (q, .inl (zI g, 1122, .inl (ai NX)))]) sz)) 0 0 (va_A ([(h, .inr (3, [.int (iI la), .ref q])), (q, .inl (zI g, 1122, .inl (ai NX)))]) sz) := by
  refine Met.ofW (cc := b_CR_linkPairs) (maxL := 5) (ret := none) (by decide) rfl ?_
  intro p e s m args below meth cd s₁ B hml hv
  obtain ⟨hargs, hsz, hP, hK, hD0, hZ, hO0, hAp⟩ := hv
  have hx := B.exec
  have hb := B.bytes
  have hr := B.returns
  have ht : ∀ w ∈ lw_ok, w.before args s = true := fun w h => atoms_spec (ws := w_CR_linkPairs) B.pre w (List.mem_cons_of_mem _ h)
  have hown : s.vm.findClass R_CR = some m.cls := findClass_of_methodNamed B.named
  have hlocks := B.notSynchronized
  subst hsz
  have hD := hD0.self (sz := s.heap.size)
  generalize hAe : va_A ([(h, .inr (3, [.int (iI la), .ref q])), (q, .inl (zI g, 1122, .inl (ai NX)))]) s.heap.size = A at hD hZ hAp ⊢
  have hA : ∀ q : Nat, s.heap.size ≤ q → A q := fun q h => by rw [← hAe]; exact Or.inr h
  have hS : va_S A s.heap s.heap [] := va_S.rf
  generalize hQ : MQ below _ args s 0 0 _ = Q
  have hl := lv_entry ([.ref h, .int (iI (((rr : Nat) : Int)))]) (n := 5) (Nat.le_of_ble_eq_true rfl)
  rw [show entryFrame m args 5 = entryFrame m ([.ref h, .int (iI (((rr : Nat) : Int)))] : List Value).toArray 5 by rw [hargs], lg_entry_eq]
  generalize (lg_sl ([.ref h, .int (iI (((rr : Nat) : Int)))]) ++ List.replicate (5 - (lg_sl ([.ref h, .int (iI (((rr : Nat) : Int)))])).length) Slot.unset).toArray = ls at hl ⊢
  have hl : lv_has ls 5 [(0, .ref h), (1, .int (iI (((rr : Nat) : Int))))] := hl
  obtain ⟨H, locs, hHe, hLe⟩ : ∃ (H : Heap) (locs : List Loc), H = s.heap ∧ locs = [] := ⟨_, _, rfl, rfl⟩
  rw [show W p l e _ s m args below meth cd s.heap [] 0 0 Q = W p l e _ s m args below meth cd H locs 0 0 Q by rw [hHe, hLe]]
  rw [← hHe] at hP
  have hS : va_S A s.heap H locs := by rw [hHe, hLe]; exact hS
  have J32 : ∀ fu : Nat, ∀ (sp x : Int) (f : Nat) (N2 : Nat → Int) (H : Heap) (locs : List Loc) (ls : Array Slot), f < fu → lv_has ls 5 [(0, .ref h), (1, .int (iI (((rr : Nat) : Int)))), (2, .int (iI d)), (3, .int (iI sp)), (4, .int (iI x))] → (sp = (if (s0 : Int) = 2 then 2 else 1)) → (sp = 1 ∨ sp = 2) → (0 ≤ x ∧ x ≤ 1300) → (x1 - x < ((f : Nat) : Int)) → (lpF la d sp x1 60 x0 NX = lpF la d sp x1 f x N2) → va_P g.1 classes ([(h, .inr (3, [.int (iI la), .ref q])), (q, .inl (zI g, 1122, .inl (ai N2)))]) H → va_D A ([(h, .inr (3, [.int (iI la), .ref q])), (q, .inl (zI g, 1122, .inl (ai N2)))]) → va_S A s.heap H locs → W p l e (headSpec w_CR_linkPairs { frames := 2, cells := 0, slots := 0, locals := 43 }).room s m args below meth cd H locs 0 0 Q (F0 m 32 ls []) := by
    intro fu
    induction fu with
    | zero => exact fun _ _ _ _ _ _ _ hfu _ _ _ _ _ _ _ _ _ => absurd hfu (Nat.not_lt_zero _)
    | succ fu ih =>
      intro sp x f N2 H locs ls hfu hl hsp hsp2 hx0 hxf hF hP hD hS
      refine lv_iload hx hb d_CR_linkPairs_32 (lv_at hl 4 rfl) ?_
      refine ix_gets hx hb hZ 20 (by decide) hS hown (ht _ k_61) d_CR_linkPairs_34 ?_
      refine lv_iload_n hx hb d_CR_linkPairs_37 rfl (lv_at hl 1 rfl) ?_
      refine lv_iconst (v := iI 1) hx hb d_CR_linkPairs_38 rfl ?_
      refine ix_iadd hx hb d_CR_linkPairs_39 ?_
      refine ix_tald hx hb hZ 20 (by decide) hS (z := ((((rr : Nat) : Int)) + 1)) (rr + 1) (by refine ⟨by omega, ?_, by omega⟩; show _ < (stE 20).length; simp only [stE, List.length_cons, List.length_nil]; omega) d_CR_linkPairs_40 ?_
      rw [v1]
      refine ix_icmp_gt (tgt := 84) hx hb d_CR_linkPairs_41 (by decide) (by omega) (fun c_41 => ?_) (fun c_41 => ?_)
      · subst hQ
        exact W.vret hx hb hr (fun t h9 hW => ⟨⟨_, rfl, by rw [← hsp, hF, lp_end (by omega)], by rw [h9]; exact hP, va_K.moved hW.alike hK, hD⟩, hS.F h9⟩) hS.2.2 d_CR_linkPairs_84
      · obtain ⟨f0, rfl⟩ : ∃ f0, f = f0 + 1 := ⟨f - 1, by omega⟩
        refine lv_iload hx hb d_CR_linkPairs_44 (lv_at hl 4 rfl) ?_
        refine lv_iload_n hx hb d_CR_linkPairs_46 rfl (lv_at hl 2 rfl) ?_
        refine ix_iadd hx hb d_CR_linkPairs_47 ?_
        refine lv_aload_n hx hb d_CR_linkPairs_48 rfl (lv_at hl 0 rfl) ?_
        refine va_get (D := g.1) (ci := 3) (v := .int (iI la)) (C := R_CR) (T := F_CR) (N := 2) hx hb ht i_CR hown hK hP 0 rfl rfl 0 (by decide) (ht _ k_80) (fun _ h9 => h9) rfl d_CR_linkPairs_49 ?_
        refine ix_icmp_gt (tgt := 75) hx hb d_CR_linkPairs_52 (by decide) (by omega) (fun c_52 => ?_) (fun c_52 => ?_)
        · refine lv_iload hx hb d_CR_linkPairs_75 (lv_at hl 4 rfl) ?_
          refine lv_iload_n hx hb d_CR_linkPairs_77 rfl (lv_at hl 3 rfl) ?_
          refine ix_iadd hx hb d_CR_linkPairs_78 ?_
          refine lv_istore (lv' := [(4, .int (iI (x + sp))), (0, .ref h), (1, .int (iI (((rr : Nat) : Int)))), (2, .int (iI d)), (3, .int (iI sp))]) hx hb d_CR_linkPairs_79 hl (by decide) rfl (fun ls hl => ?_)
          refine lv_goto (tgt := 32) hx hb d_CR_linkPairs_81 (by decide) ?_
          exact ih sp (x + sp) f0 N2 _ _ ls (by omega) (lv_sub hl [1, 2, 3, 4, 0] rfl) (by exact hsp) (by omega) (by omega) (by omega) (by rw [hF, lp_s (by omega), if_neg (by omega)]) hP hD hS
        · refine lv_aload_n hx hb d_CR_linkPairs_55 rfl (lv_at hl 0 rfl) ?_
          refine lv_iload hx hb d_CR_linkPairs_56 (lv_at hl 4 rfl) ?_
          refine lv_iload hx hb d_CR_linkPairs_58 (lv_at hl 4 rfl) ?_
          refine lv_iload_n hx hb d_CR_linkPairs_60 rfl (lv_at hl 2 rfl) ?_
          refine ix_iadd hx hb d_CR_linkPairs_61 ?_
          have hF_62 := va_free (wc := [(h, .inr (3, [.int (iI la), .ref q])), (q, .inl (zI g, 1122, .inl (ai N2)))]) hD hS hA [0, 1] rfl
          refine zcVv (ci := 3) (q0 := 0) (As := [.int (iI x), .int (iI (x + d))]) (rest := []) ⟨hx, hb, hml, hown, ht⟩ v_CR_38 (c_CR_point l g H.size h q la N2 x (x + d) (by omega)) ⟨Nat.le_of_ble_eq_true rfl, Nat.le_of_ble_eq_true rfl⟩ ⟨Nat.zero_le _, Nat.zero_le _⟩ hK hZ hS hP (hD.weaken (fun _ _ _ _ => trivial)) hF_62 zP_nil zAp_nil rfl rfl rfl rfl hl.1 rfl (Nat.le_of_ble_eq_true rfl) d_CR_linkPairs_62 (fun w_62 H locs h_62 pp_62 dd_62 zz_62 kk_62 hS => ?_)
          subst h_62
          have hP : va_P g.1 classes [(h, .inr (3, [.int (iI la), .ref q])), (q, .inl (zI g, 1122, .inl (ai (pntF N2 x (x + d)))))] H := pp_62
          have hD : va_D A [(h, .inr (3, [.int (iI la), .ref q])), (q, .inl (zI g, 1122, .inl (ai (pntF N2 x (x + d)))))] := dd_62.weaken (fun _ _ _ h9 => hF_62 _ h9)
          refine lv_aload_n hx hb d_CR_linkPairs_65 rfl (lv_at hl 0 rfl) ?_
          refine lv_iload hx hb d_CR_linkPairs_66 (lv_at hl 4 rfl) ?_
          refine lv_iload_n hx hb d_CR_linkPairs_68 rfl (lv_at hl 2 rfl) ?_
          refine ix_iadd hx hb d_CR_linkPairs_69 ?_
          refine lv_iload hx hb d_CR_linkPairs_70 (lv_at hl 4 rfl) ?_
          have hF_72 := va_free (wc := [(h, .inr (3, [.int (iI la), .ref q])), (q, .inl (zI g, 1122, .inl (ai (pntF N2 x (x + d)))))]) hD hS hA [0, 1] rfl
          refine zcVv (ci := 3) (q0 := 0) (As := [.int (iI (x + d)), .int (iI x)]) (rest := []) ⟨hx, hb, hml, hown, ht⟩ v_CR_38 (c_CR_point l g H.size h q la (pntF N2 x (x + d)) (x + d) x (by omega)) ⟨Nat.le_of_ble_eq_true rfl, Nat.le_of_ble_eq_true rfl⟩ ⟨Nat.zero_le _, Nat.zero_le _⟩ hK hZ hS hP (hD.weaken (fun _ _ _ _ => trivial)) hF_72 zP_nil zAp_nil rfl rfl rfl rfl hl.1 rfl (Nat.le_of_ble_eq_true rfl) d_CR_linkPairs_72 (fun w_72 H locs h_72 pp_72 dd_72 zz_72 kk_72 hS => ?_)
          subst h_72
          have hP : va_P g.1 classes [(h, .inr (3, [.int (iI la), .ref q])), (q, .inl (zI g, 1122, .inl (ai (pntF (pntF N2 x (x + d)) (x + d) x))))] H := pp_72
          have hD : va_D A [(h, .inr (3, [.int (iI la), .ref q])), (q, .inl (zI g, 1122, .inl (ai (pntF (pntF N2 x (x + d)) (x + d) x))))] := dd_72.weaken (fun _ _ _ h9 => hF_72 _ h9)
          refine lv_iload hx hb d_CR_linkPairs_75 (lv_at hl 4 rfl) ?_
          refine lv_iload_n hx hb d_CR_linkPairs_77 rfl (lv_at hl 3 rfl) ?_
          refine ix_iadd hx hb d_CR_linkPairs_78 ?_
          refine lv_istore (lv' := [(4, .int (iI (x + sp))), (0, .ref h), (1, .int (iI (((rr : Nat) : Int)))), (2, .int (iI d)), (3, .int (iI sp))]) hx hb d_CR_linkPairs_79 hl (by decide) rfl (fun ls hl => ?_)
          refine lv_goto (tgt := 32) hx hb d_CR_linkPairs_81 (by decide) ?_
          exact ih sp (x + sp) f0 (pntF (pntF N2 x (x + d)) (x + d) x) _ _ ls (by omega) (lv_sub hl [1, 2, 3, 4, 0] rfl) (by exact hsp) (by omega) (by omega) (by omega) (by rw [hF, lp_s (by omega), if_pos (by omega)]) hP hD hS
  refine ix_gets hx hb hZ 20 (by decide) hS hown (ht _ k_61) d_CR_linkPairs_0 ?_
  refine lv_iload_n hx hb d_CR_linkPairs_3 rfl (lv_at hl 1 rfl) ?_
  refine lv_iconst (v := iI 2) hx hb d_CR_linkPairs_4 rfl ?_
  refine ix_iadd hx hb d_CR_linkPairs_5 ?_
  refine ix_tald hx hb hZ 20 (by decide) hS (z := ((((rr : Nat) : Int)) + 2)) (rr + 2) (by refine ⟨by omega, ?_, by omega⟩; show _ < (stE 20).length; simp only [stE, List.length_cons, List.length_nil]; omega) d_CR_linkPairs_6 ?_
  rw [v2]
  refine lv_istore_n (lv' := [(2, .int (iI d)), (0, .ref h), (1, .int (iI (((rr : Nat) : Int))))]) hx hb d_CR_linkPairs_7 rfl hl (by decide) rfl (fun ls hl => ?_)
  refine ix_gets hx hb hZ 20 (by decide) hS hown (ht _ k_61) d_CR_linkPairs_8 ?_
  refine lv_iload_n hx hb d_CR_linkPairs_11 rfl (lv_at hl 2 rfl) ?_
  refine lv_iconst (v := iI 3) hx hb d_CR_linkPairs_12 rfl ?_
  refine ix_iadd hx hb d_CR_linkPairs_13 ?_
  refine ix_tald hx hb hZ 20 (by decide) hS (z := ((((rr : Nat) : Int)) + 3)) (rr + 3) (by refine ⟨by omega, ?_, by omega⟩; show _ < (stE 20).length; simp only [stE, List.length_cons, List.length_nil]; omega) d_CR_linkPairs_14 ?_
  rw [v3]
  refine lv_iconst (v := iI 2) hx hb d_CR_linkPairs_15 rfl ?_
  refine ix_icmp_ne (tgt := 23) hx hb d_CR_linkPairs_16 (by decide) (by omega) (fun c_16 => ?_) (fun c_16 => ?_)
  · refine lv_iconst (v := iI 1) hx hb d_CR_linkPairs_23 rfl ?_
    refine lv_istore_n (lv' := [(3, .int (iI 1)), (2, .int (iI d)), (0, .ref h), (1, .int (iI (((rr : Nat) : Int))))]) hx hb d_CR_linkPairs_24 rfl hl (by decide) rfl (fun ls hl => ?_)
    refine ix_gets hx hb hZ 20 (by decide) hS hown (ht _ k_61) d_CR_linkPairs_25 ?_
    refine lv_iload_n hx hb d_CR_linkPairs_28 rfl (lv_at hl 3 rfl) ?_
    refine ix_tald hx hb hZ 20 (by decide) hS (z := (((rr : Nat) : Int))) rr (by refine ⟨by omega, ?_, by omega⟩; show _ < (stE 20).length; simp only [stE, List.length_cons, List.length_nil]; omega) d_CR_linkPairs_29 ?_
    rw [v0]
    refine lv_istore (lv' := [(4, .int (iI x0)), (3, .int (iI 1)), (2, .int (iI d)), (0, .ref h), (1, .int (iI (((rr : Nat) : Int))))]) hx hb d_CR_linkPairs_30 hl (by decide) rfl (fun ls hl => ?_)
    exact J32 (_ + 1) 1 x0 60 NX _ _ ls (Nat.lt_succ_self _) (lv_sub hl [3, 4, 2, 1, 0] rfl) (by first | rw [if_pos (by omega)] | rw [if_neg (by omega)]) (by omega) (by omega) (by omega) (by rfl) hP hD hS
  · refine lv_iconst (v := iI 2) hx hb d_CR_linkPairs_19 rfl ?_
    refine lv_goto (tgt := 24) hx hb d_CR_linkPairs_20 (by decide) ?_
    refine lv_istore_n (lv' := [(3, .int (iI 2)), (2, .int (iI d)), (0, .ref h), (1, .int (iI (((rr : Nat) : Int))))]) hx hb d_CR_linkPairs_24 rfl hl (by decide) rfl (fun ls hl => ?_)
    refine ix_gets hx hb hZ 20 (by decide) hS hown (ht _ k_61) d_CR_linkPairs_25 ?_
    refine lv_iload_n hx hb d_CR_linkPairs_28 rfl (lv_at hl 3 rfl) ?_
    refine ix_tald hx hb hZ 20 (by decide) hS (z := (((rr : Nat) : Int))) rr (by refine ⟨by omega, ?_, by omega⟩; show _ < (stE 20).length; simp only [stE, List.length_cons, List.length_nil]; omega) d_CR_linkPairs_29 ?_
    rw [v0]
    refine lv_istore (lv' := [(4, .int (iI x0)), (3, .int (iI 2)), (2, .int (iI d)), (0, .ref h), (1, .int (iI (((rr : Nat) : Int))))]) hx hb d_CR_linkPairs_30 hl (by decide) rfl (fun ls hl => ?_)
    exact J32 (_ + 1) 2 x0 60 NX _ _ ls (Nat.lt_succ_self _) (lv_sub hl [3, 4, 2, 1, 0] rfl) (by first | rw [if_pos (by omega)] | rw [if_neg (by omega)]) (by omega) (by omega) (by omega) (by rfl) hP hD hS
set_option maxHeartbeats 4000000 in
set_option maxRecDepth 100000 in
theorem c_CR_init (l : Launch) (g : zG) (sz : Nat) (h : Nat) (y0 bo la : Int) (hbo : bo = 0 ∨ bo = 1) (hla : 0 ≤ la ∧ la ≤ 1114111) : Met l y_CR_init w_CR_init { frames := 3, cells := 1, slots := 1122, locals := 67 } (zPw g [.ref h, .int (iI bo), .int (iI la)] ([(h, .inr (3, [.int (iI y0), .null]))]) [] sz) (va_Qv (fun w => ∃ q9 : Nat, (bo = 0 ∧ w = [(h, .inr (3, [.int (iI la), .ref q9])), (q9, .inl (zI g, 1122, .inl (ai ((NXa la)))))]) ∨ (¬ bo = 0 ∧ w = [(h, .inr (3, [.int (iI la), .ref q9])), (q9, .inl (zI g, 1122, .inl (ai ((NXb la)))))])) (zB g (va_A ([(h, .inr (3, [.int (iI y0), .null]))]) sz)) (va_A ([(h, .inr (3, [.int (iI y0), .null]))]) sz)) 1 1122 (va_A ([(h, .inr (3, [.int (iI y0), .null]))]) sz) := by
  refine Met.ofW (cc := b_CR_init) (maxL := 5) (ret := none) (by decide) rfl ?_
  intro p e s m args below meth cd s₁ B hml hv
  obtain ⟨hargs, hsz, hP, hK, hD0, hZ, hO0, hAp⟩ := hv
  have hx := B.exec
  have hb := B.bytes
  have hr := B.returns
  have ht : ∀ w ∈ lw_ok, w.before args s = true := fun w h => atoms_spec (ws := w_CR_init) B.pre w (List.mem_cons_of_mem _ h)
  have hown : s.vm.findClass R_CR = some m.cls := findClass_of_methodNamed B.named
  have hlocks := B.notSynchronized
  have hin : meth.name = "<init>" := (name_of_methodNamed B.named B.method).1
  subst hsz
  have hD := hD0.self (sz := s.heap.size)
  generalize hAe : va_A ([(h, .inr (3, [.int (iI y0), .null]))]) s.heap.size = A at hD hZ hAp ⊢
  have hA : ∀ q : Nat, s.heap.size ≤ q → A q := fun q h => by rw [← hAe]; exact Or.inr h
  have hS : va_S A s.heap s.heap [] := va_S.rf
  generalize hQ : MQ below _ args s 1 1122 _ = Q
  have hl := lv_entry ([.ref h, .int (iI bo), .int (iI la)]) (n := 5) (Nat.le_of_ble_eq_true rfl)
  rw [show entryFrame m args 5 = entryFrame m ([.ref h, .int (iI bo), .int (iI la)] : List Value).toArray 5 by rw [hargs], lg_entry_eq]
  generalize (lg_sl ([.ref h, .int (iI bo), .int (iI la)]) ++ List.replicate (5 - (lg_sl ([.ref h, .int (iI bo), .int (iI la)])).length) Slot.unset).toArray = ls at hl ⊢
  have hl : lv_has ls 5 [(0, .ref h), (1, .int (iI bo)), (2, .int (iI la))] := hl
  obtain ⟨H, locs, hHe, hLe⟩ : ∃ (H : Heap) (locs : List Loc), H = s.heap ∧ locs = [] := ⟨_, _, rfl, rfl⟩
  rw [show W p l e _ s m args below meth cd s.heap [] 0 0 Q = W p l e _ s m args below meth cd H locs 0 0 Q by rw [hHe, hLe]]
  rw [← hHe] at hP
  have hS : va_S A s.heap H locs := by rw [hHe, hLe]; exact hS
  have J20 : ∀ fu : Nat, ∀ (qn i : Nat) (H : Heap) (locs : List Loc) (ls : Array Slot), 1122 - i < fu → lv_has ls 5 [(0, .ref h), (1, .int (iI bo)), (2, .int (iI la)), (3, .int (iI (((i : Nat) : Int))))] → (i ≤ 1122) → va_P g.1 classes ([(h, .inr (3, [.int (iI la), .ref qn])), (qn, .inl (zI g, 1122, .inl (ai (pcf chA i))))]) H → va_D A ([(h, .inr (3, [.int (iI la), .ref qn])), (qn, .inl (zI g, 1122, .inl (ai (pcf chA i))))]) → va_S A s.heap H locs → W p l e (headSpec w_CR_init { frames := 3, cells := 1, slots := 1122, locals := 67 }).room s m args below meth cd H locs 1 1122 Q (F0 m 20 ls []) := by
    intro fu
    induction fu with
    | zero => exact fun _ _ _ _ _ hfu _ _ _ _ _ => absurd hfu (Nat.not_lt_zero _)
    | succ fu ih =>
      intro qn i H locs ls hfu hl hi hP hD hS
      refine lv_iload_n hx hb d_CR_init_20 rfl (lv_at hl 3 rfl) ?_
      refine lv_sipush (v := iI 1122) hx hb d_CR_init_21 (by decide) ?_
      refine ix_icmp_ge (tgt := 43) hx hb d_CR_init_24 (by decide) (by omega) (fun c_24 => ?_) (fun c_24 => ?_)
      · have hi9 : i = 1122 := by omega
        rw [hi9] at hP hD
        have hP : va_P g.1 classes [(h, .inr (3, [.int (iI la), .ref qn])), (qn, .inl (zI g, 1122, .inl (ai nrp0)))] H := hP
        have hD : va_D A [(h, .inr (3, [.int (iI la), .ref qn])), (qn, .inl (zI g, 1122, .inl (ai nrp0)))] := hD
        refine lv_iload_n hx hb d_CR_init_43 rfl (lv_at hl 1 rfl) ?_
        refine ix_if_eq (tgt := 54) hx hb d_CR_init_44 (by decide) (by omega) (fun c_44 => ?_) (fun c_44 => ?_)
        · refine lv_iconst (v := iI 4) hx hb d_CR_init_54 rfl ?_
          refine lv_istore_n (lv' := [(3, .int (iI 4)), (0, .ref h), (1, .int (iI bo)), (2, .int (iI la))]) hx hb d_CR_init_55 rfl hl (by decide) rfl (fun ls hl => ?_)
          refine lv_iconst (v := iI 0) hx hb d_CR_init_56 rfl ?_
          refine lv_istore (lv' := [(4, .int (iI 0)), (3, .int (iI 4)), (0, .ref h), (1, .int (iI bo)), (2, .int (iI la))]) hx hb d_CR_init_57 hl (by decide) rfl (fun ls hl => ?_)
          refine lv_iload hx hb d_CR_init_59 (lv_at hl 0 rfl) ?_
          refine lv_iconst (v := iI 3) hx hb d_CR_init_61 rfl ?_
          refine ix_iadd hx hb d_CR_init_62 (show _ from ?_)
          refine lv_iload_n hx hb d_CR_init_63 rfl (lv_at hl 1 rfl) ?_
          refine ix_icmp_ge (tgt := 79) hx hb d_CR_init_64 (by decide) (by omega) (fun c_64 => ?_) (fun c_64 => ?_)
          · exact absurd c_64 (by decide)
          · refine lv_aload_n hx hb d_CR_init_67 rfl (lv_at hl 2 rfl) ?_
            refine lv_iload hx hb d_CR_init_68 (lv_at hl 0 rfl) ?_
            have hF_70 := va_free (wc := [(h, .inr (3, [.int (iI la), .ref qn])), (qn, .inl (zI g, 1122, .inl (ai nrp0)))]) hD hS hA [0, 1] rfl
            refine zcVv (ci := 3) (q0 := 0) (As := [.int (iI 0)]) (rest := []) ⟨hx, hb, hml, hown, ht⟩ v_CR_24 (c_CR_linkPairs l g H.size h qn la nrp0 0 65 90 32 1 hla (by decide) rfl rfl rfl rfl (by omega)) ⟨Nat.le_of_ble_eq_true rfl, Nat.le_of_ble_eq_true rfl⟩ ⟨Nat.le_of_ble_eq_true rfl, Nat.le_of_ble_eq_true rfl⟩ hK hZ hS hP (hD.weaken (fun _ _ _ _ => trivial)) hF_70 zP_nil zAp_nil rfl rfl rfl rfl hl.1 rfl (Nat.le_of_ble_eq_true rfl) d_CR_init_70 (fun w_70 H locs h_70 pp_70 dd_70 zz_70 kk_70 hS => ?_)
            subst h_70
            have hP : va_P g.1 classes [(h, .inr (3, [.int (iI la), .ref qn])), (qn, .inl (zI g, 1122, .inl (ai (nrp1 la))))] H := pp_70
            have hD : va_D A [(h, .inr (3, [.int (iI la), .ref qn])), (qn, .inl (zI g, 1122, .inl (ai (nrp1 la))))] := dd_70.weaken (fun _ _ _ h9 => hF_70 _ h9)
            refine lv_iinc (v := iI 4) (lv' := [(4, .int (iI 4)), (3, .int (iI 4)), (0, .ref h), (1, .int (iI bo)), (2, .int (iI la))]) hx hb d_CR_init_73 hl (k := 0) rfl (iI_add _ _) (by decide) rfl (fun ls hl => ?_)
            refine lv_goto (tgt := 59) hx hb d_CR_init_76 (by decide) ?_
            refine lv_iload hx hb d_CR_init_59 (lv_at hl 0 rfl) ?_
            refine lv_iconst (v := iI 3) hx hb d_CR_init_61 rfl ?_
            refine ix_iadd hx hb d_CR_init_62 (show _ from ?_)
            refine lv_iload_n hx hb d_CR_init_63 rfl (lv_at hl 1 rfl) ?_
            refine ix_icmp_ge (tgt := 79) hx hb d_CR_init_64 (by decide) (by omega) (fun c_64 => ?_) (fun c_64 => ?_)
            · refine lv_iconst (v := iI 0) hx hb d_CR_init_79 rfl ?_
              refine lv_istore (lv' := [(4, .int (iI 0)), (3, .int (iI 4)), (0, .ref h), (1, .int (iI bo)), (2, .int (iI la))]) hx hb d_CR_init_80 hl (by decide) rfl (fun ls hl => ?_)
              refine lv_iload hx hb d_CR_init_82 (lv_at hl 0 rfl) ?_
              refine lv_iconst (v := iI 2) hx hb d_CR_init_84 rfl ?_
              refine ix_iadd hx hb d_CR_init_85 (show _ from ?_)
              refine ix_gets hx hb hZ 21 (by decide) hS hown (ht _ k_74) d_CR_init_86 ?_
              refine ix_tlen hx hb hZ 21 (by decide) hS 15 rfl d_CR_init_89 ?_
              refine ix_icmp_ge (tgt := 125) hx hb d_CR_init_90 (by decide) (by omega) (fun c_90 => ?_) (fun c_90 => ?_)
              · exact absurd c_90 (by decide)
              · refine lv_aload_n hx hb d_CR_init_93 rfl (lv_at hl 2 rfl) ?_
                refine ix_gets hx hb hZ 21 (by decide) hS hown (ht _ k_74) d_CR_init_94 ?_
                refine lv_iload hx hb d_CR_init_97 (lv_at hl 0 rfl) ?_
                refine ix_tald hx hb hZ 21 (by decide) hS (z := 0) 0 (by refine ⟨by omega, ?_, by omega⟩; show _ < (stE 21).length; simp only [stE, List.length_cons, List.length_nil]; omega) d_CR_init_99 ?_
                rw [show (stE 21).getD 0 0 = 83 from rfl]
                refine ix_gets hx hb hZ 21 (by decide) hS hown (ht _ k_74) d_CR_init_100 ?_
                refine lv_iload hx hb d_CR_init_103 (lv_at hl 0 rfl) ?_
                refine lv_iconst (v := iI 1) hx hb d_CR_init_105 rfl ?_
                refine ix_iadd hx hb d_CR_init_106 (show _ from ?_)
                refine ix_tald hx hb hZ 21 (by decide) hS (z := 1) 1 (by refine ⟨by omega, ?_, by omega⟩; show _ < (stE 21).length; simp only [stE, List.length_cons, List.length_nil]; omega) d_CR_init_107 ?_
                rw [show (stE 21).getD 1 0 = 115 from rfl]
                refine ix_gets hx hb hZ 21 (by decide) hS hown (ht _ k_74) d_CR_init_108 ?_
                refine lv_iload hx hb d_CR_init_111 (lv_at hl 0 rfl) ?_
                refine lv_iconst (v := iI 2) hx hb d_CR_init_113 rfl ?_
                refine ix_iadd hx hb d_CR_init_114 (show _ from ?_)
                refine ix_tald hx hb hZ 21 (by decide) hS (z := 2) 2 (by refine ⟨by omega, ?_, by omega⟩; show _ < (stE 21).length; simp only [stE, List.length_cons, List.length_nil]; omega) d_CR_init_115 ?_
                rw [show (stE 21).getD 2 0 = 383 from rfl]
                have hF_116 := va_free (wc := [(h, .inr (3, [.int (iI la), .ref qn])), (qn, .inl (zI g, 1122, .inl (ai (nrp1 la))))]) hD hS hA [0, 1] rfl
                refine zcVv (ci := 3) (q0 := 0) (As := [.int (iI 83), .int (iI 115), .int (iI 383)]) (rest := []) ⟨hx, hb, hml, hown, ht⟩ v_CR_31 (c_CR_linkThree l g H.size h qn la (nrp1 la) 83 115 383 hla (by omega) (by omega) (by omega)) ⟨Nat.le_of_ble_eq_true rfl, Nat.le_of_ble_eq_true rfl⟩ ⟨Nat.le_of_ble_eq_true rfl, Nat.le_of_ble_eq_true rfl⟩ hK hZ hS hP (hD.weaken (fun _ _ _ _ => trivial)) hF_116 zP_nil zAp_nil rfl rfl rfl rfl hl.1 rfl (Nat.le_of_ble_eq_true rfl) d_CR_init_116 (fun w_116 H locs h_116 pp_116 dd_116 zz_116 kk_116 hS => ?_)
                subst h_116
                have hP : va_P g.1 classes [(h, .inr (3, [.int (iI la), .ref qn])), (qn, .inl (zI g, 1122, .inl (ai (thrF la (nrp1 la) 83 115 383))))] H := pp_116
                have hD : va_D A [(h, .inr (3, [.int (iI la), .ref qn])), (qn, .inl (zI g, 1122, .inl (ai (thrF la (nrp1 la) 83 115 383))))] := dd_116.weaken (fun _ _ _ h9 => hF_116 _ h9)
                refine lv_iinc (v := iI 3) (lv' := [(4, .int (iI 3)), (3, .int (iI 4)), (0, .ref h), (1, .int (iI bo)), (2, .int (iI la))]) hx hb d_CR_init_119 hl (k := 0) rfl (iI_add _ _) (by decide) rfl (fun ls hl => ?_)
                refine lv_goto (tgt := 82) hx hb d_CR_init_122 (by decide) ?_
                refine lv_iload hx hb d_CR_init_82 (lv_at hl 0 rfl) ?_
                refine lv_iconst (v := iI 2) hx hb d_CR_init_84 rfl ?_
                refine ix_iadd hx hb d_CR_init_85 (show _ from ?_)
                refine ix_gets hx hb hZ 21 (by decide) hS hown (ht _ k_74) d_CR_init_86 ?_
                refine ix_tlen hx hb hZ 21 (by decide) hS 15 rfl d_CR_init_89 ?_
                refine ix_icmp_ge (tgt := 125) hx hb d_CR_init_90 (by decide) (by omega) (fun c_90 => ?_) (fun c_90 => ?_)
                · exact absurd c_90 (by decide)
                · refine lv_aload_n hx hb d_CR_init_93 rfl (lv_at hl 2 rfl) ?_
                  refine ix_gets hx hb hZ 21 (by decide) hS hown (ht _ k_74) d_CR_init_94 ?_
                  refine lv_iload hx hb d_CR_init_97 (lv_at hl 0 rfl) ?_
                  refine ix_tald hx hb hZ 21 (by decide) hS (z := 3) 3 (by refine ⟨by omega, ?_, by omega⟩; show _ < (stE 21).length; simp only [stE, List.length_cons, List.length_nil]; omega) d_CR_init_99 ?_
                  rw [show (stE 21).getD 3 0 = 75 from rfl]
                  refine ix_gets hx hb hZ 21 (by decide) hS hown (ht _ k_74) d_CR_init_100 ?_
                  refine lv_iload hx hb d_CR_init_103 (lv_at hl 0 rfl) ?_
                  refine lv_iconst (v := iI 1) hx hb d_CR_init_105 rfl ?_
                  refine ix_iadd hx hb d_CR_init_106 (show _ from ?_)
                  refine ix_tald hx hb hZ 21 (by decide) hS (z := 4) 4 (by refine ⟨by omega, ?_, by omega⟩; show _ < (stE 21).length; simp only [stE, List.length_cons, List.length_nil]; omega) d_CR_init_107 ?_
                  rw [show (stE 21).getD 4 0 = 107 from rfl]
                  refine ix_gets hx hb hZ 21 (by decide) hS hown (ht _ k_74) d_CR_init_108 ?_
                  refine lv_iload hx hb d_CR_init_111 (lv_at hl 0 rfl) ?_
                  refine lv_iconst (v := iI 2) hx hb d_CR_init_113 rfl ?_
                  refine ix_iadd hx hb d_CR_init_114 (show _ from ?_)
                  refine ix_tald hx hb hZ 21 (by decide) hS (z := 5) 5 (by refine ⟨by omega, ?_, by omega⟩; show _ < (stE 21).length; simp only [stE, List.length_cons, List.length_nil]; omega) d_CR_init_115 ?_
                  rw [show (stE 21).getD 5 0 = 8490 from rfl]
                  have hF_116 := va_free (wc := [(h, .inr (3, [.int (iI la), .ref qn])), (qn, .inl (zI g, 1122, .inl (ai (thrF la (nrp1 la) 83 115 383))))]) hD hS hA [0, 1] rfl
                  refine zcVv (ci := 3) (q0 := 0) (As := [.int (iI 75), .int (iI 107), .int (iI 8490)]) (rest := []) ⟨hx, hb, hml, hown, ht⟩ v_CR_31 (c_CR_linkThree l g H.size h qn la (thrF la (nrp1 la) 83 115 383) 75 107 8490 hla (by omega) (by omega) (by omega)) ⟨Nat.le_of_ble_eq_true rfl, Nat.le_of_ble_eq_true rfl⟩ ⟨Nat.le_of_ble_eq_true rfl, Nat.le_of_ble_eq_true rfl⟩ hK hZ hS hP (hD.weaken (fun _ _ _ _ => trivial)) hF_116 zP_nil zAp_nil rfl rfl rfl rfl hl.1 rfl (Nat.le_of_ble_eq_true rfl) d_CR_init_116 (fun w_116 H locs h_116 pp_116 dd_116 zz_116 kk_116 hS => ?_)
                  subst h_116
                  have hP : va_P g.1 classes [(h, .inr (3, [.int (iI la), .ref qn])), (qn, .inl (zI g, 1122, .inl (ai (thrF la (thrF la (nrp1 la) 83 115 383) 75 107 8490))))] H := pp_116
                  have hD : va_D A [(h, .inr (3, [.int (iI la), .ref qn])), (qn, .inl (zI g, 1122, .inl (ai (thrF la (thrF la (nrp1 la) 83 115 383) 75 107 8490))))] := dd_116.weaken (fun _ _ _ h9 => hF_116 _ h9)
                  refine lv_iinc (v := iI 6) (lv' := [(4, .int (iI 6)), (3, .int (iI 4)), (0, .ref h), (1, .int (iI bo)), (2, .int (iI la))]) hx hb d_CR_init_119 hl (k := 0) rfl (iI_add _ _) (by decide) rfl (fun ls hl => ?_)
                  refine lv_goto (tgt := 82) hx hb d_CR_init_122 (by decide) ?_
                  refine lv_iload hx hb d_CR_init_82 (lv_at hl 0 rfl) ?_
                  refine lv_iconst (v := iI 2) hx hb d_CR_init_84 rfl ?_
                  refine ix_iadd hx hb d_CR_init_85 (show _ from ?_)
                  refine ix_gets hx hb hZ 21 (by decide) hS hown (ht _ k_74) d_CR_init_86 ?_
                  refine ix_tlen hx hb hZ 21 (by decide) hS 15 rfl d_CR_init_89 ?_
                  refine ix_icmp_ge (tgt := 125) hx hb d_CR_init_90 (by decide) (by omega) (fun c_90 => ?_) (fun c_90 => ?_)
                  · exact absurd c_90 (by decide)
                  · refine lv_aload_n hx hb d_CR_init_93 rfl (lv_at hl 2 rfl) ?_
                    refine ix_gets hx hb hZ 21 (by decide) hS hown (ht _ k_74) d_CR_init_94 ?_
                    refine lv_iload hx hb d_CR_init_97 (lv_at hl 0 rfl) ?_
                    refine ix_tald hx hb hZ 21 (by decide) hS (z := 6) 6 (by refine ⟨by omega, ?_, by omega⟩; show _ < (stE 21).length; simp only [stE, List.length_cons, List.length_nil]; omega) d_CR_init_99 ?_
                    rw [show (stE 21).getD 6 0 = 197 from rfl]
                    refine ix_gets hx hb hZ 21 (by decide) hS hown (ht _ k_74) d_CR_init_100 ?_
                    refine lv_iload hx hb d_CR_init_103 (lv_at hl 0 rfl) ?_
                    refine lv_iconst (v := iI 1) hx hb d_CR_init_105 rfl ?_
                    refine ix_iadd hx hb d_CR_init_106 (show _ from ?_)
                    refine ix_tald hx hb hZ 21 (by decide) hS (z := 7) 7 (by refine ⟨by omega, ?_, by omega⟩; show _ < (stE 21).length; simp only [stE, List.length_cons, List.length_nil]; omega) d_CR_init_107 ?_
                    rw [show (stE 21).getD 7 0 = 229 from rfl]
                    refine ix_gets hx hb hZ 21 (by decide) hS hown (ht _ k_74) d_CR_init_108 ?_
                    refine lv_iload hx hb d_CR_init_111 (lv_at hl 0 rfl) ?_
                    refine lv_iconst (v := iI 2) hx hb d_CR_init_113 rfl ?_
                    refine ix_iadd hx hb d_CR_init_114 (show _ from ?_)
                    refine ix_tald hx hb hZ 21 (by decide) hS (z := 8) 8 (by refine ⟨by omega, ?_, by omega⟩; show _ < (stE 21).length; simp only [stE, List.length_cons, List.length_nil]; omega) d_CR_init_115 ?_
                    rw [show (stE 21).getD 8 0 = 8491 from rfl]
                    have hF_116 := va_free (wc := [(h, .inr (3, [.int (iI la), .ref qn])), (qn, .inl (zI g, 1122, .inl (ai (thrF la (thrF la (nrp1 la) 83 115 383) 75 107 8490))))]) hD hS hA [0, 1] rfl
                    refine zcVv (ci := 3) (q0 := 0) (As := [.int (iI 197), .int (iI 229), .int (iI 8491)]) (rest := []) ⟨hx, hb, hml, hown, ht⟩ v_CR_31 (c_CR_linkThree l g H.size h qn la (thrF la (thrF la (nrp1 la) 83 115 383) 75 107 8490) 197 229 8491 hla (by omega) (by omega) (by omega)) ⟨Nat.le_of_ble_eq_true rfl, Nat.le_of_ble_eq_true rfl⟩ ⟨Nat.le_of_ble_eq_true rfl, Nat.le_of_ble_eq_true rfl⟩ hK hZ hS hP (hD.weaken (fun _ _ _ _ => trivial)) hF_116 zP_nil zAp_nil rfl rfl rfl rfl hl.1 rfl (Nat.le_of_ble_eq_true rfl) d_CR_init_116 (fun w_116 H locs h_116 pp_116 dd_116 zz_116 kk_116 hS => ?_)
                    subst h_116
                    have hP : va_P g.1 classes [(h, .inr (3, [.int (iI la), .ref qn])), (qn, .inl (zI g, 1122, .inl (ai (thrF la (thrF la (thrF la (nrp1 la) 83 115 383) 75 107 8490) 197 229 8491))))] H := pp_116
                    have hD : va_D A [(h, .inr (3, [.int (iI la), .ref qn])), (qn, .inl (zI g, 1122, .inl (ai (thrF la (thrF la (thrF la (nrp1 la) 83 115 383) 75 107 8490) 197 229 8491))))] := dd_116.weaken (fun _ _ _ h9 => hF_116 _ h9)
                    refine lv_iinc (v := iI 9) (lv' := [(4, .int (iI 9)), (3, .int (iI 4)), (0, .ref h), (1, .int (iI bo)), (2, .int (iI la))]) hx hb d_CR_init_119 hl (k := 0) rfl (iI_add _ _) (by decide) rfl (fun ls hl => ?_)
                    refine lv_goto (tgt := 82) hx hb d_CR_init_122 (by decide) ?_
                    refine lv_iload hx hb d_CR_init_82 (lv_at hl 0 rfl) ?_
                    refine lv_iconst (v := iI 2) hx hb d_CR_init_84 rfl ?_
                    refine ix_iadd hx hb d_CR_init_85 (show _ from ?_)
                    refine ix_gets hx hb hZ 21 (by decide) hS hown (ht _ k_74) d_CR_init_86 ?_
                    refine ix_tlen hx hb hZ 21 (by decide) hS 15 rfl d_CR_init_89 ?_
                    refine ix_icmp_ge (tgt := 125) hx hb d_CR_init_90 (by decide) (by omega) (fun c_90 => ?_) (fun c_90 => ?_)
                    · exact absurd c_90 (by decide)
                    · refine lv_aload_n hx hb d_CR_init_93 rfl (lv_at hl 2 rfl) ?_
                      refine ix_gets hx hb hZ 21 (by decide) hS hown (ht _ k_74) d_CR_init_94 ?_
                      refine lv_iload hx hb d_CR_init_97 (lv_at hl 0 rfl) ?_
                      refine ix_tald hx hb hZ 21 (by decide) hS (z := 9) 9 (by refine ⟨by omega, ?_, by omega⟩; show _ < (stE 21).length; simp only [stE, List.length_cons, List.length_nil]; omega) d_CR_init_99 ?_
                      rw [show (stE 21).getD 9 0 = 181 from rfl]
                      refine ix_gets hx hb hZ 21 (by decide) hS hown (ht _ k_74) d_CR_init_100 ?_
                      refine lv_iload hx hb d_CR_init_103 (lv_at hl 0 rfl) ?_
                      refine lv_iconst (v := iI 1) hx hb d_CR_init_105 rfl ?_
                      refine ix_iadd hx hb d_CR_init_106 (show _ from ?_)
                      refine ix_tald hx hb hZ 21 (by decide) hS (z := 10) 10 (by refine ⟨by omega, ?_, by omega⟩; show _ < (stE 21).length; simp only [stE, List.length_cons, List.length_nil]; omega) d_CR_init_107 ?_
                      rw [show (stE 21).getD 10 0 = 924 from rfl]
                      refine ix_gets hx hb hZ 21 (by decide) hS hown (ht _ k_74) d_CR_init_108 ?_
                      refine lv_iload hx hb d_CR_init_111 (lv_at hl 0 rfl) ?_
                      refine lv_iconst (v := iI 2) hx hb d_CR_init_113 rfl ?_
                      refine ix_iadd hx hb d_CR_init_114 (show _ from ?_)
                      refine ix_tald hx hb hZ 21 (by decide) hS (z := 11) 11 (by refine ⟨by omega, ?_, by omega⟩; show _ < (stE 21).length; simp only [stE, List.length_cons, List.length_nil]; omega) d_CR_init_115 ?_
                      rw [show (stE 21).getD 11 0 = 956 from rfl]
                      have hF_116 := va_free (wc := [(h, .inr (3, [.int (iI la), .ref qn])), (qn, .inl (zI g, 1122, .inl (ai (thrF la (thrF la (thrF la (nrp1 la) 83 115 383) 75 107 8490) 197 229 8491))))]) hD hS hA [0, 1] rfl
                      refine zcVv (ci := 3) (q0 := 0) (As := [.int (iI 181), .int (iI 924), .int (iI 956)]) (rest := []) ⟨hx, hb, hml, hown, ht⟩ v_CR_31 (c_CR_linkThree l g H.size h qn la (thrF la (thrF la (thrF la (nrp1 la) 83 115 383) 75 107 8490) 197 229 8491) 181 924 956 hla (by omega) (by omega) (by omega)) ⟨Nat.le_of_ble_eq_true rfl, Nat.le_of_ble_eq_true rfl⟩ ⟨Nat.le_of_ble_eq_true rfl, Nat.le_of_ble_eq_true rfl⟩ hK hZ hS hP (hD.weaken (fun _ _ _ _ => trivial)) hF_116 zP_nil zAp_nil rfl rfl rfl rfl hl.1 rfl (Nat.le_of_ble_eq_true rfl) d_CR_init_116 (fun w_116 H locs h_116 pp_116 dd_116 zz_116 kk_116 hS => ?_)
                      subst h_116
                      have hP : va_P g.1 classes [(h, .inr (3, [.int (iI la), .ref qn])), (qn, .inl (zI g, 1122, .inl (ai (thrF la (thrF la (thrF la (thrF la (nrp1 la) 83 115 383) 75 107 8490) 197 229 8491) 181 924 956))))] H := pp_116
                      have hD : va_D A [(h, .inr (3, [.int (iI la), .ref qn])), (qn, .inl (zI g, 1122, .inl (ai (thrF la (thrF la (thrF la (thrF la (nrp1 la) 83 115 383) 75 107 8490) 197 229 8491) 181 924 956))))] := dd_116.weaken (fun _ _ _ h9 => hF_116 _ h9)
                      refine lv_iinc (v := iI 12) (lv' := [(4, .int (iI 12)), (3, .int (iI 4)), (0, .ref h), (1, .int (iI bo)), (2, .int (iI la))]) hx hb d_CR_init_119 hl (k := 0) rfl (iI_add _ _) (by decide) rfl (fun ls hl => ?_)
                      refine lv_goto (tgt := 82) hx hb d_CR_init_122 (by decide) ?_
                      refine lv_iload hx hb d_CR_init_82 (lv_at hl 0 rfl) ?_
                      refine lv_iconst (v := iI 2) hx hb d_CR_init_84 rfl ?_
                      refine ix_iadd hx hb d_CR_init_85 (show _ from ?_)
                      refine ix_gets hx hb hZ 21 (by decide) hS hown (ht _ k_74) d_CR_init_86 ?_
                      refine ix_tlen hx hb hZ 21 (by decide) hS 15 rfl d_CR_init_89 ?_
                      refine ix_icmp_ge (tgt := 125) hx hb d_CR_init_90 (by decide) (by omega) (fun c_90 => ?_) (fun c_90 => ?_)
                      · exact absurd c_90 (by decide)
                      · refine lv_aload_n hx hb d_CR_init_93 rfl (lv_at hl 2 rfl) ?_
                        refine ix_gets hx hb hZ 21 (by decide) hS hown (ht _ k_74) d_CR_init_94 ?_
                        refine lv_iload hx hb d_CR_init_97 (lv_at hl 0 rfl) ?_
                        refine ix_tald hx hb hZ 21 (by decide) hS (z := 12) 12 (by refine ⟨by omega, ?_, by omega⟩; show _ < (stE 21).length; simp only [stE, List.length_cons, List.length_nil]; omega) d_CR_init_99 ?_
                        rw [show (stE 21).getD 12 0 = 931 from rfl]
                        refine ix_gets hx hb hZ 21 (by decide) hS hown (ht _ k_74) d_CR_init_100 ?_
                        refine lv_iload hx hb d_CR_init_103 (lv_at hl 0 rfl) ?_
                        refine lv_iconst (v := iI 1) hx hb d_CR_init_105 rfl ?_
                        refine ix_iadd hx hb d_CR_init_106 (show _ from ?_)
                        refine ix_tald hx hb hZ 21 (by decide) hS (z := 13) 13 (by refine ⟨by omega, ?_, by omega⟩; show _ < (stE 21).length; simp only [stE, List.length_cons, List.length_nil]; omega) d_CR_init_107 ?_
                        rw [show (stE 21).getD 13 0 = 962 from rfl]
                        refine ix_gets hx hb hZ 21 (by decide) hS hown (ht _ k_74) d_CR_init_108 ?_
                        refine lv_iload hx hb d_CR_init_111 (lv_at hl 0 rfl) ?_
                        refine lv_iconst (v := iI 2) hx hb d_CR_init_113 rfl ?_
                        refine ix_iadd hx hb d_CR_init_114 (show _ from ?_)
                        refine ix_tald hx hb hZ 21 (by decide) hS (z := 14) 14 (by refine ⟨by omega, ?_, by omega⟩; show _ < (stE 21).length; simp only [stE, List.length_cons, List.length_nil]; omega) d_CR_init_115 ?_
                        rw [show (stE 21).getD 14 0 = 963 from rfl]
                        have hF_116 := va_free (wc := [(h, .inr (3, [.int (iI la), .ref qn])), (qn, .inl (zI g, 1122, .inl (ai (thrF la (thrF la (thrF la (thrF la (nrp1 la) 83 115 383) 75 107 8490) 197 229 8491) 181 924 956))))]) hD hS hA [0, 1] rfl
                        refine zcVv (ci := 3) (q0 := 0) (As := [.int (iI 931), .int (iI 962), .int (iI 963)]) (rest := []) ⟨hx, hb, hml, hown, ht⟩ v_CR_31 (c_CR_linkThree l g H.size h qn la (thrF la (thrF la (thrF la (thrF la (nrp1 la) 83 115 383) 75 107 8490) 197 229 8491) 181 924 956) 931 962 963 hla (by omega) (by omega) (by omega)) ⟨Nat.le_of_ble_eq_true rfl, Nat.le_of_ble_eq_true rfl⟩ ⟨Nat.le_of_ble_eq_true rfl, Nat.le_of_ble_eq_true rfl⟩ hK hZ hS hP (hD.weaken (fun _ _ _ _ => trivial)) hF_116 zP_nil zAp_nil rfl rfl rfl rfl hl.1 rfl (Nat.le_of_ble_eq_true rfl) d_CR_init_116 (fun w_116 H locs h_116 pp_116 dd_116 zz_116 kk_116 hS => ?_)
                        subst h_116
                        have hP : va_P g.1 classes [(h, .inr (3, [.int (iI la), .ref qn])), (qn, .inl (zI g, 1122, .inl (ai (thrF la (thrF la (thrF la (thrF la (thrF la (nrp1 la) 83 115 383) 75 107 8490) 197 229 8491) 181 924 956) 931 962 963))))] H := pp_116
                        have hD : va_D A [(h, .inr (3, [.int (iI la), .ref qn])), (qn, .inl (zI g, 1122, .inl (ai (thrF la (thrF la (thrF la (thrF la (thrF la (nrp1 la) 83 115 383) 75 107 8490) 197 229 8491) 181 924 956) 931 962 963))))] := dd_116.weaken (fun _ _ _ h9 => hF_116 _ h9)
                        refine lv_iinc (v := iI 15) (lv' := [(4, .int (iI 15)), (3, .int (iI 4)), (0, .ref h), (1, .int (iI bo)), (2, .int (iI la))]) hx hb d_CR_init_119 hl (k := 0) rfl (iI_add _ _) (by decide) rfl (fun ls hl => ?_)
                        refine lv_goto (tgt := 82) hx hb d_CR_init_122 (by decide) ?_
                        refine lv_iload hx hb d_CR_init_82 (lv_at hl 0 rfl) ?_
                        refine lv_iconst (v := iI 2) hx hb d_CR_init_84 rfl ?_
                        refine ix_iadd hx hb d_CR_init_85 (show _ from ?_)
                        refine ix_gets hx hb hZ 21 (by decide) hS hown (ht _ k_74) d_CR_init_86 ?_
                        refine ix_tlen hx hb hZ 21 (by decide) hS 15 rfl d_CR_init_89 ?_
                        refine ix_icmp_ge (tgt := 125) hx hb d_CR_init_90 (by decide) (by omega) (fun c_90 => ?_) (fun c_90 => ?_)
                        · subst hQ
                          exact W.vret hx hb hr (fun t h9 hW => ⟨⟨_, rfl, ⟨qn, Or.inl ⟨by omega, rfl⟩⟩, by rw [h9]; exact hP, va_K.moved hW.alike hK, hD⟩, hS.F h9⟩) hS.2.2 d_CR_init_125
                        · exact absurd c_90 (by decide)
            · exact absurd c_64 (by decide)
        · refine ix_gets hx hb hZ 20 (by decide) hS hown (ht _ k_61) d_CR_init_47 ?_
          refine ix_tlen hx hb hZ 20 (by decide) hS 52 rfl d_CR_init_50 ?_
          refine lv_goto (tgt := 55) hx hb d_CR_init_51 (by decide) ?_
          refine lv_istore_n (lv' := [(3, .int (iI 52)), (0, .ref h), (1, .int (iI bo)), (2, .int (iI la))]) hx hb d_CR_init_55 rfl hl (by decide) rfl (fun ls hl => ?_)
          refine lv_iconst (v := iI 0) hx hb d_CR_init_56 rfl ?_
          refine lv_istore (lv' := [(4, .int (iI 0)), (3, .int (iI 52)), (0, .ref h), (1, .int (iI bo)), (2, .int (iI la))]) hx hb d_CR_init_57 hl (by decide) rfl (fun ls hl => ?_)
          refine lv_iload hx hb d_CR_init_59 (lv_at hl 0 rfl) ?_
          refine lv_iconst (v := iI 3) hx hb d_CR_init_61 rfl ?_
          refine ix_iadd hx hb d_CR_init_62 (show _ from ?_)
          refine lv_iload_n hx hb d_CR_init_63 rfl (lv_at hl 1 rfl) ?_
          refine ix_icmp_ge (tgt := 79) hx hb d_CR_init_64 (by decide) (by omega) (fun c_64 => ?_) (fun c_64 => ?_)
          · exact absurd c_64 (by decide)
          · refine lv_aload_n hx hb d_CR_init_67 rfl (lv_at hl 2 rfl) ?_
            refine lv_iload hx hb d_CR_init_68 (lv_at hl 0 rfl) ?_
            have hF_70 := va_free (wc := [(h, .inr (3, [.int (iI la), .ref qn])), (qn, .inl (zI g, 1122, .inl (ai nrp0)))]) hD hS hA [0, 1] rfl
            refine zcVv (ci := 3) (q0 := 0) (As := [.int (iI 0)]) (rest := []) ⟨hx, hb, hml, hown, ht⟩ v_CR_24 (c_CR_linkPairs l g H.size h qn la nrp0 0 65 90 32 1 hla (by decide) rfl rfl rfl rfl (by omega)) ⟨Nat.le_of_ble_eq_true rfl, Nat.le_of_ble_eq_true rfl⟩ ⟨Nat.le_of_ble_eq_true rfl, Nat.le_of_ble_eq_true rfl⟩ hK hZ hS hP (hD.weaken (fun _ _ _ _ => trivial)) hF_70 zP_nil zAp_nil rfl rfl rfl rfl hl.1 rfl (Nat.le_of_ble_eq_true rfl) d_CR_init_70 (fun w_70 H locs h_70 pp_70 dd_70 zz_70 kk_70 hS => ?_)
            subst h_70
            have hP : va_P g.1 classes [(h, .inr (3, [.int (iI la), .ref qn])), (qn, .inl (zI g, 1122, .inl (ai (nrp1 la))))] H := pp_70
            have hD : va_D A [(h, .inr (3, [.int (iI la), .ref qn])), (qn, .inl (zI g, 1122, .inl (ai (nrp1 la))))] := dd_70.weaken (fun _ _ _ h9 => hF_70 _ h9)
            refine lv_iinc (v := iI 4) (lv' := [(4, .int (iI 4)), (3, .int (iI 52)), (0, .ref h), (1, .int (iI bo)), (2, .int (iI la))]) hx hb d_CR_init_73 hl (k := 0) rfl (iI_add _ _) (by decide) rfl (fun ls hl => ?_)
            refine lv_goto (tgt := 59) hx hb d_CR_init_76 (by decide) ?_
            refine lv_iload hx hb d_CR_init_59 (lv_at hl 0 rfl) ?_
            refine lv_iconst (v := iI 3) hx hb d_CR_init_61 rfl ?_
            refine ix_iadd hx hb d_CR_init_62 (show _ from ?_)
            refine lv_iload_n hx hb d_CR_init_63 rfl (lv_at hl 1 rfl) ?_
            refine ix_icmp_ge (tgt := 79) hx hb d_CR_init_64 (by decide) (by omega) (fun c_64 => ?_) (fun c_64 => ?_)
            · exact absurd c_64 (by decide)
            · refine lv_aload_n hx hb d_CR_init_67 rfl (lv_at hl 2 rfl) ?_
              refine lv_iload hx hb d_CR_init_68 (lv_at hl 0 rfl) ?_
              have hF_70 := va_free (wc := [(h, .inr (3, [.int (iI la), .ref qn])), (qn, .inl (zI g, 1122, .inl (ai (nrp1 la))))]) hD hS hA [0, 1] rfl
              refine zcVv (ci := 3) (q0 := 0) (As := [.int (iI 4)]) (rest := []) ⟨hx, hb, hml, hown, ht⟩ v_CR_24 (c_CR_linkPairs l g H.size h qn la (nrp1 la) 4 192 214 32 1 hla (by decide) rfl rfl rfl rfl (by omega)) ⟨Nat.le_of_ble_eq_true rfl, Nat.le_of_ble_eq_true rfl⟩ ⟨Nat.le_of_ble_eq_true rfl, Nat.le_of_ble_eq_true rfl⟩ hK hZ hS hP (hD.weaken (fun _ _ _ _ => trivial)) hF_70 zP_nil zAp_nil rfl rfl rfl rfl hl.1 rfl (Nat.le_of_ble_eq_true rfl) d_CR_init_70 (fun w_70 H locs h_70 pp_70 dd_70 zz_70 kk_70 hS => ?_)
              subst h_70
              have hP : va_P g.1 classes [(h, .inr (3, [.int (iI la), .ref qn])), (qn, .inl (zI g, 1122, .inl (ai (nrp2 la))))] H := pp_70
              have hD : va_D A [(h, .inr (3, [.int (iI la), .ref qn])), (qn, .inl (zI g, 1122, .inl (ai (nrp2 la))))] := dd_70.weaken (fun _ _ _ h9 => hF_70 _ h9)
              refine lv_iinc (v := iI 8) (lv' := [(4, .int (iI 8)), (3, .int (iI 52)), (0, .ref h), (1, .int (iI bo)), (2, .int (iI la))]) hx hb d_CR_init_73 hl (k := 0) rfl (iI_add _ _) (by decide) rfl (fun ls hl => ?_)
              refine lv_goto (tgt := 59) hx hb d_CR_init_76 (by decide) ?_
              refine lv_iload hx hb d_CR_init_59 (lv_at hl 0 rfl) ?_
              refine lv_iconst (v := iI 3) hx hb d_CR_init_61 rfl ?_
              refine ix_iadd hx hb d_CR_init_62 (show _ from ?_)
              refine lv_iload_n hx hb d_CR_init_63 rfl (lv_at hl 1 rfl) ?_
              refine ix_icmp_ge (tgt := 79) hx hb d_CR_init_64 (by decide) (by omega) (fun c_64 => ?_) (fun c_64 => ?_)
              · exact absurd c_64 (by decide)
              · refine lv_aload_n hx hb d_CR_init_67 rfl (lv_at hl 2 rfl) ?_
                refine lv_iload hx hb d_CR_init_68 (lv_at hl 0 rfl) ?_
                have hF_70 := va_free (wc := [(h, .inr (3, [.int (iI la), .ref qn])), (qn, .inl (zI g, 1122, .inl (ai (nrp2 la))))]) hD hS hA [0, 1] rfl
                refine zcVv (ci := 3) (q0 := 0) (As := [.int (iI 8)]) (rest := []) ⟨hx, hb, hml, hown, ht⟩ v_CR_24 (c_CR_linkPairs l g H.size h qn la (nrp2 la) 8 216 222 32 1 hla (by decide) rfl rfl rfl rfl (by omega)) ⟨Nat.le_of_ble_eq_true rfl, Nat.le_of_ble_eq_true rfl⟩ ⟨Nat.le_of_ble_eq_true rfl, Nat.le_of_ble_eq_true rfl⟩ hK hZ hS hP (hD.weaken (fun _ _ _ _ => trivial)) hF_70 zP_nil zAp_nil rfl rfl rfl rfl hl.1 rfl (Nat.le_of_ble_eq_true rfl) d_CR_init_70 (fun w_70 H locs h_70 pp_70 dd_70 zz_70 kk_70 hS => ?_)
                subst h_70
                have hP : va_P g.1 classes [(h, .inr (3, [.int (iI la), .ref qn])), (qn, .inl (zI g, 1122, .inl (ai (nrp3 la))))] H := pp_70
                have hD : va_D A [(h, .inr (3, [.int (iI la), .ref qn])), (qn, .inl (zI g, 1122, .inl (ai (nrp3 la))))] := dd_70.weaken (fun _ _ _ h9 => hF_70 _ h9)
                refine lv_iinc (v := iI 12) (lv' := [(4, .int (iI 12)), (3, .int (iI 52)), (0, .ref h), (1, .int (iI bo)), (2, .int (iI la))]) hx hb d_CR_init_73 hl (k := 0) rfl (iI_add _ _) (by decide) rfl (fun ls hl => ?_)
                refine lv_goto (tgt := 59) hx hb d_CR_init_76 (by decide) ?_
                refine lv_iload hx hb d_CR_init_59 (lv_at hl 0 rfl) ?_
                refine lv_iconst (v := iI 3) hx hb d_CR_init_61 rfl ?_
                refine ix_iadd hx hb d_CR_init_62 (show _ from ?_)
                refine lv_iload_n hx hb d_CR_init_63 rfl (lv_at hl 1 rfl) ?_
                refine ix_icmp_ge (tgt := 79) hx hb d_CR_init_64 (by decide) (by omega) (fun c_64 => ?_) (fun c_64 => ?_)
                · exact absurd c_64 (by decide)
                · refine lv_aload_n hx hb d_CR_init_67 rfl (lv_at hl 2 rfl) ?_
                  refine lv_iload hx hb d_CR_init_68 (lv_at hl 0 rfl) ?_
                  have hF_70 := va_free (wc := [(h, .inr (3, [.int (iI la), .ref qn])), (qn, .inl (zI g, 1122, .inl (ai (nrp3 la))))]) hD hS hA [0, 1] rfl
                  refine zcVv (ci := 3) (q0 := 0) (As := [.int (iI 12)]) (rest := []) ⟨hx, hb, hml, hown, ht⟩ v_CR_24 (c_CR_linkPairs l g H.size h qn la (nrp3 la) 12 913 929 32 1 hla (by decide) rfl rfl rfl rfl (by omega)) ⟨Nat.le_of_ble_eq_true rfl, Nat.le_of_ble_eq_true rfl⟩ ⟨Nat.le_of_ble_eq_true rfl, Nat.le_of_ble_eq_true rfl⟩ hK hZ hS hP (hD.weaken (fun _ _ _ _ => trivial)) hF_70 zP_nil zAp_nil rfl rfl rfl rfl hl.1 rfl (Nat.le_of_ble_eq_true rfl) d_CR_init_70 (fun w_70 H locs h_70 pp_70 dd_70 zz_70 kk_70 hS => ?_)
                  subst h_70
                  have hP : va_P g.1 classes [(h, .inr (3, [.int (iI la), .ref qn])), (qn, .inl (zI g, 1122, .inl (ai (nrp4 la))))] H := pp_70
                  have hD : va_D A [(h, .inr (3, [.int (iI la), .ref qn])), (qn, .inl (zI g, 1122, .inl (ai (nrp4 la))))] := dd_70.weaken (fun _ _ _ h9 => hF_70 _ h9)
                  refine lv_iinc (v := iI 16) (lv' := [(4, .int (iI 16)), (3, .int (iI 52)), (0, .ref h), (1, .int (iI bo)), (2, .int (iI la))]) hx hb d_CR_init_73 hl (k := 0) rfl (iI_add _ _) (by decide) rfl (fun ls hl => ?_)
                  refine lv_goto (tgt := 59) hx hb d_CR_init_76 (by decide) ?_
                  refine lv_iload hx hb d_CR_init_59 (lv_at hl 0 rfl) ?_
                  refine lv_iconst (v := iI 3) hx hb d_CR_init_61 rfl ?_
                  refine ix_iadd hx hb d_CR_init_62 (show _ from ?_)
                  refine lv_iload_n hx hb d_CR_init_63 rfl (lv_at hl 1 rfl) ?_
                  refine ix_icmp_ge (tgt := 79) hx hb d_CR_init_64 (by decide) (by omega) (fun c_64 => ?_) (fun c_64 => ?_)
                  · exact absurd c_64 (by decide)
                  · refine lv_aload_n hx hb d_CR_init_67 rfl (lv_at hl 2 rfl) ?_
                    refine lv_iload hx hb d_CR_init_68 (lv_at hl 0 rfl) ?_
                    have hF_70 := va_free (wc := [(h, .inr (3, [.int (iI la), .ref qn])), (qn, .inl (zI g, 1122, .inl (ai (nrp4 la))))]) hD hS hA [0, 1] rfl
                    refine zcVv (ci := 3) (q0 := 0) (As := [.int (iI 16)]) (rest := []) ⟨hx, hb, hml, hown, ht⟩ v_CR_24 (c_CR_linkPairs l g H.size h qn la (nrp4 la) 16 931 937 32 1 hla (by decide) rfl rfl rfl rfl (by omega)) ⟨Nat.le_of_ble_eq_true rfl, Nat.le_of_ble_eq_true rfl⟩ ⟨Nat.le_of_ble_eq_true rfl, Nat.le_of_ble_eq_true rfl⟩ hK hZ hS hP (hD.weaken (fun _ _ _ _ => trivial)) hF_70 zP_nil zAp_nil rfl rfl rfl rfl hl.1 rfl (Nat.le_of_ble_eq_true rfl) d_CR_init_70 (fun w_70 H locs h_70 pp_70 dd_70 zz_70 kk_70 hS => ?_)
                    subst h_70
                    have hP : va_P g.1 classes [(h, .inr (3, [.int (iI la), .ref qn])), (qn, .inl (zI g, 1122, .inl (ai (nrp5 la))))] H := pp_70
                    have hD : va_D A [(h, .inr (3, [.int (iI la), .ref qn])), (qn, .inl (zI g, 1122, .inl (ai (nrp5 la))))] := dd_70.weaken (fun _ _ _ h9 => hF_70 _ h9)
                    refine lv_iinc (v := iI 20) (lv' := [(4, .int (iI 20)), (3, .int (iI 52)), (0, .ref h), (1, .int (iI bo)), (2, .int (iI la))]) hx hb d_CR_init_73 hl (k := 0) rfl (iI_add _ _) (by decide) rfl (fun ls hl => ?_)
                    refine lv_goto (tgt := 59) hx hb d_CR_init_76 (by decide) ?_
                    refine lv_iload hx hb d_CR_init_59 (lv_at hl 0 rfl) ?_
                    refine lv_iconst (v := iI 3) hx hb d_CR_init_61 rfl ?_
                    refine ix_iadd hx hb d_CR_init_62 (show _ from ?_)
                    refine lv_iload_n hx hb d_CR_init_63 rfl (lv_at hl 1 rfl) ?_
                    refine ix_icmp_ge (tgt := 79) hx hb d_CR_init_64 (by decide) (by omega) (fun c_64 => ?_) (fun c_64 => ?_)
                    · exact absurd c_64 (by decide)
                    · refine lv_aload_n hx hb d_CR_init_67 rfl (lv_at hl 2 rfl) ?_
                      refine lv_iload hx hb d_CR_init_68 (lv_at hl 0 rfl) ?_
                      have hF_70 := va_free (wc := [(h, .inr (3, [.int (iI la), .ref qn])), (qn, .inl (zI g, 1122, .inl (ai (nrp5 la))))]) hD hS hA [0, 1] rfl
                      refine zcVv (ci := 3) (q0 := 0) (As := [.int (iI 20)]) (rest := []) ⟨hx, hb, hml, hown, ht⟩ v_CR_24 (c_CR_linkPairs l g H.size h qn la (nrp5 la) 20 1040 1071 32 1 hla (by decide) rfl rfl rfl rfl (by omega)) ⟨Nat.le_of_ble_eq_true rfl, Nat.le_of_ble_eq_true rfl⟩ ⟨Nat.le_of_ble_eq_true rfl, Nat.le_of_ble_eq_true rfl⟩ hK hZ hS hP (hD.weaken (fun _ _ _ _ => trivial)) hF_70 zP_nil zAp_nil rfl rfl rfl rfl hl.1 rfl (Nat.le_of_ble_eq_true rfl) d_CR_init_70 (fun w_70 H locs h_70 pp_70 dd_70 zz_70 kk_70 hS => ?_)
                      subst h_70
                      have hP : va_P g.1 classes [(h, .inr (3, [.int (iI la), .ref qn])), (qn, .inl (zI g, 1122, .inl (ai (nrp6 la))))] H := pp_70
                      have hD : va_D A [(h, .inr (3, [.int (iI la), .ref qn])), (qn, .inl (zI g, 1122, .inl (ai (nrp6 la))))] := dd_70.weaken (fun _ _ _ h9 => hF_70 _ h9)
                      refine lv_iinc (v := iI 24) (lv' := [(4, .int (iI 24)), (3, .int (iI 52)), (0, .ref h), (1, .int (iI bo)), (2, .int (iI la))]) hx hb d_CR_init_73 hl (k := 0) rfl (iI_add _ _) (by decide) rfl (fun ls hl => ?_)
                      refine lv_goto (tgt := 59) hx hb d_CR_init_76 (by decide) ?_
                      refine lv_iload hx hb d_CR_init_59 (lv_at hl 0 rfl) ?_
                      refine lv_iconst (v := iI 3) hx hb d_CR_init_61 rfl ?_
                      refine ix_iadd hx hb d_CR_init_62 (show _ from ?_)
                      refine lv_iload_n hx hb d_CR_init_63 rfl (lv_at hl 1 rfl) ?_
                      refine ix_icmp_ge (tgt := 79) hx hb d_CR_init_64 (by decide) (by omega) (fun c_64 => ?_) (fun c_64 => ?_)
                      · exact absurd c_64 (by decide)
                      · refine lv_aload_n hx hb d_CR_init_67 rfl (lv_at hl 2 rfl) ?_
                        refine lv_iload hx hb d_CR_init_68 (lv_at hl 0 rfl) ?_
                        have hF_70 := va_free (wc := [(h, .inr (3, [.int (iI la), .ref qn])), (qn, .inl (zI g, 1122, .inl (ai (nrp6 la))))]) hD hS hA [0, 1] rfl
                        refine zcVv (ci := 3) (q0 := 0) (As := [.int (iI 24)]) (rest := []) ⟨hx, hb, hml, hown, ht⟩ v_CR_24 (c_CR_linkPairs l g H.size h qn la (nrp6 la) 24 1024 1039 80 1 hla (by decide) rfl rfl rfl rfl (by omega)) ⟨Nat.le_of_ble_eq_true rfl, Nat.le_of_ble_eq_true rfl⟩ ⟨Nat.le_of_ble_eq_true rfl, Nat.le_of_ble_eq_true rfl⟩ hK hZ hS hP (hD.weaken (fun _ _ _ _ => trivial)) hF_70 zP_nil zAp_nil rfl rfl rfl rfl hl.1 rfl (Nat.le_of_ble_eq_true rfl) d_CR_init_70 (fun w_70 H locs h_70 pp_70 dd_70 zz_70 kk_70 hS => ?_)
                        subst h_70
                        have hP : va_P g.1 classes [(h, .inr (3, [.int (iI la), .ref qn])), (qn, .inl (zI g, 1122, .inl (ai (nrp7 la))))] H := pp_70
                        have hD : va_D A [(h, .inr (3, [.int (iI la), .ref qn])), (qn, .inl (zI g, 1122, .inl (ai (nrp7 la))))] := dd_70.weaken (fun _ _ _ h9 => hF_70 _ h9)
                        refine lv_iinc (v := iI 28) (lv' := [(4, .int (iI 28)), (3, .int (iI 52)), (0, .ref h), (1, .int (iI bo)), (2, .int (iI la))]) hx hb d_CR_init_73 hl (k := 0) rfl (iI_add _ _) (by decide) rfl (fun ls hl => ?_)
                        refine lv_goto (tgt := 59) hx hb d_CR_init_76 (by decide) ?_
                        refine lv_iload hx hb d_CR_init_59 (lv_at hl 0 rfl) ?_
                        refine lv_iconst (v := iI 3) hx hb d_CR_init_61 rfl ?_
                        refine ix_iadd hx hb d_CR_init_62 (show _ from ?_)
                        refine lv_iload_n hx hb d_CR_init_63 rfl (lv_at hl 1 rfl) ?_
                        refine ix_icmp_ge (tgt := 79) hx hb d_CR_init_64 (by decide) (by omega) (fun c_64 => ?_) (fun c_64 => ?_)
                        · exact absurd c_64 (by decide)
                        · refine lv_aload_n hx hb d_CR_init_67 rfl (lv_at hl 2 rfl) ?_
                          refine lv_iload hx hb d_CR_init_68 (lv_at hl 0 rfl) ?_
                          have hF_70 := va_free (wc := [(h, .inr (3, [.int (iI la), .ref qn])), (qn, .inl (zI g, 1122, .inl (ai (nrp7 la))))]) hD hS hA [0, 1] rfl
                          refine zcVv (ci := 3) (q0 := 0) (As := [.int (iI 28)]) (rest := []) ⟨hx, hb, hml, hown, ht⟩ v_CR_24 (c_CR_linkPairs l g H.size h qn la (nrp7 la) 28 256 302 1 2 hla (by decide) rfl rfl rfl rfl (by omega)) ⟨Nat.le_of_ble_eq_true rfl, Nat.le_of_ble_eq_true rfl⟩ ⟨Nat.le_of_ble_eq_true rfl, Nat.le_of_ble_eq_true rfl⟩ hK hZ hS hP (hD.weaken (fun _ _ _ _ => trivial)) hF_70 zP_nil zAp_nil rfl rfl rfl rfl hl.1 rfl (Nat.le_of_ble_eq_true rfl) d_CR_init_70 (fun w_70 H locs h_70 pp_70 dd_70 zz_70 kk_70 hS => ?_)
                          subst h_70
                          have hP : va_P g.1 classes [(h, .inr (3, [.int (iI la), .ref qn])), (qn, .inl (zI g, 1122, .inl (ai (nrp8 la))))] H := pp_70
                          have hD : va_D A [(h, .inr (3, [.int (iI la), .ref qn])), (qn, .inl (zI g, 1122, .inl (ai (nrp8 la))))] := dd_70.weaken (fun _ _ _ h9 => hF_70 _ h9)
                          refine lv_iinc (v := iI 32) (lv' := [(4, .int (iI 32)), (3, .int (iI 52)), (0, .ref h), (1, .int (iI bo)), (2, .int (iI la))]) hx hb d_CR_init_73 hl (k := 0) rfl (iI_add _ _) (by decide) rfl (fun ls hl => ?_)
                          refine lv_goto (tgt := 59) hx hb d_CR_init_76 (by decide) ?_
                          refine lv_iload hx hb d_CR_init_59 (lv_at hl 0 rfl) ?_
                          refine lv_iconst (v := iI 3) hx hb d_CR_init_61 rfl ?_
                          refine ix_iadd hx hb d_CR_init_62 (show _ from ?_)
                          refine lv_iload_n hx hb d_CR_init_63 rfl (lv_at hl 1 rfl) ?_
                          refine ix_icmp_ge (tgt := 79) hx hb d_CR_init_64 (by decide) (by omega) (fun c_64 => ?_) (fun c_64 => ?_)
                          · exact absurd c_64 (by decide)
                          · refine lv_aload_n hx hb d_CR_init_67 rfl (lv_at hl 2 rfl) ?_
                            refine lv_iload hx hb d_CR_init_68 (lv_at hl 0 rfl) ?_
                            have hF_70 := va_free (wc := [(h, .inr (3, [.int (iI la), .ref qn])), (qn, .inl (zI g, 1122, .inl (ai (nrp8 la))))]) hD hS hA [0, 1] rfl
                            refine zcVv (ci := 3) (q0 := 0) (As := [.int (iI 32)]) (rest := []) ⟨hx, hb, hml, hown, ht⟩ v_CR_24 (c_CR_linkPairs l g H.size h qn la (nrp8 la) 32 306 310 1 2 hla (by decide) rfl rfl rfl rfl (by omega)) ⟨Nat.le_of_ble_eq_true rfl, Nat.le_of_ble_eq_true rfl⟩ ⟨Nat.le_of_ble_eq_true rfl, Nat.le_of_ble_eq_true rfl⟩ hK hZ hS hP (hD.weaken (fun _ _ _ _ => trivial)) hF_70 zP_nil zAp_nil rfl rfl rfl rfl hl.1 rfl (Nat.le_of_ble_eq_true rfl) d_CR_init_70 (fun w_70 H locs h_70 pp_70 dd_70 zz_70 kk_70 hS => ?_)
                            subst h_70
                            have hP : va_P g.1 classes [(h, .inr (3, [.int (iI la), .ref qn])), (qn, .inl (zI g, 1122, .inl (ai (nrp9 la))))] H := pp_70
                            have hD : va_D A [(h, .inr (3, [.int (iI la), .ref qn])), (qn, .inl (zI g, 1122, .inl (ai (nrp9 la))))] := dd_70.weaken (fun _ _ _ h9 => hF_70 _ h9)
                            refine lv_iinc (v := iI 36) (lv' := [(4, .int (iI 36)), (3, .int (iI 52)), (0, .ref h), (1, .int (iI bo)), (2, .int (iI la))]) hx hb d_CR_init_73 hl (k := 0) rfl (iI_add _ _) (by decide) rfl (fun ls hl => ?_)
                            refine lv_goto (tgt := 59) hx hb d_CR_init_76 (by decide) ?_
                            refine lv_iload hx hb d_CR_init_59 (lv_at hl 0 rfl) ?_
                            refine lv_iconst (v := iI 3) hx hb d_CR_init_61 rfl ?_
                            refine ix_iadd hx hb d_CR_init_62 (show _ from ?_)
                            refine lv_iload_n hx hb d_CR_init_63 rfl (lv_at hl 1 rfl) ?_
                            refine ix_icmp_ge (tgt := 79) hx hb d_CR_init_64 (by decide) (by omega) (fun c_64 => ?_) (fun c_64 => ?_)
                            · exact absurd c_64 (by decide)
                            · refine lv_aload_n hx hb d_CR_init_67 rfl (lv_at hl 2 rfl) ?_
                              refine lv_iload hx hb d_CR_init_68 (lv_at hl 0 rfl) ?_
                              have hF_70 := va_free (wc := [(h, .inr (3, [.int (iI la), .ref qn])), (qn, .inl (zI g, 1122, .inl (ai (nrp9 la))))]) hD hS hA [0, 1] rfl
                              refine zcVv (ci := 3) (q0 := 0) (As := [.int (iI 36)]) (rest := []) ⟨hx, hb, hml, hown, ht⟩ v_CR_24 (c_CR_linkPairs l g H.size h qn la (nrp9 la) 36 313 327 1 2 hla (by decide) rfl rfl rfl rfl (by omega)) ⟨Nat.le_of_ble_eq_true rfl, Nat.le_of_ble_eq_true rfl⟩ ⟨Nat.le_of_ble_eq_true rfl, Nat.le_of_ble_eq_true rfl⟩ hK hZ hS hP (hD.weaken (fun _ _ _ _ => trivial)) hF_70 zP_nil zAp_nil rfl rfl rfl rfl hl.1 rfl (Nat.le_of_ble_eq_true rfl) d_CR_init_70 (fun w_70 H locs h_70 pp_70 dd_70 zz_70 kk_70 hS => ?_)
                              subst h_70
                              have hP : va_P g.1 classes [(h, .inr (3, [.int (iI la), .ref qn])), (qn, .inl (zI g, 1122, .inl (ai (nrp10 la))))] H := pp_70
                              have hD : va_D A [(h, .inr (3, [.int (iI la), .ref qn])), (qn, .inl (zI g, 1122, .inl (ai (nrp10 la))))] := dd_70.weaken (fun _ _ _ h9 => hF_70 _ h9)
                              refine lv_iinc (v := iI 40) (lv' := [(4, .int (iI 40)), (3, .int (iI 52)), (0, .ref h), (1, .int (iI bo)), (2, .int (iI la))]) hx hb d_CR_init_73 hl (k := 0) rfl (iI_add _ _) (by decide) rfl (fun ls hl => ?_)
                              refine lv_goto (tgt := 59) hx hb d_CR_init_76 (by decide) ?_
                              refine lv_iload hx hb d_CR_init_59 (lv_at hl 0 rfl) ?_
                              refine lv_iconst (v := iI 3) hx hb d_CR_init_61 rfl ?_
                              refine ix_iadd hx hb d_CR_init_62 (show _ from ?_)
                              refine lv_iload_n hx hb d_CR_init_63 rfl (lv_at hl 1 rfl) ?_
                              refine ix_icmp_ge (tgt := 79) hx hb d_CR_init_64 (by decide) (by omega) (fun c_64 => ?_) (fun c_64 => ?_)
                              · exact absurd c_64 (by decide)
                              · refine lv_aload_n hx hb d_CR_init_67 rfl (lv_at hl 2 rfl) ?_
                                refine lv_iload hx hb d_CR_init_68 (lv_at hl 0 rfl) ?_
                                have hF_70 := va_free (wc := [(h, .inr (3, [.int (iI la), .ref qn])), (qn, .inl (zI g, 1122, .inl (ai (nrp10 la))))]) hD hS hA [0, 1] rfl
                                refine zcVv (ci := 3) (q0 := 0) (As := [.int (iI 40)]) (rest := []) ⟨hx, hb, hml, hown, ht⟩ v_CR_24 (c_CR_linkPairs l g H.size h qn la (nrp10 la) 40 330 374 1 2 hla (by decide) rfl rfl rfl rfl (by omega)) ⟨Nat.le_of_ble_eq_true rfl, Nat.le_of_ble_eq_true rfl⟩ ⟨Nat.le_of_ble_eq_true rfl, Nat.le_of_ble_eq_true rfl⟩ hK hZ hS hP (hD.weaken (fun _ _ _ _ => trivial)) hF_70 zP_nil zAp_nil rfl rfl rfl rfl hl.1 rfl (Nat.le_of_ble_eq_true rfl) d_CR_init_70 (fun w_70 H locs h_70 pp_70 dd_70 zz_70 kk_70 hS => ?_)
                                subst h_70
                                have hP : va_P g.1 classes [(h, .inr (3, [.int (iI la), .ref qn])), (qn, .inl (zI g, 1122, .inl (ai (nrp11 la))))] H := pp_70
                                have hD : va_D A [(h, .inr (3, [.int (iI la), .ref qn])), (qn, .inl (zI g, 1122, .inl (ai (nrp11 la))))] := dd_70.weaken (fun _ _ _ h9 => hF_70 _ h9)
                                refine lv_iinc (v := iI 44) (lv' := [(4, .int (iI 44)), (3, .int (iI 52)), (0, .ref h), (1, .int (iI bo)), (2, .int (iI la))]) hx hb d_CR_init_73 hl (k := 0) rfl (iI_add _ _) (by decide) rfl (fun ls hl => ?_)
                                refine lv_goto (tgt := 59) hx hb d_CR_init_76 (by decide) ?_
                                refine lv_iload hx hb d_CR_init_59 (lv_at hl 0 rfl) ?_
                                refine lv_iconst (v := iI 3) hx hb d_CR_init_61 rfl ?_
                                refine ix_iadd hx hb d_CR_init_62 (show _ from ?_)
                                refine lv_iload_n hx hb d_CR_init_63 rfl (lv_at hl 1 rfl) ?_
                                refine ix_icmp_ge (tgt := 79) hx hb d_CR_init_64 (by decide) (by omega) (fun c_64 => ?_) (fun c_64 => ?_)
                                · exact absurd c_64 (by decide)
                                · refine lv_aload_n hx hb d_CR_init_67 rfl (lv_at hl 2 rfl) ?_
                                  refine lv_iload hx hb d_CR_init_68 (lv_at hl 0 rfl) ?_
                                  have hF_70 := va_free (wc := [(h, .inr (3, [.int (iI la), .ref qn])), (qn, .inl (zI g, 1122, .inl (ai (nrp11 la))))]) hD hS hA [0, 1] rfl
                                  refine zcVv (ci := 3) (q0 := 0) (As := [.int (iI 44)]) (rest := []) ⟨hx, hb, hml, hown, ht⟩ v_CR_24 (c_CR_linkPairs l g H.size h qn la (nrp11 la) 44 377 381 1 2 hla (by decide) rfl rfl rfl rfl (by omega)) ⟨Nat.le_of_ble_eq_true rfl, Nat.le_of_ble_eq_true rfl⟩ ⟨Nat.le_of_ble_eq_true rfl, Nat.le_of_ble_eq_true rfl⟩ hK hZ hS hP (hD.weaken (fun _ _ _ _ => trivial)) hF_70 zP_nil zAp_nil rfl rfl rfl rfl hl.1 rfl (Nat.le_of_ble_eq_true rfl) d_CR_init_70 (fun w_70 H locs h_70 pp_70 dd_70 zz_70 kk_70 hS => ?_)
                                  subst h_70
                                  have hP : va_P g.1 classes [(h, .inr (3, [.int (iI la), .ref qn])), (qn, .inl (zI g, 1122, .inl (ai (nrp12 la))))] H := pp_70
                                  have hD : va_D A [(h, .inr (3, [.int (iI la), .ref qn])), (qn, .inl (zI g, 1122, .inl (ai (nrp12 la))))] := dd_70.weaken (fun _ _ _ h9 => hF_70 _ h9)
                                  refine lv_iinc (v := iI 48) (lv' := [(4, .int (iI 48)), (3, .int (iI 52)), (0, .ref h), (1, .int (iI bo)), (2, .int (iI la))]) hx hb d_CR_init_73 hl (k := 0) rfl (iI_add _ _) (by decide) rfl (fun ls hl => ?_)
                                  refine lv_goto (tgt := 59) hx hb d_CR_init_76 (by decide) ?_
                                  refine lv_iload hx hb d_CR_init_59 (lv_at hl 0 rfl) ?_
                                  refine lv_iconst (v := iI 3) hx hb d_CR_init_61 rfl ?_
                                  refine ix_iadd hx hb d_CR_init_62 (show _ from ?_)
                                  refine lv_iload_n hx hb d_CR_init_63 rfl (lv_at hl 1 rfl) ?_
                                  refine ix_icmp_ge (tgt := 79) hx hb d_CR_init_64 (by decide) (by omega) (fun c_64 => ?_) (fun c_64 => ?_)
                                  · exact absurd c_64 (by decide)
                                  · refine lv_aload_n hx hb d_CR_init_67 rfl (lv_at hl 2 rfl) ?_
                                    refine lv_iload hx hb d_CR_init_68 (lv_at hl 0 rfl) ?_
                                    have hF_70 := va_free (wc := [(h, .inr (3, [.int (iI la), .ref qn])), (qn, .inl (zI g, 1122, .inl (ai (nrp12 la))))]) hD hS hA [0, 1] rfl
                                    refine zcVv (ci := 3) (q0 := 0) (As := [.int (iI 48)]) (rest := []) ⟨hx, hb, hml, hown, ht⟩ v_CR_24 (c_CR_linkPairs l g H.size h qn la (nrp12 la) 48 255 255 121 1 hla (by decide) rfl rfl rfl rfl (by omega)) ⟨Nat.le_of_ble_eq_true rfl, Nat.le_of_ble_eq_true rfl⟩ ⟨Nat.le_of_ble_eq_true rfl, Nat.le_of_ble_eq_true rfl⟩ hK hZ hS hP (hD.weaken (fun _ _ _ _ => trivial)) hF_70 zP_nil zAp_nil rfl rfl rfl rfl hl.1 rfl (Nat.le_of_ble_eq_true rfl) d_CR_init_70 (fun w_70 H locs h_70 pp_70 dd_70 zz_70 kk_70 hS => ?_)
                                    subst h_70
                                    have hP : va_P g.1 classes [(h, .inr (3, [.int (iI la), .ref qn])), (qn, .inl (zI g, 1122, .inl (ai (nrp13 la))))] H := pp_70
                                    have hD : va_D A [(h, .inr (3, [.int (iI la), .ref qn])), (qn, .inl (zI g, 1122, .inl (ai (nrp13 la))))] := dd_70.weaken (fun _ _ _ h9 => hF_70 _ h9)
                                    refine lv_iinc (v := iI 52) (lv' := [(4, .int (iI 52)), (3, .int (iI 52)), (0, .ref h), (1, .int (iI bo)), (2, .int (iI la))]) hx hb d_CR_init_73 hl (k := 0) rfl (iI_add _ _) (by decide) rfl (fun ls hl => ?_)
                                    refine lv_goto (tgt := 59) hx hb d_CR_init_76 (by decide) ?_
                                    refine lv_iload hx hb d_CR_init_59 (lv_at hl 0 rfl) ?_
                                    refine lv_iconst (v := iI 3) hx hb d_CR_init_61 rfl ?_
                                    refine ix_iadd hx hb d_CR_init_62 (show _ from ?_)
                                    refine lv_iload_n hx hb d_CR_init_63 rfl (lv_at hl 1 rfl) ?_
                                    refine ix_icmp_ge (tgt := 79) hx hb d_CR_init_64 (by decide) (by omega) (fun c_64 => ?_) (fun c_64 => ?_)
                                    · refine lv_iconst (v := iI 0) hx hb d_CR_init_79 rfl ?_
                                      refine lv_istore (lv' := [(4, .int (iI 0)), (3, .int (iI 52)), (0, .ref h), (1, .int (iI bo)), (2, .int (iI la))]) hx hb d_CR_init_80 hl (by decide) rfl (fun ls hl => ?_)
                                      refine lv_iload hx hb d_CR_init_82 (lv_at hl 0 rfl) ?_
                                      refine lv_iconst (v := iI 2) hx hb d_CR_init_84 rfl ?_
                                      refine ix_iadd hx hb d_CR_init_85 (show _ from ?_)
                                      refine ix_gets hx hb hZ 21 (by decide) hS hown (ht _ k_74) d_CR_init_86 ?_
                                      refine ix_tlen hx hb hZ 21 (by decide) hS 15 rfl d_CR_init_89 ?_
                                      refine ix_icmp_ge (tgt := 125) hx hb d_CR_init_90 (by decide) (by omega) (fun c_90 => ?_) (fun c_90 => ?_)
                                      · exact absurd c_90 (by decide)
                                      · refine lv_aload_n hx hb d_CR_init_93 rfl (lv_at hl 2 rfl) ?_
                                        refine ix_gets hx hb hZ 21 (by decide) hS hown (ht _ k_74) d_CR_init_94 ?_
                                        refine lv_iload hx hb d_CR_init_97 (lv_at hl 0 rfl) ?_
                                        refine ix_tald hx hb hZ 21 (by decide) hS (z := 0) 0 (by refine ⟨by omega, ?_, by omega⟩; show _ < (stE 21).length; simp only [stE, List.length_cons, List.length_nil]; omega) d_CR_init_99 ?_
                                        rw [show (stE 21).getD 0 0 = 83 from rfl]
                                        refine ix_gets hx hb hZ 21 (by decide) hS hown (ht _ k_74) d_CR_init_100 ?_
                                        refine lv_iload hx hb d_CR_init_103 (lv_at hl 0 rfl) ?_
                                        refine lv_iconst (v := iI 1) hx hb d_CR_init_105 rfl ?_
                                        refine ix_iadd hx hb d_CR_init_106 (show _ from ?_)
                                        refine ix_tald hx hb hZ 21 (by decide) hS (z := 1) 1 (by refine ⟨by omega, ?_, by omega⟩; show _ < (stE 21).length; simp only [stE, List.length_cons, List.length_nil]; omega) d_CR_init_107 ?_
                                        rw [show (stE 21).getD 1 0 = 115 from rfl]
                                        refine ix_gets hx hb hZ 21 (by decide) hS hown (ht _ k_74) d_CR_init_108 ?_
                                        refine lv_iload hx hb d_CR_init_111 (lv_at hl 0 rfl) ?_
                                        refine lv_iconst (v := iI 2) hx hb d_CR_init_113 rfl ?_
                                        refine ix_iadd hx hb d_CR_init_114 (show _ from ?_)
                                        refine ix_tald hx hb hZ 21 (by decide) hS (z := 2) 2 (by refine ⟨by omega, ?_, by omega⟩; show _ < (stE 21).length; simp only [stE, List.length_cons, List.length_nil]; omega) d_CR_init_115 ?_
                                        rw [show (stE 21).getD 2 0 = 383 from rfl]
                                        have hF_116 := va_free (wc := [(h, .inr (3, [.int (iI la), .ref qn])), (qn, .inl (zI g, 1122, .inl (ai (nrp13 la))))]) hD hS hA [0, 1] rfl
                                        refine zcVv (ci := 3) (q0 := 0) (As := [.int (iI 83), .int (iI 115), .int (iI 383)]) (rest := []) ⟨hx, hb, hml, hown, ht⟩ v_CR_31 (c_CR_linkThree l g H.size h qn la (nrp13 la) 83 115 383 hla (by omega) (by omega) (by omega)) ⟨Nat.le_of_ble_eq_true rfl, Nat.le_of_ble_eq_true rfl⟩ ⟨Nat.le_of_ble_eq_true rfl, Nat.le_of_ble_eq_true rfl⟩ hK hZ hS hP (hD.weaken (fun _ _ _ _ => trivial)) hF_116 zP_nil zAp_nil rfl rfl rfl rfl hl.1 rfl (Nat.le_of_ble_eq_true rfl) d_CR_init_116 (fun w_116 H locs h_116 pp_116 dd_116 zz_116 kk_116 hS => ?_)
                                        subst h_116
                                        have hP : va_P g.1 classes [(h, .inr (3, [.int (iI la), .ref qn])), (qn, .inl (zI g, 1122, .inl (ai (thrF la (nrp13 la) 83 115 383))))] H := pp_116
                                        have hD : va_D A [(h, .inr (3, [.int (iI la), .ref qn])), (qn, .inl (zI g, 1122, .inl (ai (thrF la (nrp13 la) 83 115 383))))] := dd_116.weaken (fun _ _ _ h9 => hF_116 _ h9)
                                        refine lv_iinc (v := iI 3) (lv' := [(4, .int (iI 3)), (3, .int (iI 52)), (0, .ref h), (1, .int (iI bo)), (2, .int (iI la))]) hx hb d_CR_init_119 hl (k := 0) rfl (iI_add _ _) (by decide) rfl (fun ls hl => ?_)
                                        refine lv_goto (tgt := 82) hx hb d_CR_init_122 (by decide) ?_
                                        refine lv_iload hx hb d_CR_init_82 (lv_at hl 0 rfl) ?_
                                        refine lv_iconst (v := iI 2) hx hb d_CR_init_84 rfl ?_
                                        refine ix_iadd hx hb d_CR_init_85 (show _ from ?_)
                                        refine ix_gets hx hb hZ 21 (by decide) hS hown (ht _ k_74) d_CR_init_86 ?_
                                        refine ix_tlen hx hb hZ 21 (by decide) hS 15 rfl d_CR_init_89 ?_
                                        refine ix_icmp_ge (tgt := 125) hx hb d_CR_init_90 (by decide) (by omega) (fun c_90 => ?_) (fun c_90 => ?_)
                                        · exact absurd c_90 (by decide)
                                        · refine lv_aload_n hx hb d_CR_init_93 rfl (lv_at hl 2 rfl) ?_
                                          refine ix_gets hx hb hZ 21 (by decide) hS hown (ht _ k_74) d_CR_init_94 ?_
                                          refine lv_iload hx hb d_CR_init_97 (lv_at hl 0 rfl) ?_
                                          refine ix_tald hx hb hZ 21 (by decide) hS (z := 3) 3 (by refine ⟨by omega, ?_, by omega⟩; show _ < (stE 21).length; simp only [stE, List.length_cons, List.length_nil]; omega) d_CR_init_99 ?_
                                          rw [show (stE 21).getD 3 0 = 75 from rfl]
                                          refine ix_gets hx hb hZ 21 (by decide) hS hown (ht _ k_74) d_CR_init_100 ?_
                                          refine lv_iload hx hb d_CR_init_103 (lv_at hl 0 rfl) ?_
                                          refine lv_iconst (v := iI 1) hx hb d_CR_init_105 rfl ?_
                                          refine ix_iadd hx hb d_CR_init_106 (show _ from ?_)
                                          refine ix_tald hx hb hZ 21 (by decide) hS (z := 4) 4 (by refine ⟨by omega, ?_, by omega⟩; show _ < (stE 21).length; simp only [stE, List.length_cons, List.length_nil]; omega) d_CR_init_107 ?_
                                          rw [show (stE 21).getD 4 0 = 107 from rfl]
                                          refine ix_gets hx hb hZ 21 (by decide) hS hown (ht _ k_74) d_CR_init_108 ?_
                                          refine lv_iload hx hb d_CR_init_111 (lv_at hl 0 rfl) ?_
                                          refine lv_iconst (v := iI 2) hx hb d_CR_init_113 rfl ?_
                                          refine ix_iadd hx hb d_CR_init_114 (show _ from ?_)
                                          refine ix_tald hx hb hZ 21 (by decide) hS (z := 5) 5 (by refine ⟨by omega, ?_, by omega⟩; show _ < (stE 21).length; simp only [stE, List.length_cons, List.length_nil]; omega) d_CR_init_115 ?_
                                          rw [show (stE 21).getD 5 0 = 8490 from rfl]
                                          have hF_116 := va_free (wc := [(h, .inr (3, [.int (iI la), .ref qn])), (qn, .inl (zI g, 1122, .inl (ai (thrF la (nrp13 la) 83 115 383))))]) hD hS hA [0, 1] rfl
                                          refine zcVv (ci := 3) (q0 := 0) (As := [.int (iI 75), .int (iI 107), .int (iI 8490)]) (rest := []) ⟨hx, hb, hml, hown, ht⟩ v_CR_31 (c_CR_linkThree l g H.size h qn la (thrF la (nrp13 la) 83 115 383) 75 107 8490 hla (by omega) (by omega) (by omega)) ⟨Nat.le_of_ble_eq_true rfl, Nat.le_of_ble_eq_true rfl⟩ ⟨Nat.le_of_ble_eq_true rfl, Nat.le_of_ble_eq_true rfl⟩ hK hZ hS hP (hD.weaken (fun _ _ _ _ => trivial)) hF_116 zP_nil zAp_nil rfl rfl rfl rfl hl.1 rfl (Nat.le_of_ble_eq_true rfl) d_CR_init_116 (fun w_116 H locs h_116 pp_116 dd_116 zz_116 kk_116 hS => ?_)
                                          subst h_116
                                          have hP : va_P g.1 classes [(h, .inr (3, [.int (iI la), .ref qn])), (qn, .inl (zI g, 1122, .inl (ai (thrF la (thrF la (nrp13 la) 83 115 383) 75 107 8490))))] H := pp_116
                                          have hD : va_D A [(h, .inr (3, [.int (iI la), .ref qn])), (qn, .inl (zI g, 1122, .inl (ai (thrF la (thrF la (nrp13 la) 83 115 383) 75 107 8490))))] := dd_116.weaken (fun _ _ _ h9 => hF_116 _ h9)
                                          refine lv_iinc (v := iI 6) (lv' := [(4, .int (iI 6)), (3, .int (iI 52)), (0, .ref h), (1, .int (iI bo)), (2, .int (iI la))]) hx hb d_CR_init_119 hl (k := 0) rfl (iI_add _ _) (by decide) rfl (fun ls hl => ?_)
                                          refine lv_goto (tgt := 82) hx hb d_CR_init_122 (by decide) ?_
                                          refine lv_iload hx hb d_CR_init_82 (lv_at hl 0 rfl) ?_
                                          refine lv_iconst (v := iI 2) hx hb d_CR_init_84 rfl ?_
                                          refine ix_iadd hx hb d_CR_init_85 (show _ from ?_)
                                          refine ix_gets hx hb hZ 21 (by decide) hS hown (ht _ k_74) d_CR_init_86 ?_
                                          refine ix_tlen hx hb hZ 21 (by decide) hS 15 rfl d_CR_init_89 ?_
                                          refine ix_icmp_ge (tgt := 125) hx hb d_CR_init_90 (by decide) (by omega) (fun c_90 => ?_) (fun c_90 => ?_)
                                          · exact absurd c_90 (by decide)
                                          · refine lv_aload_n hx hb d_CR_init_93 rfl (lv_at hl 2 rfl) ?_
                                            refine ix_gets hx hb hZ 21 (by decide) hS hown (ht _ k_74) d_CR_init_94 ?_
                                            refine lv_iload hx hb d_CR_init_97 (lv_at hl 0 rfl) ?_
                                            refine ix_tald hx hb hZ 21 (by decide) hS (z := 6) 6 (by refine ⟨by omega, ?_, by omega⟩; show _ < (stE 21).length; simp only [stE, List.length_cons, List.length_nil]; omega) d_CR_init_99 ?_
                                            rw [show (stE 21).getD 6 0 = 197 from rfl]
                                            refine ix_gets hx hb hZ 21 (by decide) hS hown (ht _ k_74) d_CR_init_100 ?_
                                            refine lv_iload hx hb d_CR_init_103 (lv_at hl 0 rfl) ?_
                                            refine lv_iconst (v := iI 1) hx hb d_CR_init_105 rfl ?_
                                            refine ix_iadd hx hb d_CR_init_106 (show _ from ?_)
                                            refine ix_tald hx hb hZ 21 (by decide) hS (z := 7) 7 (by refine ⟨by omega, ?_, by omega⟩; show _ < (stE 21).length; simp only [stE, List.length_cons, List.length_nil]; omega) d_CR_init_107 ?_
                                            rw [show (stE 21).getD 7 0 = 229 from rfl]
                                            refine ix_gets hx hb hZ 21 (by decide) hS hown (ht _ k_74) d_CR_init_108 ?_
                                            refine lv_iload hx hb d_CR_init_111 (lv_at hl 0 rfl) ?_
                                            refine lv_iconst (v := iI 2) hx hb d_CR_init_113 rfl ?_
                                            refine ix_iadd hx hb d_CR_init_114 (show _ from ?_)
                                            refine ix_tald hx hb hZ 21 (by decide) hS (z := 8) 8 (by refine ⟨by omega, ?_, by omega⟩; show _ < (stE 21).length; simp only [stE, List.length_cons, List.length_nil]; omega) d_CR_init_115 ?_
                                            rw [show (stE 21).getD 8 0 = 8491 from rfl]
                                            have hF_116 := va_free (wc := [(h, .inr (3, [.int (iI la), .ref qn])), (qn, .inl (zI g, 1122, .inl (ai (thrF la (thrF la (nrp13 la) 83 115 383) 75 107 8490))))]) hD hS hA [0, 1] rfl
                                            refine zcVv (ci := 3) (q0 := 0) (As := [.int (iI 197), .int (iI 229), .int (iI 8491)]) (rest := []) ⟨hx, hb, hml, hown, ht⟩ v_CR_31 (c_CR_linkThree l g H.size h qn la (thrF la (thrF la (nrp13 la) 83 115 383) 75 107 8490) 197 229 8491 hla (by omega) (by omega) (by omega)) ⟨Nat.le_of_ble_eq_true rfl, Nat.le_of_ble_eq_true rfl⟩ ⟨Nat.le_of_ble_eq_true rfl, Nat.le_of_ble_eq_true rfl⟩ hK hZ hS hP (hD.weaken (fun _ _ _ _ => trivial)) hF_116 zP_nil zAp_nil rfl rfl rfl rfl hl.1 rfl (Nat.le_of_ble_eq_true rfl) d_CR_init_116 (fun w_116 H locs h_116 pp_116 dd_116 zz_116 kk_116 hS => ?_)
                                            subst h_116
                                            have hP : va_P g.1 classes [(h, .inr (3, [.int (iI la), .ref qn])), (qn, .inl (zI g, 1122, .inl (ai (thrF la (thrF la (thrF la (nrp13 la) 83 115 383) 75 107 8490) 197 229 8491))))] H := pp_116
                                            have hD : va_D A [(h, .inr (3, [.int (iI la), .ref qn])), (qn, .inl (zI g, 1122, .inl (ai (thrF la (thrF la (thrF la (nrp13 la) 83 115 383) 75 107 8490) 197 229 8491))))] := dd_116.weaken (fun _ _ _ h9 => hF_116 _ h9)
                                            refine lv_iinc (v := iI 9) (lv' := [(4, .int (iI 9)), (3, .int (iI 52)), (0, .ref h), (1, .int (iI bo)), (2, .int (iI la))]) hx hb d_CR_init_119 hl (k := 0) rfl (iI_add _ _) (by decide) rfl (fun ls hl => ?_)
                                            refine lv_goto (tgt := 82) hx hb d_CR_init_122 (by decide) ?_
                                            refine lv_iload hx hb d_CR_init_82 (lv_at hl 0 rfl) ?_
                                            refine lv_iconst (v := iI 2) hx hb d_CR_init_84 rfl ?_
                                            refine ix_iadd hx hb d_CR_init_85 (show _ from ?_)
                                            refine ix_gets hx hb hZ 21 (by decide) hS hown (ht _ k_74) d_CR_init_86 ?_
                                            refine ix_tlen hx hb hZ 21 (by decide) hS 15 rfl d_CR_init_89 ?_
                                            refine ix_icmp_ge (tgt := 125) hx hb d_CR_init_90 (by decide) (by omega) (fun c_90 => ?_) (fun c_90 => ?_)
                                            · exact absurd c_90 (by decide)
                                            · refine lv_aload_n hx hb d_CR_init_93 rfl (lv_at hl 2 rfl) ?_
                                              refine ix_gets hx hb hZ 21 (by decide) hS hown (ht _ k_74) d_CR_init_94 ?_
                                              refine lv_iload hx hb d_CR_init_97 (lv_at hl 0 rfl) ?_
                                              refine ix_tald hx hb hZ 21 (by decide) hS (z := 9) 9 (by refine ⟨by omega, ?_, by omega⟩; show _ < (stE 21).length; simp only [stE, List.length_cons, List.length_nil]; omega) d_CR_init_99 ?_
                                              rw [show (stE 21).getD 9 0 = 181 from rfl]
                                              refine ix_gets hx hb hZ 21 (by decide) hS hown (ht _ k_74) d_CR_init_100 ?_
                                              refine lv_iload hx hb d_CR_init_103 (lv_at hl 0 rfl) ?_
                                              refine lv_iconst (v := iI 1) hx hb d_CR_init_105 rfl ?_
                                              refine ix_iadd hx hb d_CR_init_106 (show _ from ?_)
                                              refine ix_tald hx hb hZ 21 (by decide) hS (z := 10) 10 (by refine ⟨by omega, ?_, by omega⟩; show _ < (stE 21).length; simp only [stE, List.length_cons, List.length_nil]; omega) d_CR_init_107 ?_
                                              rw [show (stE 21).getD 10 0 = 924 from rfl]
                                              refine ix_gets hx hb hZ 21 (by decide) hS hown (ht _ k_74) d_CR_init_108 ?_
                                              refine lv_iload hx hb d_CR_init_111 (lv_at hl 0 rfl) ?_
                                              refine lv_iconst (v := iI 2) hx hb d_CR_init_113 rfl ?_
                                              refine ix_iadd hx hb d_CR_init_114 (show _ from ?_)
                                              refine ix_tald hx hb hZ 21 (by decide) hS (z := 11) 11 (by refine ⟨by omega, ?_, by omega⟩; show _ < (stE 21).length; simp only [stE, List.length_cons, List.length_nil]; omega) d_CR_init_115 ?_
                                              rw [show (stE 21).getD 11 0 = 956 from rfl]
                                              have hF_116 := va_free (wc := [(h, .inr (3, [.int (iI la), .ref qn])), (qn, .inl (zI g, 1122, .inl (ai (thrF la (thrF la (thrF la (nrp13 la) 83 115 383) 75 107 8490) 197 229 8491))))]) hD hS hA [0, 1] rfl
                                              refine zcVv (ci := 3) (q0 := 0) (As := [.int (iI 181), .int (iI 924), .int (iI 956)]) (rest := []) ⟨hx, hb, hml, hown, ht⟩ v_CR_31 (c_CR_linkThree l g H.size h qn la (thrF la (thrF la (thrF la (nrp13 la) 83 115 383) 75 107 8490) 197 229 8491) 181 924 956 hla (by omega) (by omega) (by omega)) ⟨Nat.le_of_ble_eq_true rfl, Nat.le_of_ble_eq_true rfl⟩ ⟨Nat.le_of_ble_eq_true rfl, Nat.le_of_ble_eq_true rfl⟩ hK hZ hS hP (hD.weaken (fun _ _ _ _ => trivial)) hF_116 zP_nil zAp_nil rfl rfl rfl rfl hl.1 rfl (Nat.le_of_ble_eq_true rfl) d_CR_init_116 (fun w_116 H locs h_116 pp_116 dd_116 zz_116 kk_116 hS => ?_)
                                              subst h_116
                                              have hP : va_P g.1 classes [(h, .inr (3, [.int (iI la), .ref qn])), (qn, .inl (zI g, 1122, .inl (ai (thrF la (thrF la (thrF la (thrF la (nrp13 la) 83 115 383) 75 107 8490) 197 229 8491) 181 924 956))))] H := pp_116
                                              have hD : va_D A [(h, .inr (3, [.int (iI la), .ref qn])), (qn, .inl (zI g, 1122, .inl (ai (thrF la (thrF la (thrF la (thrF la (nrp13 la) 83 115 383) 75 107 8490) 197 229 8491) 181 924 956))))] := dd_116.weaken (fun _ _ _ h9 => hF_116 _ h9)
                                              refine lv_iinc (v := iI 12) (lv' := [(4, .int (iI 12)), (3, .int (iI 52)), (0, .ref h), (1, .int (iI bo)), (2, .int (iI la))]) hx hb d_CR_init_119 hl (k := 0) rfl (iI_add _ _) (by decide) rfl (fun ls hl => ?_)
                                              refine lv_goto (tgt := 82) hx hb d_CR_init_122 (by decide) ?_
                                              refine lv_iload hx hb d_CR_init_82 (lv_at hl 0 rfl) ?_
                                              refine lv_iconst (v := iI 2) hx hb d_CR_init_84 rfl ?_
                                              refine ix_iadd hx hb d_CR_init_85 (show _ from ?_)
                                              refine ix_gets hx hb hZ 21 (by decide) hS hown (ht _ k_74) d_CR_init_86 ?_
                                              refine ix_tlen hx hb hZ 21 (by decide) hS 15 rfl d_CR_init_89 ?_
                                              refine ix_icmp_ge (tgt := 125) hx hb d_CR_init_90 (by decide) (by omega) (fun c_90 => ?_) (fun c_90 => ?_)
                                              · exact absurd c_90 (by decide)
                                              · refine lv_aload_n hx hb d_CR_init_93 rfl (lv_at hl 2 rfl) ?_
                                                refine ix_gets hx hb hZ 21 (by decide) hS hown (ht _ k_74) d_CR_init_94 ?_
                                                refine lv_iload hx hb d_CR_init_97 (lv_at hl 0 rfl) ?_
                                                refine ix_tald hx hb hZ 21 (by decide) hS (z := 12) 12 (by refine ⟨by omega, ?_, by omega⟩; show _ < (stE 21).length; simp only [stE, List.length_cons, List.length_nil]; omega) d_CR_init_99 ?_
                                                rw [show (stE 21).getD 12 0 = 931 from rfl]
                                                refine ix_gets hx hb hZ 21 (by decide) hS hown (ht _ k_74) d_CR_init_100 ?_
                                                refine lv_iload hx hb d_CR_init_103 (lv_at hl 0 rfl) ?_
                                                refine lv_iconst (v := iI 1) hx hb d_CR_init_105 rfl ?_
                                                refine ix_iadd hx hb d_CR_init_106 (show _ from ?_)
                                                refine ix_tald hx hb hZ 21 (by decide) hS (z := 13) 13 (by refine ⟨by omega, ?_, by omega⟩; show _ < (stE 21).length; simp only [stE, List.length_cons, List.length_nil]; omega) d_CR_init_107 ?_
                                                rw [show (stE 21).getD 13 0 = 962 from rfl]
                                                refine ix_gets hx hb hZ 21 (by decide) hS hown (ht _ k_74) d_CR_init_108 ?_
                                                refine lv_iload hx hb d_CR_init_111 (lv_at hl 0 rfl) ?_
                                                refine lv_iconst (v := iI 2) hx hb d_CR_init_113 rfl ?_
                                                refine ix_iadd hx hb d_CR_init_114 (show _ from ?_)
                                                refine ix_tald hx hb hZ 21 (by decide) hS (z := 14) 14 (by refine ⟨by omega, ?_, by omega⟩; show _ < (stE 21).length; simp only [stE, List.length_cons, List.length_nil]; omega) d_CR_init_115 ?_
                                                rw [show (stE 21).getD 14 0 = 963 from rfl]
                                                have hF_116 := va_free (wc := [(h, .inr (3, [.int (iI la), .ref qn])), (qn, .inl (zI g, 1122, .inl (ai (thrF la (thrF la (thrF la (thrF la (nrp13 la) 83 115 383) 75 107 8490) 197 229 8491) 181 924 956))))]) hD hS hA [0, 1] rfl
                                                refine zcVv (ci := 3) (q0 := 0) (As := [.int (iI 931), .int (iI 962), .int (iI 963)]) (rest := []) ⟨hx, hb, hml, hown, ht⟩ v_CR_31 (c_CR_linkThree l g H.size h qn la (thrF la (thrF la (thrF la (thrF la (nrp13 la) 83 115 383) 75 107 8490) 197 229 8491) 181 924 956) 931 962 963 hla (by omega) (by omega) (by omega)) ⟨Nat.le_of_ble_eq_true rfl, Nat.le_of_ble_eq_true rfl⟩ ⟨Nat.le_of_ble_eq_true rfl, Nat.le_of_ble_eq_true rfl⟩ hK hZ hS hP (hD.weaken (fun _ _ _ _ => trivial)) hF_116 zP_nil zAp_nil rfl rfl rfl rfl hl.1 rfl (Nat.le_of_ble_eq_true rfl) d_CR_init_116 (fun w_116 H locs h_116 pp_116 dd_116 zz_116 kk_116 hS => ?_)
                                                subst h_116
                                                have hP : va_P g.1 classes [(h, .inr (3, [.int (iI la), .ref qn])), (qn, .inl (zI g, 1122, .inl (ai (thrF la (thrF la (thrF la (thrF la (thrF la (nrp13 la) 83 115 383) 75 107 8490) 197 229 8491) 181 924 956) 931 962 963))))] H := pp_116
                                                have hD : va_D A [(h, .inr (3, [.int (iI la), .ref qn])), (qn, .inl (zI g, 1122, .inl (ai (thrF la (thrF la (thrF la (thrF la (thrF la (nrp13 la) 83 115 383) 75 107 8490) 197 229 8491) 181 924 956) 931 962 963))))] := dd_116.weaken (fun _ _ _ h9 => hF_116 _ h9)
                                                refine lv_iinc (v := iI 15) (lv' := [(4, .int (iI 15)), (3, .int (iI 52)), (0, .ref h), (1, .int (iI bo)), (2, .int (iI la))]) hx hb d_CR_init_119 hl (k := 0) rfl (iI_add _ _) (by decide) rfl (fun ls hl => ?_)
                                                refine lv_goto (tgt := 82) hx hb d_CR_init_122 (by decide) ?_
                                                refine lv_iload hx hb d_CR_init_82 (lv_at hl 0 rfl) ?_
                                                refine lv_iconst (v := iI 2) hx hb d_CR_init_84 rfl ?_
                                                refine ix_iadd hx hb d_CR_init_85 (show _ from ?_)
                                                refine ix_gets hx hb hZ 21 (by decide) hS hown (ht _ k_74) d_CR_init_86 ?_
                                                refine ix_tlen hx hb hZ 21 (by decide) hS 15 rfl d_CR_init_89 ?_
                                                refine ix_icmp_ge (tgt := 125) hx hb d_CR_init_90 (by decide) (by omega) (fun c_90 => ?_) (fun c_90 => ?_)
                                                · subst hQ
                                                  exact W.vret hx hb hr (fun t h9 hW => ⟨⟨_, rfl, ⟨qn, Or.inr ⟨by omega, rfl⟩⟩, by rw [h9]; exact hP, va_K.moved hW.alike hK, hD⟩, hS.F h9⟩) hS.2.2 d_CR_init_125
                                                · exact absurd c_90 (by decide)
                                    · exact absurd c_64 (by decide)
      · refine lv_aload_n hx hb d_CR_init_27 rfl (lv_at hl 0 rfl) ?_
        refine va_get (D := g.1) (ci := 3) (v := .ref qn) (C := R_CR) (T := F_CR) (N := 2) hx hb ht i_CR hown hK hP 0 rfl rfl 1 (by decide) (ht _ k_81) (fun _ h9 => h9) rfl d_CR_init_28 ?_
        refine lv_iload_n hx hb d_CR_init_31 rfl (lv_at hl 3 rfl) ?_
        refine lv_iload_n hx hb d_CR_init_32 rfl (lv_at hl 3 rfl) ?_
        refine zcS (As := [.int (iI (((i : Nat) : Int)))]) (rest := [.int (iI (((i : Nat) : Int))), .ref qn]) ⟨hx, hb, hml, hown, ht⟩ t_CR_17 (c_CR_characterAt l g i (by omega)) ⟨Nat.le_of_ble_eq_true rfl, Nat.le_of_ble_eq_true rfl⟩ ⟨Nat.le_of_ble_eq_true rfl, Nat.le_of_ble_eq_true rfl⟩ hK hZ hS zP_nil rfl hl.1 rfl (Nat.le_of_ble_eq_true rfl) d_CR_init_33 (fun r_33 h_33 => ?_)
        subst h_33
        refine ix_iast hx hb hK hP hD hS 1 0 rfl rfl (i := (((i : Nat) : Int))) i (by omega) d_CR_init_36 (fun H locs hP hD hS => ?_)
        have hP : va_P g.1 classes [(h, .inr (3, [.int (iI la), .ref qn])), (qn, .inl (zI g, 1122, .inl (ai (va_up (pcf chA i) i (chA i)))))] H := hP
        have hD : va_D A [(h, .inr (3, [.int (iI la), .ref qn])), (qn, .inl (zI g, 1122, .inl (ai (va_up (pcf chA i) i (chA i)))))] := hD
        refine lv_iinc (v := iI ((((i : Nat) : Int)) + 1)) (lv' := [(3, .int (iI ((((i : Nat) : Int)) + 1))), (0, .ref h), (1, .int (iI bo)), (2, .int (iI la))]) hx hb d_CR_init_37 hl (k := 3) rfl (iI_add _ _) (by decide) rfl (fun ls hl => ?_)
        refine lv_goto (tgt := 20) hx hb d_CR_init_40 (by decide) ?_
        rw [pcf_s] at hP hD
        exact ih qn (i + 1) _ _ ls (by omega) (lv_sub hl [1, 2, 3, 0] rfl) (by omega) hP hD hS
  refine lv_aload_n hx hb d_CR_init_0 rfl (lv_at hl 0 rfl) ?_
  refine W.objInit hx hb hown (ht _ k_57) (ht _ k_14) (ht _ k_15) rfl (by rw [hml]; exact hl.1) rfl d_CR_init_1 (Nat.le_of_ble_eq_true rfl) (Nat.le_of_ble_eq_true rfl) ?_
  refine W.eq (g2 := F0 m 4 ls []) rfl ?_
  refine lv_aload_n hx hb d_CR_init_4 rfl (lv_at hl 0 rfl) ?_
  refine lv_iload_n hx hb d_CR_init_5 rfl (lv_at hl 2 rfl) ?_
  refine va_putF (D := g.1) (ci := 3) (v := .int (iI la)) (ty := .int) (C := R_CR) (T := F_CR) (N := 2) hx hb ht i_CR t_CR t_CR_ok n_CR hown hK hP hD hS 0 rfl rfl 0 (by decide) (ht _ k_80) (fun _ h9 => h9) rfl hin rfl (by decide +kernel) rfl rfl (Nat.le_of_ble_eq_true rfl) d_CR_init_6 (fun H locs hP hD hS => ?_)
  have hP : va_P g.1 classes [(h, .inr (3, [.int (iI la), .null]))] H := hP
  have hD : va_D A [(h, .inr (3, [.int (iI la), .null]))] := hD
  refine lv_aload_n hx hb d_CR_init_9 rfl (lv_at hl 0 rfl) ?_
  refine lv_sipush (v := iI 1122) hx hb d_CR_init_10 (by decide) ?_
  refine ix_newa (atype := .int) hx hb (ht _ k_51) rfl hK hP hD hS hA 0 rfl (N' := 1122) (a0 := (1122, .inl (fun _ => 0))) (fun _ => rfl) (by omega) (by decide) (Nat.le_of_ble_eq_true rfl) (Nat.le_of_ble_eq_true rfl) d_CR_init_13 (fun q13 H hP hD hS => ?_)
  rw [ai_0] at hP hD
  have hP : va_P g.1 classes [(h, .inr (3, [.int (iI la), .null])), (q13, .inl (zI g, 1122, .inl (ai (fun _ => 0))))] H := hP
  have hD : va_D A [(h, .inr (3, [.int (iI la), .null])), (q13, .inl (zI g, 1122, .inl (ai (fun _ => 0))))] := hD
  refine va_putF (D := g.1) (ci := 3) (v := .ref q13) (ty := .array .int) (C := R_CR) (T := F_CR) (N := 2) hx hb ht i_CR t_CR t_CR_ok n_CR hown hK hP hD hS 0 rfl rfl 1 (by decide) (ht _ k_81) (fun _ h9 => h9) rfl hin rfl (by decide +kernel) rfl rfl (Nat.le_of_ble_eq_true rfl) d_CR_init_15 (fun H locs hP hD hS => ?_)
  have hP : va_P g.1 classes [(h, .inr (3, [.int (iI la), .ref q13])), (q13, .inl (zI g, 1122, .inl (ai (fun _ => 0))))] H := hP
  have hD : va_D A [(h, .inr (3, [.int (iI la), .ref q13])), (q13, .inl (zI g, 1122, .inl (ai (fun _ => 0))))] := hD
  refine lv_iconst (v := iI 0) hx hb d_CR_init_18 rfl ?_
  refine lv_istore_n (lv' := [(3, .int (iI 0)), (0, .ref h), (1, .int (iI bo)), (2, .int (iI la))]) hx hb d_CR_init_19 rfl hl (by decide) rfl (fun ls hl => ?_)
  have hP : va_P g.1 classes [(h, .inr (3, [.int (iI la), .ref q13])), (q13, .inl (zI g, 1122, .inl (ai (pcf chA 0))))] H := by rw [pcf_0 chA]; exact hP
  have hD : va_D A [(h, .inr (3, [.int (iI la), .ref q13])), (q13, .inl (zI g, 1122, .inl (ai (pcf chA 0))))] := by rw [pcf_0 chA]; exact hD
  exact J20 (_ + 1) q13 0 _ _ ls (Nat.lt_succ_self _) (lv_sub hl [1, 2, 3, 0] rfl) (by omega) hP hD hS
