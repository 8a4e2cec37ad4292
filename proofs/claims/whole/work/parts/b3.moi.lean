/-! the reference's constructor, pure -/
def mdU (md : Int32) (ut la wo : Int) : Prop := (md &&& iI 1 = 0 ∧ ut = 0 ∧ la = 255 ∧ wo = 4) ∨ (¬ md &&& iI 1 = 0 ∧ ut = 1 ∧ la = 1114111 ∧ wo = 17408)
def mdC (md : Int32) (uc : Int) : Prop := (md &&& iI 2 = 0 ∧ uc = 0) ∨ (¬ md &&& iI 2 = 0 ∧ uc = 1)
def KB : Nat → Nat := kfold K3 (kfold K2 (kfold K1 (kfold K0 (fun _ => 0))))
theorem PT_up : (va_up (va_up (va_up (va_up (va_up (va_up (va_up (va_up (va_up (va_up (va_up (va_up (va_up (va_up (fun _ => 0) 0 12544) 1 19968) 2 40960) 3 44032) 4 55204) 5 57344) 6 63744) 7 65039) 8 65040) 9 65279) 10 65280) 11 127744) 12 128592) 13 1114112) = PT := by
  funext j
  match j with
  | 0 => rfl
  | 1 => rfl
  | 2 => rfl
  | 3 => rfl
  | 4 => rfl
  | 5 => rfl
  | 6 => rfl
  | 7 => rfl
  | 8 => rfl
  | 9 => rfl
  | 10 => rfl
  | 11 => rfl
  | 12 => rfl
  | 13 => rfl
  | j + 14 => simp [va_up, PT, PTl]
theorem ka_0 (f : Nat → Nat) (a : Nat) : kalt f a a = f := by
  funext j
  unfold kalt
  cases h1 : Nat.ble a j with
  | false => rfl
  | true =>
    cases h2 : Nat.blt j a with
    | false => rfl
    | true =>
      have := Nat.le_of_ble_eq_true h1
      have h3 : j < a := Nat.le_of_ble_eq_true h2
      omega
theorem ka_s (f : Nat → Nat) (a c : Nat) (h : a ≤ c) (hp : (c - a) % 2 = 0) : va_up (nF (kalt f a c)) c 6 = nF (kalt f a (c + 2)) := by
  funext j
  unfold va_up nF kalt
  have b1 : Nat.ble a j = decide (a ≤ j) := by rw [Bool.eq_iff_iff]; simp
  have b2 : ∀ x y : Nat, Nat.blt x y = decide (x < y) := fun x y => by rw [Bool.eq_iff_iff]; simp [Nat.blt_eq]
  have b3 : Nat.beq ((j - a) % 2) 0 = decide ((j - a) % 2 = 0) := by rw [Bool.eq_iff_iff]; simp
  rw [b1, b2, b2, b3]
  by_cases q : j = c
  · rw [if_pos q, q]
    have e1 : a ≤ c := h
    have e2 : c < c + 2 := by omega
    simp [e1, e2, hp]
  · rw [if_neg q]
    by_cases w : a ≤ j
    · by_cases v : (j - a) % 2 = 0
      · have e : (j < c + 2) ↔ (j < c) := by omega
        simp [w, v, e]
      · simp [w, v]
    · simp [w]
set_option maxHeartbeats 4000000 in
set_option maxRecDepth 100000 in
theorem c_MO_init (l : Launch) (g : zG) (sz : Nat) (h : Nat) (y0 y1 y2 y3 y7 : Int) (md : Int32)  : Met l y_MO_init w_MO_init { frames := 2, cells := 4, slots := 151826, locals := 44 } (zPw g [.ref h, .int md] ([(h, .inr (4, [.int (iI y0), .int (iI y1), .int (iI y2), .int (iI y3), .null, .null, .null, .int (iI y7), .null]))]) [] sz) (va_Qv (fun w => ∃ (r : Nat → Nat) (ut uc la wo : Int), r 0 = h ∧ mdU md ut la wo ∧ mdC md uc ∧ w = [(r 0, .inr (4, [.int (iI ut), .int (iI uc), .int (iI la), .int (iI wo), .ref (r 1), .ref (r 2), .ref (r 3), .int (iI 0), .ref (r 4)])), (r 1, .inl (zJ g, 139264, .inr (.inl (lA (fun _ => 0))))), (r 2, .inl (zBt g, 12544, .inl (ai kF))), (r 3, .inl (zI g, 4, .inl (ai (fun _ => 0)))), (r 4, .inl (zI g, 14, .inl (ai PT)))]) (zB g (va_A ([(h, .inr (4, [.int (iI y0), .int (iI y1), .int (iI y2), .int (iI y3), .null, .null, .null, .int (iI y7), .null]))]) sz)) (va_A ([(h, .inr (4, [.int (iI y0), .int (iI y1), .int (iI y2), .int (iI y3), .null, .null, .null, .int (iI y7), .null]))]) sz)) 4 151826 (va_A ([(h, .inr (4, [.int (iI y0), .int (iI y1), .int (iI y2), .int (iI y3), .null, .null, .null, .int (iI y7), .null]))]) sz) := by
  refine Met.ofW (cc := b_MO_init) (maxL := 3) (ret := none) (by decide) rfl ?_
  intro p e s m args below meth cd s₁ B hml hv
  obtain ⟨hargs, hsz, hP, hK, hD0, hZ, hO0, hAp⟩ := hv
  have hx := B.exec
  have hb := B.bytes
  have hr := B.returns
  have ht : ∀ w ∈ lw_ok, w.before args s = true := fun w h => atoms_spec (ws := w_MO_init) B.pre w (List.mem_cons_of_mem _ h)
  have hown : s.vm.findClass R_MO = some m.cls := findClass_of_methodNamed B.named
  have hlocks := B.notSynchronized
  have hin : meth.name = "<init>" := (name_of_methodNamed B.named B.method).1
  subst hsz
  have hD := hD0.self (sz := s.heap.size)
  generalize hAe : va_A ([(h, .inr (4, [.int (iI y0), .int (iI y1), .int (iI y2), .int (iI y3), .null, .null, .null, .int (iI y7), .null]))]) s.heap.size = A at hD hZ hAp ⊢
  have hA : ∀ q : Nat, s.heap.size ≤ q → A q := fun q h => by rw [← hAe]; exact Or.inr h
  have hS : va_S A s.heap s.heap [] := va_S.rf
  generalize hQ : MQ below _ args s 4 151826 _ = Q
  have hl := lv_entry ([.ref h, .int md]) (n := 3) (Nat.le_of_ble_eq_true rfl)
  rw [show entryFrame m args 3 = entryFrame m ([.ref h, .int md] : List Value).toArray 3 by rw [hargs], lg_entry_eq]
  generalize (lg_sl ([.ref h, .int md]) ++ List.replicate (3 - (lg_sl ([.ref h, .int md])).length) Slot.unset).toArray = ls at hl ⊢
  have hl : lv_has ls 3 [(0, .ref h), (1, .int md)] := hl
  obtain ⟨H, locs, hHe, hLe⟩ : ∃ (H : Heap) (locs : List Loc), H = s.heap ∧ locs = [] := ⟨_, _, rfl, rfl⟩
  rw [show W p l e _ s m args below meth cd s.heap [] 0 0 Q = W p l e _ s m args below meth cd H locs 0 0 Q by rw [hHe, hLe]]
  rw [← hHe] at hP
  have hS : va_S A s.heap H locs := by rw [hHe, hLe]; exact hS
  have J290 : ∀ fu : Nat, ∀ (r : Nat → Nat) (ut uc la wo : Int) (i : Nat) (H : Heap) (locs : List Loc) (ls : Array Slot), 383 - 2 * i < fu → lv_has ls 3 [(0, .ref (r 0)), (2, .int (iI (((377 + 2 * i : Nat) : Int))))] → (r 0 = h) → (mdU md ut la wo) → (mdC md uc) → (377 + 2 * i ≤ 383) → va_P g.1 classes ([(r 0, .inr (4, [.int (iI ut), .int (iI uc), .int (iI la), .int (iI wo), .ref (r 1), .ref (r 2), .ref (r 3), .int (iI 0), .ref (r 4)])), (r 1, .inl (zJ g, 139264, .inr (.inl (lA (fun _ => 0))))), (r 2, .inl (zBt g, 12544, .inl (ai (nF (kalt (kalt (kalt (kalt KB 256 312) 330 376) 313 329) 377 (377 + 2 * i)))))), (r 3, .inl (zI g, 4, .inl (ai (fun _ => 0)))), (r 4, .inl (zI g, 14, .inl (ai PT)))]) H → va_D A ([(r 0, .inr (4, [.int (iI ut), .int (iI uc), .int (iI la), .int (iI wo), .ref (r 1), .ref (r 2), .ref (r 3), .int (iI 0), .ref (r 4)])), (r 1, .inl (zJ g, 139264, .inr (.inl (lA (fun _ => 0))))), (r 2, .inl (zBt g, 12544, .inl (ai (nF (kalt (kalt (kalt (kalt KB 256 312) 330 376) 313 329) 377 (377 + 2 * i)))))), (r 3, .inl (zI g, 4, .inl (ai (fun _ => 0)))), (r 4, .inl (zI g, 14, .inl (ai PT)))]) → va_S A s.heap H locs → W p l e (headSpec w_MO_init { frames := 2, cells := 4, slots := 151826, locals := 44 }).room s m args below meth cd H locs 4 151826 Q (F0 m 290 ls []) := by
    intro fu
    induction fu with
    | zero => exact fun _ _ _ _ _ _ _ _ _ hfu _ _ _ _ _ _ _ _ => absurd hfu (Nat.not_lt_zero _)
    | succ fu ih =>
      intro r ut uc la wo i H locs ls hfu hl hr0 hmu hmc hi hP hD hS
      refine lv_iload_n hx hb d_MO_init_290 rfl (lv_at hl 1 rfl) ?_
      refine lv_sipush (v := iI 383) hx hb d_MO_init_291 (by decide) ?_
      refine ix_icmp_ge (tgt := 311) hx hb d_MO_init_294 (by decide) (by omega) (fun c_294 => ?_) (fun c_294 => ?_)
      · have hk9 : kalt (kalt (kalt (kalt KB 256 312) 330 376) 313 329) 377 (377 + 2 * i) = kalt (kalt (kalt (kalt KB 256 312) 330 376) 313 329) 377 383 := by congr 1; omega
        rw [hk9] at hP hD
        subst hQ
        exact W.vret hx hb hr (fun t h9 hW => ⟨⟨_, rfl, ⟨r, ut, uc, la, wo, hr0, hmu, hmc, rfl⟩, by rw [h9]; exact hP, va_K.moved hW.alike hK, hD⟩, hS.F h9⟩) hS.2.2 d_MO_init_311
      · refine lv_aload_n hx hb d_MO_init_297 rfl (lv_at hl 0 rfl) ?_
        refine va_get (D := g.1) (ci := 4) (v := .ref (r 2)) (C := R_MO) (T := F_MO) (N := 9) hx hb ht i_MO hown hK hP 0 rfl rfl 5 (by decide) (ht _ k_423) (fun _ h9 => h9) rfl d_MO_init_298 ?_
        refine lv_iload_n hx hb d_MO_init_301 rfl (lv_at hl 1 rfl) ?_
        refine lv_bipush (v := iI 6) hx hb d_MO_init_302 (by decide) ?_
        refine ix_bast hx hb hK hP hD hS 2 2 rfl rfl (i := (((377 + 2 * i : Nat) : Int))) (377 + 2 * i) (by omega) (by omega) d_MO_init_304 (fun H locs hP hD hS => ?_)
        have hP : va_P g.1 classes [(r 0, .inr (4, [.int (iI ut), .int (iI uc), .int (iI la), .int (iI wo), .ref (r 1), .ref (r 2), .ref (r 3), .int (iI 0), .ref (r 4)])), (r 1, .inl (zJ g, 139264, .inr (.inl (lA (fun _ => 0))))), (r 2, .inl (zBt g, 12544, .inl (ai (va_up (nF (kalt (kalt (kalt (kalt KB 256 312) 330 376) 313 329) 377 (377 + 2 * i))) (377 + 2 * i) 6)))), (r 3, .inl (zI g, 4, .inl (ai (fun _ => 0)))), (r 4, .inl (zI g, 14, .inl (ai PT)))] H := hP
        have hD : va_D A [(r 0, .inr (4, [.int (iI ut), .int (iI uc), .int (iI la), .int (iI wo), .ref (r 1), .ref (r 2), .ref (r 3), .int (iI 0), .ref (r 4)])), (r 1, .inl (zJ g, 139264, .inr (.inl (lA (fun _ => 0))))), (r 2, .inl (zBt g, 12544, .inl (ai (va_up (nF (kalt (kalt (kalt (kalt KB 256 312) 330 376) 313 329) 377 (377 + 2 * i))) (377 + 2 * i) 6)))), (r 3, .inl (zI g, 4, .inl (ai (fun _ => 0)))), (r 4, .inl (zI g, 14, .inl (ai PT)))] := hD
        refine lv_iinc (v := iI ((((377 + 2 * i : Nat) : Int)) + 2)) (lv' := [(2, .int (iI ((((377 + 2 * i : Nat) : Int)) + 2))), (0, .ref (r 0))]) hx hb d_MO_init_305 hl (k := 1) rfl (iI_add _ _) (by decide) rfl (fun ls hl => ?_)
        refine lv_goto (tgt := 290) hx hb d_MO_init_308 (by decide) ?_
        rw [ka_s _ _ _ (by omega) (by omega)] at hP hD
        exact ih r ut uc la wo (i + 1) _ _ ls (by omega) (lv_sub hl [1, 0] rfl) (by exact hr0) (by exact hmu) (by exact hmc) (by omega) hP hD hS
  have J265 : ∀ fu : Nat, ∀ (r : Nat → Nat) (ut uc la wo : Int) (i : Nat) (H : Heap) (locs : List Loc) (ls : Array Slot), 329 - 2 * i < fu → lv_has ls 3 [(0, .ref (r 0)), (2, .int (iI (((313 + 2 * i : Nat) : Int))))] → (r 0 = h) → (mdU md ut la wo) → (mdC md uc) → (313 + 2 * i ≤ 329) → va_P g.1 classes ([(r 0, .inr (4, [.int (iI ut), .int (iI uc), .int (iI la), .int (iI wo), .ref (r 1), .ref (r 2), .ref (r 3), .int (iI 0), .ref (r 4)])), (r 1, .inl (zJ g, 139264, .inr (.inl (lA (fun _ => 0))))), (r 2, .inl (zBt g, 12544, .inl (ai (nF (kalt (kalt (kalt KB 256 312) 330 376) 313 (313 + 2 * i)))))), (r 3, .inl (zI g, 4, .inl (ai (fun _ => 0)))), (r 4, .inl (zI g, 14, .inl (ai PT)))]) H → va_D A ([(r 0, .inr (4, [.int (iI ut), .int (iI uc), .int (iI la), .int (iI wo), .ref (r 1), .ref (r 2), .ref (r 3), .int (iI 0), .ref (r 4)])), (r 1, .inl (zJ g, 139264, .inr (.inl (lA (fun _ => 0))))), (r 2, .inl (zBt g, 12544, .inl (ai (nF (kalt (kalt (kalt KB 256 312) 330 376) 313 (313 + 2 * i)))))), (r 3, .inl (zI g, 4, .inl (ai (fun _ => 0)))), (r 4, .inl (zI g, 14, .inl (ai PT)))]) → va_S A s.heap H locs → W p l e (headSpec w_MO_init { frames := 2, cells := 4, slots := 151826, locals := 44 }).room s m args below meth cd H locs 4 151826 Q (F0 m 265 ls []) := by
    intro fu
    induction fu with
    | zero => exact fun _ _ _ _ _ _ _ _ _ hfu _ _ _ _ _ _ _ _ => absurd hfu (Nat.not_lt_zero _)
    | succ fu ih =>
      intro r ut uc la wo i H locs ls hfu hl hr0 hmu hmc hi hP hD hS
      refine lv_iload_n hx hb d_MO_init_265 rfl (lv_at hl 1 rfl) ?_
      refine lv_sipush (v := iI 329) hx hb d_MO_init_266 (by decide) ?_
      refine ix_icmp_ge (tgt := 286) hx hb d_MO_init_269 (by decide) (by omega) (fun c_269 => ?_) (fun c_269 => ?_)
      · have hk9 : kalt (kalt (kalt KB 256 312) 330 376) 313 (313 + 2 * i) = kalt (kalt (kalt KB 256 312) 330 376) 313 329 := by congr 1; omega
        rw [hk9] at hP hD
        refine lv_sipush (v := iI 377) hx hb d_MO_init_286 (by decide) ?_
        refine lv_istore_n (lv' := [(2, .int (iI 377)), (0, .ref (r 0))]) hx hb d_MO_init_289 rfl hl (by decide) rfl (fun ls hl => ?_)
        have hk0 : kalt (kalt (kalt (kalt KB 256 312) 330 376) 313 329) 377 (377 + 2 * 0) = (kalt (kalt (kalt KB 256 312) 330 376) 313 329) := ka_0 _ _
        have hP : va_P g.1 classes [(r 0, .inr (4, [.int (iI ut), .int (iI uc), .int (iI la), .int (iI wo), .ref (r 1), .ref (r 2), .ref (r 3), .int (iI 0), .ref (r 4)])), (r 1, .inl (zJ g, 139264, .inr (.inl (lA (fun _ => 0))))), (r 2, .inl (zBt g, 12544, .inl (ai (nF (kalt (kalt (kalt (kalt KB 256 312) 330 376) 313 329) 377 (377 + 2 * 0)))))), (r 3, .inl (zI g, 4, .inl (ai (fun _ => 0)))), (r 4, .inl (zI g, 14, .inl (ai PT)))] H := by rw [hk0]; exact hP
        have hD : va_D A [(r 0, .inr (4, [.int (iI ut), .int (iI uc), .int (iI la), .int (iI wo), .ref (r 1), .ref (r 2), .ref (r 3), .int (iI 0), .ref (r 4)])), (r 1, .inl (zJ g, 139264, .inr (.inl (lA (fun _ => 0))))), (r 2, .inl (zBt g, 12544, .inl (ai (nF (kalt (kalt (kalt (kalt KB 256 312) 330 376) 313 329) 377 (377 + 2 * 0)))))), (r 3, .inl (zI g, 4, .inl (ai (fun _ => 0)))), (r 4, .inl (zI g, 14, .inl (ai PT)))] := by rw [hk0]; exact hD
        exact J290 (_ + 1) r ut uc la wo 0 _ _ ls (Nat.lt_succ_self _) (lv_sub hl [1, 0] rfl) (by exact hr0) (by exact hmu) (by exact hmc) (by omega) hP hD hS
      · refine lv_aload_n hx hb d_MO_init_272 rfl (lv_at hl 0 rfl) ?_
        refine va_get (D := g.1) (ci := 4) (v := .ref (r 2)) (C := R_MO) (T := F_MO) (N := 9) hx hb ht i_MO hown hK hP 0 rfl rfl 5 (by decide) (ht _ k_423) (fun _ h9 => h9) rfl d_MO_init_273 ?_
        refine lv_iload_n hx hb d_MO_init_276 rfl (lv_at hl 1 rfl) ?_
        refine lv_bipush (v := iI 6) hx hb d_MO_init_277 (by decide) ?_
        refine ix_bast hx hb hK hP hD hS 2 2 rfl rfl (i := (((313 + 2 * i : Nat) : Int))) (313 + 2 * i) (by omega) (by omega) d_MO_init_279 (fun H locs hP hD hS => ?_)
        have hP : va_P g.1 classes [(r 0, .inr (4, [.int (iI ut), .int (iI uc), .int (iI la), .int (iI wo), .ref (r 1), .ref (r 2), .ref (r 3), .int (iI 0), .ref (r 4)])), (r 1, .inl (zJ g, 139264, .inr (.inl (lA (fun _ => 0))))), (r 2, .inl (zBt g, 12544, .inl (ai (va_up (nF (kalt (kalt (kalt KB 256 312) 330 376) 313 (313 + 2 * i))) (313 + 2 * i) 6)))), (r 3, .inl (zI g, 4, .inl (ai (fun _ => 0)))), (r 4, .inl (zI g, 14, .inl (ai PT)))] H := hP
        have hD : va_D A [(r 0, .inr (4, [.int (iI ut), .int (iI uc), .int (iI la), .int (iI wo), .ref (r 1), .ref (r 2), .ref (r 3), .int (iI 0), .ref (r 4)])), (r 1, .inl (zJ g, 139264, .inr (.inl (lA (fun _ => 0))))), (r 2, .inl (zBt g, 12544, .inl (ai (va_up (nF (kalt (kalt (kalt KB 256 312) 330 376) 313 (313 + 2 * i))) (313 + 2 * i) 6)))), (r 3, .inl (zI g, 4, .inl (ai (fun _ => 0)))), (r 4, .inl (zI g, 14, .inl (ai PT)))] := hD
        refine lv_iinc (v := iI ((((313 + 2 * i : Nat) : Int)) + 2)) (lv' := [(2, .int (iI ((((313 + 2 * i : Nat) : Int)) + 2))), (0, .ref (r 0))]) hx hb d_MO_init_280 hl (k := 1) rfl (iI_add _ _) (by decide) rfl (fun ls hl => ?_)
        refine lv_goto (tgt := 265) hx hb d_MO_init_283 (by decide) ?_
        rw [ka_s _ _ _ (by omega) (by omega)] at hP hD
        exact ih r ut uc la wo (i + 1) _ _ ls (by omega) (lv_sub hl [1, 0] rfl) (by exact hr0) (by exact hmu) (by exact hmc) (by omega) hP hD hS
  have J240 : ∀ fu : Nat, ∀ (r : Nat → Nat) (ut uc la wo : Int) (i : Nat) (H : Heap) (locs : List Loc) (ls : Array Slot), 376 - 2 * i < fu → lv_has ls 3 [(0, .ref (r 0)), (2, .int (iI (((330 + 2 * i : Nat) : Int))))] → (r 0 = h) → (mdU md ut la wo) → (mdC md uc) → (330 + 2 * i ≤ 376) → va_P g.1 classes ([(r 0, .inr (4, [.int (iI ut), .int (iI uc), .int (iI la), .int (iI wo), .ref (r 1), .ref (r 2), .ref (r 3), .int (iI 0), .ref (r 4)])), (r 1, .inl (zJ g, 139264, .inr (.inl (lA (fun _ => 0))))), (r 2, .inl (zBt g, 12544, .inl (ai (nF (kalt (kalt KB 256 312) 330 (330 + 2 * i)))))), (r 3, .inl (zI g, 4, .inl (ai (fun _ => 0)))), (r 4, .inl (zI g, 14, .inl (ai PT)))]) H → va_D A ([(r 0, .inr (4, [.int (iI ut), .int (iI uc), .int (iI la), .int (iI wo), .ref (r 1), .ref (r 2), .ref (r 3), .int (iI 0), .ref (r 4)])), (r 1, .inl (zJ g, 139264, .inr (.inl (lA (fun _ => 0))))), (r 2, .inl (zBt g, 12544, .inl (ai (nF (kalt (kalt KB 256 312) 330 (330 + 2 * i)))))), (r 3, .inl (zI g, 4, .inl (ai (fun _ => 0)))), (r 4, .inl (zI g, 14, .inl (ai PT)))]) → va_S A s.heap H locs → W p l e (headSpec w_MO_init { frames := 2, cells := 4, slots := 151826, locals := 44 }).room s m args below meth cd H locs 4 151826 Q (F0 m 240 ls []) := by
    intro fu
    induction fu with
    | zero => exact fun _ _ _ _ _ _ _ _ _ hfu _ _ _ _ _ _ _ _ => absurd hfu (Nat.not_lt_zero _)
    | succ fu ih =>
      intro r ut uc la wo i H locs ls hfu hl hr0 hmu hmc hi hP hD hS
      refine lv_iload_n hx hb d_MO_init_240 rfl (lv_at hl 1 rfl) ?_
      refine lv_sipush (v := iI 376) hx hb d_MO_init_241 (by decide) ?_
      refine ix_icmp_ge (tgt := 261) hx hb d_MO_init_244 (by decide) (by omega) (fun c_244 => ?_) (fun c_244 => ?_)
      · have hk9 : kalt (kalt KB 256 312) 330 (330 + 2 * i) = kalt (kalt KB 256 312) 330 376 := by congr 1; omega
        rw [hk9] at hP hD
        refine lv_sipush (v := iI 313) hx hb d_MO_init_261 (by decide) ?_
        refine lv_istore_n (lv' := [(2, .int (iI 313)), (0, .ref (r 0))]) hx hb d_MO_init_264 rfl hl (by decide) rfl (fun ls hl => ?_)
        have hk0 : kalt (kalt (kalt KB 256 312) 330 376) 313 (313 + 2 * 0) = (kalt (kalt KB 256 312) 330 376) := ka_0 _ _
        have hP : va_P g.1 classes [(r 0, .inr (4, [.int (iI ut), .int (iI uc), .int (iI la), .int (iI wo), .ref (r 1), .ref (r 2), .ref (r 3), .int (iI 0), .ref (r 4)])), (r 1, .inl (zJ g, 139264, .inr (.inl (lA (fun _ => 0))))), (r 2, .inl (zBt g, 12544, .inl (ai (nF (kalt (kalt (kalt KB 256 312) 330 376) 313 (313 + 2 * 0)))))), (r 3, .inl (zI g, 4, .inl (ai (fun _ => 0)))), (r 4, .inl (zI g, 14, .inl (ai PT)))] H := by rw [hk0]; exact hP
        have hD : va_D A [(r 0, .inr (4, [.int (iI ut), .int (iI uc), .int (iI la), .int (iI wo), .ref (r 1), .ref (r 2), .ref (r 3), .int (iI 0), .ref (r 4)])), (r 1, .inl (zJ g, 139264, .inr (.inl (lA (fun _ => 0))))), (r 2, .inl (zBt g, 12544, .inl (ai (nF (kalt (kalt (kalt KB 256 312) 330 376) 313 (313 + 2 * 0)))))), (r 3, .inl (zI g, 4, .inl (ai (fun _ => 0)))), (r 4, .inl (zI g, 14, .inl (ai PT)))] := by rw [hk0]; exact hD
        exact J265 (_ + 1) r ut uc la wo 0 _ _ ls (Nat.lt_succ_self _) (lv_sub hl [1, 0] rfl) (by exact hr0) (by exact hmu) (by exact hmc) (by omega) hP hD hS
      · refine lv_aload_n hx hb d_MO_init_247 rfl (lv_at hl 0 rfl) ?_
        refine va_get (D := g.1) (ci := 4) (v := .ref (r 2)) (C := R_MO) (T := F_MO) (N := 9) hx hb ht i_MO hown hK hP 0 rfl rfl 5 (by decide) (ht _ k_423) (fun _ h9 => h9) rfl d_MO_init_248 ?_
        refine lv_iload_n hx hb d_MO_init_251 rfl (lv_at hl 1 rfl) ?_
        refine lv_bipush (v := iI 6) hx hb d_MO_init_252 (by decide) ?_
        refine ix_bast hx hb hK hP hD hS 2 2 rfl rfl (i := (((330 + 2 * i : Nat) : Int))) (330 + 2 * i) (by omega) (by omega) d_MO_init_254 (fun H locs hP hD hS => ?_)
        have hP : va_P g.1 classes [(r 0, .inr (4, [.int (iI ut), .int (iI uc), .int (iI la), .int (iI wo), .ref (r 1), .ref (r 2), .ref (r 3), .int (iI 0), .ref (r 4)])), (r 1, .inl (zJ g, 139264, .inr (.inl (lA (fun _ => 0))))), (r 2, .inl (zBt g, 12544, .inl (ai (va_up (nF (kalt (kalt KB 256 312) 330 (330 + 2 * i))) (330 + 2 * i) 6)))), (r 3, .inl (zI g, 4, .inl (ai (fun _ => 0)))), (r 4, .inl (zI g, 14, .inl (ai PT)))] H := hP
        have hD : va_D A [(r 0, .inr (4, [.int (iI ut), .int (iI uc), .int (iI la), .int (iI wo), .ref (r 1), .ref (r 2), .ref (r 3), .int (iI 0), .ref (r 4)])), (r 1, .inl (zJ g, 139264, .inr (.inl (lA (fun _ => 0))))), (r 2, .inl (zBt g, 12544, .inl (ai (va_up (nF (kalt (kalt KB 256 312) 330 (330 + 2 * i))) (330 + 2 * i) 6)))), (r 3, .inl (zI g, 4, .inl (ai (fun _ => 0)))), (r 4, .inl (zI g, 14, .inl (ai PT)))] := hD
        refine lv_iinc (v := iI ((((330 + 2 * i : Nat) : Int)) + 2)) (lv' := [(2, .int (iI ((((330 + 2 * i : Nat) : Int)) + 2))), (0, .ref (r 0))]) hx hb d_MO_init_255 hl (k := 1) rfl (iI_add _ _) (by decide) rfl (fun ls hl => ?_)
        refine lv_goto (tgt := 240) hx hb d_MO_init_258 (by decide) ?_
        rw [ka_s _ _ _ (by omega) (by omega)] at hP hD
        exact ih r ut uc la wo (i + 1) _ _ ls (by omega) (lv_sub hl [1, 0] rfl) (by exact hr0) (by exact hmu) (by exact hmc) (by omega) hP hD hS
  have J208 : ∀ fu : Nat, ∀ (r : Nat → Nat) (ut uc la wo : Int) (i : Nat) (H : Heap) (locs : List Loc) (ls : Array Slot), 376 - 2 * i < fu → lv_has ls 3 [(0, .ref (r 0)), (2, .int (iI (((256 + 2 * i : Nat) : Int))))] → (r 0 = h) → (mdU md ut la wo) → (mdC md uc) → (256 + 2 * i ≤ 376) → va_P g.1 classes ([(r 0, .inr (4, [.int (iI ut), .int (iI uc), .int (iI la), .int (iI wo), .ref (r 1), .ref (r 2), .ref (r 3), .int (iI 0), .ref (r 4)])), (r 1, .inl (zJ g, 139264, .inr (.inl (lA (fun _ => 0))))), (r 2, .inl (zBt g, 12544, .inl (ai (nF (kalt KB 256 (min (256 + 2 * i) 312)))))), (r 3, .inl (zI g, 4, .inl (ai (fun _ => 0)))), (r 4, .inl (zI g, 14, .inl (ai PT)))]) H → va_D A ([(r 0, .inr (4, [.int (iI ut), .int (iI uc), .int (iI la), .int (iI wo), .ref (r 1), .ref (r 2), .ref (r 3), .int (iI 0), .ref (r 4)])), (r 1, .inl (zJ g, 139264, .inr (.inl (lA (fun _ => 0))))), (r 2, .inl (zBt g, 12544, .inl (ai (nF (kalt KB 256 (min (256 + 2 * i) 312)))))), (r 3, .inl (zI g, 4, .inl (ai (fun _ => 0)))), (r 4, .inl (zI g, 14, .inl (ai PT)))]) → va_S A s.heap H locs → W p l e (headSpec w_MO_init { frames := 2, cells := 4, slots := 151826, locals := 44 }).room s m args below meth cd H locs 4 151826 Q (F0 m 208 ls []) := by
    intro fu
    induction fu with
    | zero => exact fun _ _ _ _ _ _ _ _ _ hfu _ _ _ _ _ _ _ _ => absurd hfu (Nat.not_lt_zero _)
    | succ fu ih =>
      intro r ut uc la wo i H locs ls hfu hl hr0 hmu hmc hi hP hD hS
      refine lv_iload_n hx hb d_MO_init_208 rfl (lv_at hl 1 rfl) ?_
      refine lv_sipush (v := iI 376) hx hb d_MO_init_209 (by decide) ?_
      refine ix_icmp_ge (tgt := 236) hx hb d_MO_init_212 (by decide) (by omega) (fun c_212 => ?_) (fun c_212 => ?_)
      · have hk9 : kalt KB 256 (min (256 + 2 * i) 312) = kalt KB 256 312 := by congr 1; omega
        rw [hk9] at hP hD
        refine lv_sipush (v := iI 330) hx hb d_MO_init_236 (by decide) ?_
        refine lv_istore_n (lv' := [(2, .int (iI 330)), (0, .ref (r 0))]) hx hb d_MO_init_239 rfl hl (by decide) rfl (fun ls hl => ?_)
        have hk0 : kalt (kalt KB 256 312) 330 (330 + 2 * 0) = (kalt KB 256 312) := ka_0 _ _
        have hP : va_P g.1 classes [(r 0, .inr (4, [.int (iI ut), .int (iI uc), .int (iI la), .int (iI wo), .ref (r 1), .ref (r 2), .ref (r 3), .int (iI 0), .ref (r 4)])), (r 1, .inl (zJ g, 139264, .inr (.inl (lA (fun _ => 0))))), (r 2, .inl (zBt g, 12544, .inl (ai (nF (kalt (kalt KB 256 312) 330 (330 + 2 * 0)))))), (r 3, .inl (zI g, 4, .inl (ai (fun _ => 0)))), (r 4, .inl (zI g, 14, .inl (ai PT)))] H := by rw [hk0]; exact hP
        have hD : va_D A [(r 0, .inr (4, [.int (iI ut), .int (iI uc), .int (iI la), .int (iI wo), .ref (r 1), .ref (r 2), .ref (r 3), .int (iI 0), .ref (r 4)])), (r 1, .inl (zJ g, 139264, .inr (.inl (lA (fun _ => 0))))), (r 2, .inl (zBt g, 12544, .inl (ai (nF (kalt (kalt KB 256 312) 330 (330 + 2 * 0)))))), (r 3, .inl (zI g, 4, .inl (ai (fun _ => 0)))), (r 4, .inl (zI g, 14, .inl (ai PT)))] := by rw [hk0]; exact hD
        exact J240 (_ + 1) r ut uc la wo 0 _ _ ls (Nat.lt_succ_self _) (lv_sub hl [1, 0] rfl) (by exact hr0) (by exact hmu) (by exact hmc) (by omega) hP hD hS
      · refine lv_iload_n hx hb d_MO_init_215 rfl (lv_at hl 1 rfl) ?_
        refine lv_sipush (v := iI 312) hx hb d_MO_init_216 (by decide) ?_
        refine ix_icmp_ge (tgt := 230) hx hb d_MO_init_219 (by decide) (by omega) (fun c_219 => ?_) (fun c_219 => ?_)
        · refine lv_iinc (v := iI ((((256 + 2 * i : Nat) : Int)) + 2)) (lv' := [(2, .int (iI ((((256 + 2 * i : Nat) : Int)) + 2))), (0, .ref (r 0))]) hx hb d_MO_init_230 hl (k := 1) rfl (iI_add _ _) (by decide) rfl (fun ls hl => ?_)
          refine lv_goto (tgt := 208) hx hb d_MO_init_233 (by decide) ?_
          rw [show min (256 + 2 * i) 312 = min (256 + 2 * (i + 1)) 312 by omega] at hP hD
          exact ih r ut uc la wo (i + 1) _ _ ls (by omega) (lv_sub hl [1, 0] rfl) (by exact hr0) (by exact hmu) (by exact hmc) (by omega) hP hD hS
        · refine lv_aload_n hx hb d_MO_init_222 rfl (lv_at hl 0 rfl) ?_
          refine va_get (D := g.1) (ci := 4) (v := .ref (r 2)) (C := R_MO) (T := F_MO) (N := 9) hx hb ht i_MO hown hK hP 0 rfl rfl 5 (by decide) (ht _ k_423) (fun _ h9 => h9) rfl d_MO_init_223 ?_
          refine lv_iload_n hx hb d_MO_init_226 rfl (lv_at hl 1 rfl) ?_
          refine lv_bipush (v := iI 6) hx hb d_MO_init_227 (by decide) ?_
          refine ix_bast hx hb hK hP hD hS 2 2 rfl rfl (i := (((256 + 2 * i : Nat) : Int))) (256 + 2 * i) (by omega) (by omega) d_MO_init_229 (fun H locs hP hD hS => ?_)
          have hP : va_P g.1 classes [(r 0, .inr (4, [.int (iI ut), .int (iI uc), .int (iI la), .int (iI wo), .ref (r 1), .ref (r 2), .ref (r 3), .int (iI 0), .ref (r 4)])), (r 1, .inl (zJ g, 139264, .inr (.inl (lA (fun _ => 0))))), (r 2, .inl (zBt g, 12544, .inl (ai (va_up (nF (kalt KB 256 (min (256 + 2 * i) 312))) (256 + 2 * i) 6)))), (r 3, .inl (zI g, 4, .inl (ai (fun _ => 0)))), (r 4, .inl (zI g, 14, .inl (ai PT)))] H := hP
          have hD : va_D A [(r 0, .inr (4, [.int (iI ut), .int (iI uc), .int (iI la), .int (iI wo), .ref (r 1), .ref (r 2), .ref (r 3), .int (iI 0), .ref (r 4)])), (r 1, .inl (zJ g, 139264, .inr (.inl (lA (fun _ => 0))))), (r 2, .inl (zBt g, 12544, .inl (ai (va_up (nF (kalt KB 256 (min (256 + 2 * i) 312))) (256 + 2 * i) 6)))), (r 3, .inl (zI g, 4, .inl (ai (fun _ => 0)))), (r 4, .inl (zI g, 14, .inl (ai PT)))] := hD
          refine lv_iinc (v := iI ((((256 + 2 * i : Nat) : Int)) + 2)) (lv' := [(2, .int (iI ((((256 + 2 * i : Nat) : Int)) + 2))), (0, .ref (r 0))]) hx hb d_MO_init_230 hl (k := 1) rfl (iI_add _ _) (by decide) rfl (fun ls hl => ?_)
          refine lv_goto (tgt := 208) hx hb d_MO_init_233 (by decide) ?_
          rw [show min (256 + 2 * i) 312 = 256 + 2 * i by omega] at hP hD
          rw [ka_s _ _ _ (by omega) (by omega), show 256 + 2 * i + 2 = min (256 + 2 * (i + 1)) 312 by omega] at hP hD
          exact ih r ut uc la wo (i + 1) _ _ ls (by omega) (lv_sub hl [1, 0] rfl) (by exact hr0) (by exact hmu) (by exact hmc) (by omega) hP hD hS
  have J188 : ∀ (r : Nat → Nat) (ut uc la wo : Int) (H : Heap) (locs : List Loc) (ls : Array Slot), lv_has ls 3 [(0, .ref (r 0))] → (r 0 = h) → (mdU md ut la wo) → (mdC md uc) → va_P g.1 classes ([(r 0, .inr (4, [.int (iI ut), .int (iI uc), .int (iI la), .int (iI wo), .ref (r 1), .ref (r 2), .ref (r 3), .int (iI 0), .ref (r 4)])), (r 1, .inl (zJ g, 139264, .inr (.inl (lA (fun _ => 0))))), (r 2, .inl (zBt g, 12544, .inl (ai (nF ((fun _ => 0)))))), (r 3, .inl (zI g, 4, .inl (ai (fun _ => 0)))), (r 4, .inl (zI g, 14, .inl (ai PT)))]) H → va_D A ([(r 0, .inr (4, [.int (iI ut), .int (iI uc), .int (iI la), .int (iI wo), .ref (r 1), .ref (r 2), .ref (r 3), .int (iI 0), .ref (r 4)])), (r 1, .inl (zJ g, 139264, .inr (.inl (lA (fun _ => 0))))), (r 2, .inl (zBt g, 12544, .inl (ai (nF ((fun _ => 0)))))), (r 3, .inl (zI g, 4, .inl (ai (fun _ => 0)))), (r 4, .inl (zI g, 14, .inl (ai PT)))]) → va_S A s.heap H locs → W p l e (headSpec w_MO_init { frames := 2, cells := 4, slots := 151826, locals := 44 }).room s m args below meth cd H locs 4 151826 Q (F0 m 188 ls []) := by
    intro r ut uc la wo H locs ls hl hr0 hmu hmc hP hD hS
    refine lv_aload_n hx hb d_MO_init_188 rfl (lv_at hl 0 rfl) ?_
    have hF_189 := va_free (wc := [(r 0, .inr (4, [.int (iI ut), .int (iI uc), .int (iI la), .int (iI wo), .ref (r 1), .ref (r 2), .ref (r 3), .int (iI 0), .ref (r 4)])), (r 1, .inl (zJ g, 139264, .inr (.inl (lA (fun _ => 0))))), (r 2, .inl (zBt g, 12544, .inl (ai (nF ((fun _ => 0)))))), (r 3, .inl (zI g, 4, .inl (ai (fun _ => 0)))), (r 4, .inl (zI g, 14, .inl (ai PT)))]) hD hS hA [0, 1, 2, 3, 4] rfl
    refine zcVv (ci := 4) (q0 := 0) (As := []) (rest := []) ⟨hx, hb, hml, hown, ht⟩ v_MO_55 (c_MO_table0 l g H.size r ut uc la wo (fun _ => 0) (fun _ => 0) 0 (fun _ => 0)) ⟨Nat.le_of_ble_eq_true rfl, Nat.le_of_ble_eq_true rfl⟩ ⟨Nat.le_of_ble_eq_true rfl, Nat.le_of_ble_eq_true rfl⟩ hK hZ hS hP (hD.weaken (fun _ _ _ _ => trivial)) hF_189 zP_nil zAp_nil rfl rfl rfl rfl hl.1 rfl (Nat.le_of_ble_eq_true rfl) d_MO_init_189 (fun w_189 H locs h_189 pp_189 dd_189 zz_189 kk_189 hS => ?_)
    subst h_189
    have hP : va_P g.1 classes [(r 0, .inr (4, [.int (iI ut), .int (iI uc), .int (iI la), .int (iI wo), .ref (r 1), .ref (r 2), .ref (r 3), .int (iI 0), .ref (r 4)])), (r 1, .inl (zJ g, 139264, .inr (.inl (lA (fun _ => 0))))), (r 2, .inl (zBt g, 12544, .inl (ai (nF ((kfold K0 (fun _ => 0))))))), (r 3, .inl (zI g, 4, .inl (ai (fun _ => 0)))), (r 4, .inl (zI g, 14, .inl (ai PT)))] H := pp_189
    have hD : va_D A [(r 0, .inr (4, [.int (iI ut), .int (iI uc), .int (iI la), .int (iI wo), .ref (r 1), .ref (r 2), .ref (r 3), .int (iI 0), .ref (r 4)])), (r 1, .inl (zJ g, 139264, .inr (.inl (lA (fun _ => 0))))), (r 2, .inl (zBt g, 12544, .inl (ai (nF ((kfold K0 (fun _ => 0))))))), (r 3, .inl (zI g, 4, .inl (ai (fun _ => 0)))), (r 4, .inl (zI g, 14, .inl (ai PT)))] := dd_189.weaken (fun _ _ _ h9 => hF_189 _ h9)
    refine lv_aload_n hx hb d_MO_init_192 rfl (lv_at hl 0 rfl) ?_
    have hF_193 := va_free (wc := [(r 0, .inr (4, [.int (iI ut), .int (iI uc), .int (iI la), .int (iI wo), .ref (r 1), .ref (r 2), .ref (r 3), .int (iI 0), .ref (r 4)])), (r 1, .inl (zJ g, 139264, .inr (.inl (lA (fun _ => 0))))), (r 2, .inl (zBt g, 12544, .inl (ai (nF ((kfold K0 (fun _ => 0))))))), (r 3, .inl (zI g, 4, .inl (ai (fun _ => 0)))), (r 4, .inl (zI g, 14, .inl (ai PT)))]) hD hS hA [0, 1, 2, 3, 4] rfl
    refine zcVv (ci := 4) (q0 := 0) (As := []) (rest := []) ⟨hx, hb, hml, hown, ht⟩ v_MO_58 (c_MO_table1 l g H.size r ut uc la wo (fun _ => 0) (fun _ => 0) 0 (kfold K0 (fun _ => 0))) ⟨Nat.le_of_ble_eq_true rfl, Nat.le_of_ble_eq_true rfl⟩ ⟨Nat.le_of_ble_eq_true rfl, Nat.le_of_ble_eq_true rfl⟩ hK hZ hS hP (hD.weaken (fun _ _ _ _ => trivial)) hF_193 zP_nil zAp_nil rfl rfl rfl rfl hl.1 rfl (Nat.le_of_ble_eq_true rfl) d_MO_init_193 (fun w_193 H locs h_193 pp_193 dd_193 zz_193 kk_193 hS => ?_)
    subst h_193
    have hP : va_P g.1 classes [(r 0, .inr (4, [.int (iI ut), .int (iI uc), .int (iI la), .int (iI wo), .ref (r 1), .ref (r 2), .ref (r 3), .int (iI 0), .ref (r 4)])), (r 1, .inl (zJ g, 139264, .inr (.inl (lA (fun _ => 0))))), (r 2, .inl (zBt g, 12544, .inl (ai (nF ((kfold K1 (kfold K0 (fun _ => 0)))))))), (r 3, .inl (zI g, 4, .inl (ai (fun _ => 0)))), (r 4, .inl (zI g, 14, .inl (ai PT)))] H := pp_193
    have hD : va_D A [(r 0, .inr (4, [.int (iI ut), .int (iI uc), .int (iI la), .int (iI wo), .ref (r 1), .ref (r 2), .ref (r 3), .int (iI 0), .ref (r 4)])), (r 1, .inl (zJ g, 139264, .inr (.inl (lA (fun _ => 0))))), (r 2, .inl (zBt g, 12544, .inl (ai (nF ((kfold K1 (kfold K0 (fun _ => 0)))))))), (r 3, .inl (zI g, 4, .inl (ai (fun _ => 0)))), (r 4, .inl (zI g, 14, .inl (ai PT)))] := dd_193.weaken (fun _ _ _ h9 => hF_193 _ h9)
    refine lv_aload_n hx hb d_MO_init_196 rfl (lv_at hl 0 rfl) ?_
    have hF_197 := va_free (wc := [(r 0, .inr (4, [.int (iI ut), .int (iI uc), .int (iI la), .int (iI wo), .ref (r 1), .ref (r 2), .ref (r 3), .int (iI 0), .ref (r 4)])), (r 1, .inl (zJ g, 139264, .inr (.inl (lA (fun _ => 0))))), (r 2, .inl (zBt g, 12544, .inl (ai (nF ((kfold K1 (kfold K0 (fun _ => 0)))))))), (r 3, .inl (zI g, 4, .inl (ai (fun _ => 0)))), (r 4, .inl (zI g, 14, .inl (ai PT)))]) hD hS hA [0, 1, 2, 3, 4] rfl
    refine zcVv (ci := 4) (q0 := 0) (As := []) (rest := []) ⟨hx, hb, hml, hown, ht⟩ v_MO_61 (c_MO_table2 l g H.size r ut uc la wo (fun _ => 0) (fun _ => 0) 0 (kfold K1 (kfold K0 (fun _ => 0)))) ⟨Nat.le_of_ble_eq_true rfl, Nat.le_of_ble_eq_true rfl⟩ ⟨Nat.le_of_ble_eq_true rfl, Nat.le_of_ble_eq_true rfl⟩ hK hZ hS hP (hD.weaken (fun _ _ _ _ => trivial)) hF_197 zP_nil zAp_nil rfl rfl rfl rfl hl.1 rfl (Nat.le_of_ble_eq_true rfl) d_MO_init_197 (fun w_197 H locs h_197 pp_197 dd_197 zz_197 kk_197 hS => ?_)
    subst h_197
    have hP : va_P g.1 classes [(r 0, .inr (4, [.int (iI ut), .int (iI uc), .int (iI la), .int (iI wo), .ref (r 1), .ref (r 2), .ref (r 3), .int (iI 0), .ref (r 4)])), (r 1, .inl (zJ g, 139264, .inr (.inl (lA (fun _ => 0))))), (r 2, .inl (zBt g, 12544, .inl (ai (nF ((kfold K2 (kfold K1 (kfold K0 (fun _ => 0))))))))), (r 3, .inl (zI g, 4, .inl (ai (fun _ => 0)))), (r 4, .inl (zI g, 14, .inl (ai PT)))] H := pp_197
    have hD : va_D A [(r 0, .inr (4, [.int (iI ut), .int (iI uc), .int (iI la), .int (iI wo), .ref (r 1), .ref (r 2), .ref (r 3), .int (iI 0), .ref (r 4)])), (r 1, .inl (zJ g, 139264, .inr (.inl (lA (fun _ => 0))))), (r 2, .inl (zBt g, 12544, .inl (ai (nF ((kfold K2 (kfold K1 (kfold K0 (fun _ => 0))))))))), (r 3, .inl (zI g, 4, .inl (ai (fun _ => 0)))), (r 4, .inl (zI g, 14, .inl (ai PT)))] := dd_197.weaken (fun _ _ _ h9 => hF_197 _ h9)
    refine lv_aload_n hx hb d_MO_init_200 rfl (lv_at hl 0 rfl) ?_
    have hF_201 := va_free (wc := [(r 0, .inr (4, [.int (iI ut), .int (iI uc), .int (iI la), .int (iI wo), .ref (r 1), .ref (r 2), .ref (r 3), .int (iI 0), .ref (r 4)])), (r 1, .inl (zJ g, 139264, .inr (.inl (lA (fun _ => 0))))), (r 2, .inl (zBt g, 12544, .inl (ai (nF ((kfold K2 (kfold K1 (kfold K0 (fun _ => 0))))))))), (r 3, .inl (zI g, 4, .inl (ai (fun _ => 0)))), (r 4, .inl (zI g, 14, .inl (ai PT)))]) hD hS hA [0, 1, 2, 3, 4] rfl
    refine zcVv (ci := 4) (q0 := 0) (As := []) (rest := []) ⟨hx, hb, hml, hown, ht⟩ v_MO_64 (c_MO_table3 l g H.size r ut uc la wo (fun _ => 0) (fun _ => 0) 0 (kfold K2 (kfold K1 (kfold K0 (fun _ => 0))))) ⟨Nat.le_of_ble_eq_true rfl, Nat.le_of_ble_eq_true rfl⟩ ⟨Nat.le_of_ble_eq_true rfl, Nat.le_of_ble_eq_true rfl⟩ hK hZ hS hP (hD.weaken (fun _ _ _ _ => trivial)) hF_201 zP_nil zAp_nil rfl rfl rfl rfl hl.1 rfl (Nat.le_of_ble_eq_true rfl) d_MO_init_201 (fun w_201 H locs h_201 pp_201 dd_201 zz_201 kk_201 hS => ?_)
    subst h_201
    have hP : va_P g.1 classes [(r 0, .inr (4, [.int (iI ut), .int (iI uc), .int (iI la), .int (iI wo), .ref (r 1), .ref (r 2), .ref (r 3), .int (iI 0), .ref (r 4)])), (r 1, .inl (zJ g, 139264, .inr (.inl (lA (fun _ => 0))))), (r 2, .inl (zBt g, 12544, .inl (ai (nF ((kfold K3 (kfold K2 (kfold K1 (kfold K0 (fun _ => 0)))))))))), (r 3, .inl (zI g, 4, .inl (ai (fun _ => 0)))), (r 4, .inl (zI g, 14, .inl (ai PT)))] H := pp_201
    have hD : va_D A [(r 0, .inr (4, [.int (iI ut), .int (iI uc), .int (iI la), .int (iI wo), .ref (r 1), .ref (r 2), .ref (r 3), .int (iI 0), .ref (r 4)])), (r 1, .inl (zJ g, 139264, .inr (.inl (lA (fun _ => 0))))), (r 2, .inl (zBt g, 12544, .inl (ai (nF ((kfold K3 (kfold K2 (kfold K1 (kfold K0 (fun _ => 0)))))))))), (r 3, .inl (zI g, 4, .inl (ai (fun _ => 0)))), (r 4, .inl (zI g, 14, .inl (ai PT)))] := dd_201.weaken (fun _ _ _ h9 => hF_201 _ h9)
    refine lv_sipush (v := iI 256) hx hb d_MO_init_204 (by decide) ?_
    refine lv_istore_n (lv' := [(2, .int (iI 256)), (0, .ref (r 0))]) hx hb d_MO_init_207 rfl hl (by decide) rfl (fun ls hl => ?_)
    have hk0 : kalt KB 256 (min (256 + 2 * 0) 312) = KB := ka_0 _ _
    have hP : va_P g.1 classes [(r 0, .inr (4, [.int (iI ut), .int (iI uc), .int (iI la), .int (iI wo), .ref (r 1), .ref (r 2), .ref (r 3), .int (iI 0), .ref (r 4)])), (r 1, .inl (zJ g, 139264, .inr (.inl (lA (fun _ => 0))))), (r 2, .inl (zBt g, 12544, .inl (ai (nF (kalt KB 256 (min (256 + 2 * 0) 312)))))), (r 3, .inl (zI g, 4, .inl (ai (fun _ => 0)))), (r 4, .inl (zI g, 14, .inl (ai PT)))] H := by rw [hk0]; exact hP
    have hD : va_D A [(r 0, .inr (4, [.int (iI ut), .int (iI uc), .int (iI la), .int (iI wo), .ref (r 1), .ref (r 2), .ref (r 3), .int (iI 0), .ref (r 4)])), (r 1, .inl (zJ g, 139264, .inr (.inl (lA (fun _ => 0))))), (r 2, .inl (zBt g, 12544, .inl (ai (nF (kalt KB 256 (min (256 + 2 * 0) 312)))))), (r 3, .inl (zI g, 4, .inl (ai (fun _ => 0)))), (r 4, .inl (zI g, 14, .inl (ai PT)))] := by rw [hk0]; exact hD
    exact J208 (_ + 1) r ut uc la wo 0 _ _ ls (Nat.lt_succ_self _) (lv_sub hl [1, 0] rfl) (by exact hr0) (by exact hmu) (by exact hmc) (by omega) hP hD hS
  refine lv_aload_n hx hb d_MO_init_0 rfl (lv_at hl 0 rfl) ?_
  refine W.objInit hx hb hown (ht _ k_383) (ht _ k_14) (ht _ k_15) rfl (by rw [hml]; exact hl.1) rfl d_MO_init_1 (Nat.le_of_ble_eq_true rfl) (Nat.le_of_ble_eq_true rfl) ?_
  refine W.eq (g2 := F0 m 4 ls []) rfl ?_
  refine lv_aload_n hx hb d_MO_init_4 rfl (lv_at hl 0 rfl) ?_
  refine lv_ldc (v := iI 139264) hx hb hown (ht _ k_384) d_MO_init_5 ?_
  refine ix_newa (atype := .long) hx hb (ht _ k_446) rfl hK hP hD hS hA 1 rfl (N' := 139264) (a0 := (139264, .inr (.inl (fun _ => 0)))) (fun _ => rfl) (by omega) (by decide) (Nat.le_of_ble_eq_true rfl) (Nat.le_of_ble_eq_true rfl) d_MO_init_7 (fun q7 H hP hD hS => ?_)
  rw [la_0] at hP hD
  have hP : va_P g.1 classes [(h, .inr (4, [.int (iI y0), .int (iI y1), .int (iI y2), .int (iI y3), .null, .null, .null, .int (iI y7), .null])), (q7, .inl (zJ g, 139264, .inr (.inl (lA (fun _ => 0)))))] H := hP
  have hD : va_D A [(h, .inr (4, [.int (iI y0), .int (iI y1), .int (iI y2), .int (iI y3), .null, .null, .null, .int (iI y7), .null])), (q7, .inl (zJ g, 139264, .inr (.inl (lA (fun _ => 0)))))] := hD
  refine va_putF (D := g.1) (ci := 4) (v := .ref q7) (ty := .array .long) (C := R_MO) (T := F_MO) (N := 9) hx hb ht i_MO t_MO t_MO_ok n_MO hown hK hP hD hS 0 rfl rfl 4 (by decide) (ht _ k_422) (fun _ h9 => h9) rfl hin rfl (by decide +kernel) rfl rfl (Nat.le_of_ble_eq_true rfl) d_MO_init_9 (fun H locs hP hD hS => ?_)
  have hP : va_P g.1 classes [(h, .inr (4, [.int (iI y0), .int (iI y1), .int (iI y2), .int (iI y3), .ref q7, .null, .null, .int (iI y7), .null])), (q7, .inl (zJ g, 139264, .inr (.inl (lA (fun _ => 0)))))] H := hP
  have hD : va_D A [(h, .inr (4, [.int (iI y0), .int (iI y1), .int (iI y2), .int (iI y3), .ref q7, .null, .null, .int (iI y7), .null])), (q7, .inl (zJ g, 139264, .inr (.inl (lA (fun _ => 0)))))] := hD
  refine lv_aload_n hx hb d_MO_init_12 rfl (lv_at hl 0 rfl) ?_
  refine lv_sipush (v := iI 12544) hx hb d_MO_init_13 (by decide) ?_
  refine ix_newa (atype := .byte) hx hb (ht _ k_447) rfl hK hP hD hS hA 2 rfl (N' := 12544) (a0 := (12544, .inl (fun _ => 0))) (fun _ => rfl) (by omega) (by decide) (Nat.le_of_ble_eq_true rfl) (Nat.le_of_ble_eq_true rfl) d_MO_init_16 (fun q16 H hP hD hS => ?_)
  rw [ai_0] at hP hD
  have hP : va_P g.1 classes [(h, .inr (4, [.int (iI y0), .int (iI y1), .int (iI y2), .int (iI y3), .ref q7, .null, .null, .int (iI y7), .null])), (q7, .inl (zJ g, 139264, .inr (.inl (lA (fun _ => 0))))), (q16, .inl (zBt g, 12544, .inl (ai (fun _ => 0))))] H := hP
  have hD : va_D A [(h, .inr (4, [.int (iI y0), .int (iI y1), .int (iI y2), .int (iI y3), .ref q7, .null, .null, .int (iI y7), .null])), (q7, .inl (zJ g, 139264, .inr (.inl (lA (fun _ => 0))))), (q16, .inl (zBt g, 12544, .inl (ai (fun _ => 0))))] := hD
  refine va_putF (D := g.1) (ci := 4) (v := .ref q16) (ty := .array .byte) (C := R_MO) (T := F_MO) (N := 9) hx hb ht i_MO t_MO t_MO_ok n_MO hown hK hP hD hS 0 rfl rfl 5 (by decide) (ht _ k_423) (fun _ h9 => h9) rfl hin rfl (by decide +kernel) rfl rfl (Nat.le_of_ble_eq_true rfl) d_MO_init_18 (fun H locs hP hD hS => ?_)
  have hP : va_P g.1 classes [(h, .inr (4, [.int (iI y0), .int (iI y1), .int (iI y2), .int (iI y3), .ref q7, .ref q16, .null, .int (iI y7), .null])), (q7, .inl (zJ g, 139264, .inr (.inl (lA (fun _ => 0))))), (q16, .inl (zBt g, 12544, .inl (ai (fun _ => 0))))] H := hP
  have hD : va_D A [(h, .inr (4, [.int (iI y0), .int (iI y1), .int (iI y2), .int (iI y3), .ref q7, .ref q16, .null, .int (iI y7), .null])), (q7, .inl (zJ g, 139264, .inr (.inl (lA (fun _ => 0))))), (q16, .inl (zBt g, 12544, .inl (ai (fun _ => 0))))] := hD
  refine lv_aload_n hx hb d_MO_init_21 rfl (lv_at hl 0 rfl) ?_
  refine lv_iconst (v := iI 4) hx hb d_MO_init_22 rfl ?_
  refine ix_newa (atype := .int) hx hb (ht _ k_51) rfl hK hP hD hS hA 0 rfl (N' := 4) (a0 := (4, .inl (fun _ => 0))) (fun _ => rfl) (by omega) (by decide) (Nat.le_of_ble_eq_true rfl) (Nat.le_of_ble_eq_true rfl) d_MO_init_23 (fun q23 H hP hD hS => ?_)
  rw [ai_0] at hP hD
  have hP : va_P g.1 classes [(h, .inr (4, [.int (iI y0), .int (iI y1), .int (iI y2), .int (iI y3), .ref q7, .ref q16, .null, .int (iI y7), .null])), (q7, .inl (zJ g, 139264, .inr (.inl (lA (fun _ => 0))))), (q16, .inl (zBt g, 12544, .inl (ai (fun _ => 0)))), (q23, .inl (zI g, 4, .inl (ai (fun _ => 0))))] H := hP
  have hD : va_D A [(h, .inr (4, [.int (iI y0), .int (iI y1), .int (iI y2), .int (iI y3), .ref q7, .ref q16, .null, .int (iI y7), .null])), (q7, .inl (zJ g, 139264, .inr (.inl (lA (fun _ => 0))))), (q16, .inl (zBt g, 12544, .inl (ai (fun _ => 0)))), (q23, .inl (zI g, 4, .inl (ai (fun _ => 0))))] := hD
  refine va_putF (D := g.1) (ci := 4) (v := .ref q23) (ty := .array .int) (C := R_MO) (T := F_MO) (N := 9) hx hb ht i_MO t_MO t_MO_ok n_MO hown hK hP hD hS 0 rfl rfl 6 (by decide) (ht _ k_424) (fun _ h9 => h9) rfl hin rfl (by decide +kernel) rfl rfl (Nat.le_of_ble_eq_true rfl) d_MO_init_25 (fun H locs hP hD hS => ?_)
  have hP : va_P g.1 classes [(h, .inr (4, [.int (iI y0), .int (iI y1), .int (iI y2), .int (iI y3), .ref q7, .ref q16, .ref q23, .int (iI y7), .null])), (q7, .inl (zJ g, 139264, .inr (.inl (lA (fun _ => 0))))), (q16, .inl (zBt g, 12544, .inl (ai (fun _ => 0)))), (q23, .inl (zI g, 4, .inl (ai (fun _ => 0))))] H := hP
  have hD : va_D A [(h, .inr (4, [.int (iI y0), .int (iI y1), .int (iI y2), .int (iI y3), .ref q7, .ref q16, .ref q23, .int (iI y7), .null])), (q7, .inl (zJ g, 139264, .inr (.inl (lA (fun _ => 0))))), (q16, .inl (zBt g, 12544, .inl (ai (fun _ => 0)))), (q23, .inl (zI g, 4, .inl (ai (fun _ => 0))))] := hD
  refine lv_aload_n hx hb d_MO_init_28 rfl (lv_at hl 0 rfl) ?_
  refine lv_iconst (v := iI 0) hx hb d_MO_init_29 rfl ?_
  refine va_put (D := g.1) (ci := 4) (v := .int (iI 0)) (ty := .int) (C := R_MO) (T := F_MO) (N := 9) hx hb ht i_MO t_MO t_MO_ok n_MO hown hK hP hD hS 0 rfl rfl 7 (by decide) (ht _ k_425) (fun _ h9 => h9) rfl (by decide +kernel) rfl rfl (Nat.le_of_ble_eq_true rfl) d_MO_init_30 (fun H locs hP hD hS => ?_)
  have hP : va_P g.1 classes [(h, .inr (4, [.int (iI y0), .int (iI y1), .int (iI y2), .int (iI y3), .ref q7, .ref q16, .ref q23, .int (iI 0), .null])), (q7, .inl (zJ g, 139264, .inr (.inl (lA (fun _ => 0))))), (q16, .inl (zBt g, 12544, .inl (ai (fun _ => 0)))), (q23, .inl (zI g, 4, .inl (ai (fun _ => 0))))] H := hP
  have hD : va_D A [(h, .inr (4, [.int (iI y0), .int (iI y1), .int (iI y2), .int (iI y3), .ref q7, .ref q16, .ref q23, .int (iI 0), .null])), (q7, .inl (zJ g, 139264, .inr (.inl (lA (fun _ => 0))))), (q16, .inl (zBt g, 12544, .inl (ai (fun _ => 0)))), (q23, .inl (zI g, 4, .inl (ai (fun _ => 0))))] := hD
  refine lv_aload_n hx hb d_MO_init_33 rfl (lv_at hl 0 rfl) ?_
  refine lv_bipush (v := iI 14) hx hb d_MO_init_34 (by decide) ?_
  refine ix_newa (atype := .int) hx hb (ht _ k_51) rfl hK hP hD hS hA 0 rfl (N' := 14) (a0 := (14, .inl (fun _ => 0))) (fun _ => rfl) (by omega) (by decide) (Nat.le_of_ble_eq_true rfl) (Nat.le_of_ble_eq_true rfl) d_MO_init_36 (fun q36 H hP hD hS => ?_)
  rw [ai_0] at hP hD
  have hP : va_P g.1 classes [(h, .inr (4, [.int (iI y0), .int (iI y1), .int (iI y2), .int (iI y3), .ref q7, .ref q16, .ref q23, .int (iI 0), .null])), (q7, .inl (zJ g, 139264, .inr (.inl (lA (fun _ => 0))))), (q16, .inl (zBt g, 12544, .inl (ai (fun _ => 0)))), (q23, .inl (zI g, 4, .inl (ai (fun _ => 0)))), (q36, .inl (zI g, 14, .inl (ai (fun _ => 0))))] H := hP
  have hD : va_D A [(h, .inr (4, [.int (iI y0), .int (iI y1), .int (iI y2), .int (iI y3), .ref q7, .ref q16, .ref q23, .int (iI 0), .null])), (q7, .inl (zJ g, 139264, .inr (.inl (lA (fun _ => 0))))), (q16, .inl (zBt g, 12544, .inl (ai (fun _ => 0)))), (q23, .inl (zI g, 4, .inl (ai (fun _ => 0)))), (q36, .inl (zI g, 14, .inl (ai (fun _ => 0))))] := hD
  refine lv_dup hx hb d_MO_init_38 rfl ?_
  refine lv_iconst (v := iI 0) hx hb d_MO_init_39 rfl ?_
  refine lv_sipush (v := iI 12544) hx hb d_MO_init_40 (by decide) ?_
  refine ix_iast hx hb hK hP hD hS 4 0 rfl rfl (i := 0) 0 (by omega) d_MO_init_43 (fun H locs hP hD hS => ?_)
  have hP : va_P g.1 classes [(h, .inr (4, [.int (iI y0), .int (iI y1), .int (iI y2), .int (iI y3), .ref q7, .ref q16, .ref q23, .int (iI 0), .null])), (q7, .inl (zJ g, 139264, .inr (.inl (lA (fun _ => 0))))), (q16, .inl (zBt g, 12544, .inl (ai (fun _ => 0)))), (q23, .inl (zI g, 4, .inl (ai (fun _ => 0)))), (q36, .inl (zI g, 14, .inl (ai (va_up (fun _ => 0) 0 12544))))] H := hP
  have hD : va_D A [(h, .inr (4, [.int (iI y0), .int (iI y1), .int (iI y2), .int (iI y3), .ref q7, .ref q16, .ref q23, .int (iI 0), .null])), (q7, .inl (zJ g, 139264, .inr (.inl (lA (fun _ => 0))))), (q16, .inl (zBt g, 12544, .inl (ai (fun _ => 0)))), (q23, .inl (zI g, 4, .inl (ai (fun _ => 0)))), (q36, .inl (zI g, 14, .inl (ai (va_up (fun _ => 0) 0 12544))))] := hD
  refine lv_dup hx hb d_MO_init_44 rfl ?_
  refine lv_iconst (v := iI 1) hx hb d_MO_init_45 rfl ?_
  refine lv_sipush (v := iI 19968) hx hb d_MO_init_46 (by decide) ?_
  refine ix_iast hx hb hK hP hD hS 4 0 rfl rfl (i := 1) 1 (by omega) d_MO_init_49 (fun H locs hP hD hS => ?_)
  have hP : va_P g.1 classes [(h, .inr (4, [.int (iI y0), .int (iI y1), .int (iI y2), .int (iI y3), .ref q7, .ref q16, .ref q23, .int (iI 0), .null])), (q7, .inl (zJ g, 139264, .inr (.inl (lA (fun _ => 0))))), (q16, .inl (zBt g, 12544, .inl (ai (fun _ => 0)))), (q23, .inl (zI g, 4, .inl (ai (fun _ => 0)))), (q36, .inl (zI g, 14, .inl (ai (va_up (va_up (fun _ => 0) 0 12544) 1 19968))))] H := hP
  have hD : va_D A [(h, .inr (4, [.int (iI y0), .int (iI y1), .int (iI y2), .int (iI y3), .ref q7, .ref q16, .ref q23, .int (iI 0), .null])), (q7, .inl (zJ g, 139264, .inr (.inl (lA (fun _ => 0))))), (q16, .inl (zBt g, 12544, .inl (ai (fun _ => 0)))), (q23, .inl (zI g, 4, .inl (ai (fun _ => 0)))), (q36, .inl (zI g, 14, .inl (ai (va_up (va_up (fun _ => 0) 0 12544) 1 19968))))] := hD
  refine lv_dup hx hb d_MO_init_50 rfl ?_
  refine lv_iconst (v := iI 2) hx hb d_MO_init_51 rfl ?_
  refine lv_ldc (v := iI 40960) hx hb hown (ht _ k_385) d_MO_init_52 ?_
  refine ix_iast hx hb hK hP hD hS 4 0 rfl rfl (i := 2) 2 (by omega) d_MO_init_54 (fun H locs hP hD hS => ?_)
  have hP : va_P g.1 classes [(h, .inr (4, [.int (iI y0), .int (iI y1), .int (iI y2), .int (iI y3), .ref q7, .ref q16, .ref q23, .int (iI 0), .null])), (q7, .inl (zJ g, 139264, .inr (.inl (lA (fun _ => 0))))), (q16, .inl (zBt g, 12544, .inl (ai (fun _ => 0)))), (q23, .inl (zI g, 4, .inl (ai (fun _ => 0)))), (q36, .inl (zI g, 14, .inl (ai (va_up (va_up (va_up (fun _ => 0) 0 12544) 1 19968) 2 40960))))] H := hP
  have hD : va_D A [(h, .inr (4, [.int (iI y0), .int (iI y1), .int (iI y2), .int (iI y3), .ref q7, .ref q16, .ref q23, .int (iI 0), .null])), (q7, .inl (zJ g, 139264, .inr (.inl (lA (fun _ => 0))))), (q16, .inl (zBt g, 12544, .inl (ai (fun _ => 0)))), (q23, .inl (zI g, 4, .inl (ai (fun _ => 0)))), (q36, .inl (zI g, 14, .inl (ai (va_up (va_up (va_up (fun _ => 0) 0 12544) 1 19968) 2 40960))))] := hD
  refine lv_dup hx hb d_MO_init_55 rfl ?_
  refine lv_iconst (v := iI 3) hx hb d_MO_init_56 rfl ?_
  refine lv_ldc (v := iI 44032) hx hb hown (ht _ k_386) d_MO_init_57 ?_
  refine ix_iast hx hb hK hP hD hS 4 0 rfl rfl (i := 3) 3 (by omega) d_MO_init_59 (fun H locs hP hD hS => ?_)
  have hP : va_P g.1 classes [(h, .inr (4, [.int (iI y0), .int (iI y1), .int (iI y2), .int (iI y3), .ref q7, .ref q16, .ref q23, .int (iI 0), .null])), (q7, .inl (zJ g, 139264, .inr (.inl (lA (fun _ => 0))))), (q16, .inl (zBt g, 12544, .inl (ai (fun _ => 0)))), (q23, .inl (zI g, 4, .inl (ai (fun _ => 0)))), (q36, .inl (zI g, 14, .inl (ai (va_up (va_up (va_up (va_up (fun _ => 0) 0 12544) 1 19968) 2 40960) 3 44032))))] H := hP
  have hD : va_D A [(h, .inr (4, [.int (iI y0), .int (iI y1), .int (iI y2), .int (iI y3), .ref q7, .ref q16, .ref q23, .int (iI 0), .null])), (q7, .inl (zJ g, 139264, .inr (.inl (lA (fun _ => 0))))), (q16, .inl (zBt g, 12544, .inl (ai (fun _ => 0)))), (q23, .inl (zI g, 4, .inl (ai (fun _ => 0)))), (q36, .inl (zI g, 14, .inl (ai (va_up (va_up (va_up (va_up (fun _ => 0) 0 12544) 1 19968) 2 40960) 3 44032))))] := hD
  refine lv_dup hx hb d_MO_init_60 rfl ?_
  refine lv_iconst (v := iI 4) hx hb d_MO_init_61 rfl ?_
  refine lv_ldc (v := iI 55204) hx hb hown (ht _ k_387) d_MO_init_62 ?_
  refine ix_iast hx hb hK hP hD hS 4 0 rfl rfl (i := 4) 4 (by omega) d_MO_init_64 (fun H locs hP hD hS => ?_)
  have hP : va_P g.1 classes [(h, .inr (4, [.int (iI y0), .int (iI y1), .int (iI y2), .int (iI y3), .ref q7, .ref q16, .ref q23, .int (iI 0), .null])), (q7, .inl (zJ g, 139264, .inr (.inl (lA (fun _ => 0))))), (q16, .inl (zBt g, 12544, .inl (ai (fun _ => 0)))), (q23, .inl (zI g, 4, .inl (ai (fun _ => 0)))), (q36, .inl (zI g, 14, .inl (ai (va_up (va_up (va_up (va_up (va_up (fun _ => 0) 0 12544) 1 19968) 2 40960) 3 44032) 4 55204))))] H := hP
  have hD : va_D A [(h, .inr (4, [.int (iI y0), .int (iI y1), .int (iI y2), .int (iI y3), .ref q7, .ref q16, .ref q23, .int (iI 0), .null])), (q7, .inl (zJ g, 139264, .inr (.inl (lA (fun _ => 0))))), (q16, .inl (zBt g, 12544, .inl (ai (fun _ => 0)))), (q23, .inl (zI g, 4, .inl (ai (fun _ => 0)))), (q36, .inl (zI g, 14, .inl (ai (va_up (va_up (va_up (va_up (va_up (fun _ => 0) 0 12544) 1 19968) 2 40960) 3 44032) 4 55204))))] := hD
  refine lv_dup hx hb d_MO_init_65 rfl ?_
  refine lv_iconst (v := iI 5) hx hb d_MO_init_66 rfl ?_
  refine lv_ldc (v := iI 57344) hx hb hown (ht _ k_388) d_MO_init_67 ?_
  refine ix_iast hx hb hK hP hD hS 4 0 rfl rfl (i := 5) 5 (by omega) d_MO_init_69 (fun H locs hP hD hS => ?_)
  have hP : va_P g.1 classes [(h, .inr (4, [.int (iI y0), .int (iI y1), .int (iI y2), .int (iI y3), .ref q7, .ref q16, .ref q23, .int (iI 0), .null])), (q7, .inl (zJ g, 139264, .inr (.inl (lA (fun _ => 0))))), (q16, .inl (zBt g, 12544, .inl (ai (fun _ => 0)))), (q23, .inl (zI g, 4, .inl (ai (fun _ => 0)))), (q36, .inl (zI g, 14, .inl (ai (va_up (va_up (va_up (va_up (va_up (va_up (fun _ => 0) 0 12544) 1 19968) 2 40960) 3 44032) 4 55204) 5 57344))))] H := hP
  have hD : va_D A [(h, .inr (4, [.int (iI y0), .int (iI y1), .int (iI y2), .int (iI y3), .ref q7, .ref q16, .ref q23, .int (iI 0), .null])), (q7, .inl (zJ g, 139264, .inr (.inl (lA (fun _ => 0))))), (q16, .inl (zBt g, 12544, .inl (ai (fun _ => 0)))), (q23, .inl (zI g, 4, .inl (ai (fun _ => 0)))), (q36, .inl (zI g, 14, .inl (ai (va_up (va_up (va_up (va_up (va_up (va_up (fun _ => 0) 0 12544) 1 19968) 2 40960) 3 44032) 4 55204) 5 57344))))] := hD
  refine lv_dup hx hb d_MO_init_70 rfl ?_
  refine lv_bipush (v := iI 6) hx hb d_MO_init_71 (by decide) ?_
  refine lv_ldc (v := iI 63744) hx hb hown (ht _ k_389) d_MO_init_73 ?_
  refine ix_iast hx hb hK hP hD hS 4 0 rfl rfl (i := 6) 6 (by omega) d_MO_init_75 (fun H locs hP hD hS => ?_)
  have hP : va_P g.1 classes [(h, .inr (4, [.int (iI y0), .int (iI y1), .int (iI y2), .int (iI y3), .ref q7, .ref q16, .ref q23, .int (iI 0), .null])), (q7, .inl (zJ g, 139264, .inr (.inl (lA (fun _ => 0))))), (q16, .inl (zBt g, 12544, .inl (ai (fun _ => 0)))), (q23, .inl (zI g, 4, .inl (ai (fun _ => 0)))), (q36, .inl (zI g, 14, .inl (ai (va_up (va_up (va_up (va_up (va_up (va_up (va_up (fun _ => 0) 0 12544) 1 19968) 2 40960) 3 44032) 4 55204) 5 57344) 6 63744))))] H := hP
  have hD : va_D A [(h, .inr (4, [.int (iI y0), .int (iI y1), .int (iI y2), .int (iI y3), .ref q7, .ref q16, .ref q23, .int (iI 0), .null])), (q7, .inl (zJ g, 139264, .inr (.inl (lA (fun _ => 0))))), (q16, .inl (zBt g, 12544, .inl (ai (fun _ => 0)))), (q23, .inl (zI g, 4, .inl (ai (fun _ => 0)))), (q36, .inl (zI g, 14, .inl (ai (va_up (va_up (va_up (va_up (va_up (va_up (va_up (fun _ => 0) 0 12544) 1 19968) 2 40960) 3 44032) 4 55204) 5 57344) 6 63744))))] := hD
  refine lv_dup hx hb d_MO_init_76 rfl ?_
  refine lv_bipush (v := iI 7) hx hb d_MO_init_77 (by decide) ?_
  refine lv_ldc (v := iI 65039) hx hb hown (ht _ k_390) d_MO_init_79 ?_
  refine ix_iast hx hb hK hP hD hS 4 0 rfl rfl (i := 7) 7 (by omega) d_MO_init_81 (fun H locs hP hD hS => ?_)
  have hP : va_P g.1 classes [(h, .inr (4, [.int (iI y0), .int (iI y1), .int (iI y2), .int (iI y3), .ref q7, .ref q16, .ref q23, .int (iI 0), .null])), (q7, .inl (zJ g, 139264, .inr (.inl (lA (fun _ => 0))))), (q16, .inl (zBt g, 12544, .inl (ai (fun _ => 0)))), (q23, .inl (zI g, 4, .inl (ai (fun _ => 0)))), (q36, .inl (zI g, 14, .inl (ai (va_up (va_up (va_up (va_up (va_up (va_up (va_up (va_up (fun _ => 0) 0 12544) 1 19968) 2 40960) 3 44032) 4 55204) 5 57344) 6 63744) 7 65039))))] H := hP
  have hD : va_D A [(h, .inr (4, [.int (iI y0), .int (iI y1), .int (iI y2), .int (iI y3), .ref q7, .ref q16, .ref q23, .int (iI 0), .null])), (q7, .inl (zJ g, 139264, .inr (.inl (lA (fun _ => 0))))), (q16, .inl (zBt g, 12544, .inl (ai (fun _ => 0)))), (q23, .inl (zI g, 4, .inl (ai (fun _ => 0)))), (q36, .inl (zI g, 14, .inl (ai (va_up (va_up (va_up (va_up (va_up (va_up (va_up (va_up (fun _ => 0) 0 12544) 1 19968) 2 40960) 3 44032) 4 55204) 5 57344) 6 63744) 7 65039))))] := hD
  refine lv_dup hx hb d_MO_init_82 rfl ?_
  refine lv_bipush (v := iI 8) hx hb d_MO_init_83 (by decide) ?_
  refine lv_ldc (v := iI 65040) hx hb hown (ht _ k_391) d_MO_init_85 ?_
  refine ix_iast hx hb hK hP hD hS 4 0 rfl rfl (i := 8) 8 (by omega) d_MO_init_87 (fun H locs hP hD hS => ?_)
  have hP : va_P g.1 classes [(h, .inr (4, [.int (iI y0), .int (iI y1), .int (iI y2), .int (iI y3), .ref q7, .ref q16, .ref q23, .int (iI 0), .null])), (q7, .inl (zJ g, 139264, .inr (.inl (lA (fun _ => 0))))), (q16, .inl (zBt g, 12544, .inl (ai (fun _ => 0)))), (q23, .inl (zI g, 4, .inl (ai (fun _ => 0)))), (q36, .inl (zI g, 14, .inl (ai (va_up (va_up (va_up (va_up (va_up (va_up (va_up (va_up (va_up (fun _ => 0) 0 12544) 1 19968) 2 40960) 3 44032) 4 55204) 5 57344) 6 63744) 7 65039) 8 65040))))] H := hP
  have hD : va_D A [(h, .inr (4, [.int (iI y0), .int (iI y1), .int (iI y2), .int (iI y3), .ref q7, .ref q16, .ref q23, .int (iI 0), .null])), (q7, .inl (zJ g, 139264, .inr (.inl (lA (fun _ => 0))))), (q16, .inl (zBt g, 12544, .inl (ai (fun _ => 0)))), (q23, .inl (zI g, 4, .inl (ai (fun _ => 0)))), (q36, .inl (zI g, 14, .inl (ai (va_up (va_up (va_up (va_up (va_up (va_up (va_up (va_up (va_up (fun _ => 0) 0 12544) 1 19968) 2 40960) 3 44032) 4 55204) 5 57344) 6 63744) 7 65039) 8 65040))))] := hD
  refine lv_dup hx hb d_MO_init_88 rfl ?_
  refine lv_bipush (v := iI 9) hx hb d_MO_init_89 (by decide) ?_
  refine lv_ldc (v := iI 65279) hx hb hown (ht _ k_392) d_MO_init_91 ?_
  refine ix_iast hx hb hK hP hD hS 4 0 rfl rfl (i := 9) 9 (by omega) d_MO_init_93 (fun H locs hP hD hS => ?_)
  have hP : va_P g.1 classes [(h, .inr (4, [.int (iI y0), .int (iI y1), .int (iI y2), .int (iI y3), .ref q7, .ref q16, .ref q23, .int (iI 0), .null])), (q7, .inl (zJ g, 139264, .inr (.inl (lA (fun _ => 0))))), (q16, .inl (zBt g, 12544, .inl (ai (fun _ => 0)))), (q23, .inl (zI g, 4, .inl (ai (fun _ => 0)))), (q36, .inl (zI g, 14, .inl (ai (va_up (va_up (va_up (va_up (va_up (va_up (va_up (va_up (va_up (va_up (fun _ => 0) 0 12544) 1 19968) 2 40960) 3 44032) 4 55204) 5 57344) 6 63744) 7 65039) 8 65040) 9 65279))))] H := hP
  have hD : va_D A [(h, .inr (4, [.int (iI y0), .int (iI y1), .int (iI y2), .int (iI y3), .ref q7, .ref q16, .ref q23, .int (iI 0), .null])), (q7, .inl (zJ g, 139264, .inr (.inl (lA (fun _ => 0))))), (q16, .inl (zBt g, 12544, .inl (ai (fun _ => 0)))), (q23, .inl (zI g, 4, .inl (ai (fun _ => 0)))), (q36, .inl (zI g, 14, .inl (ai (va_up (va_up (va_up (va_up (va_up (va_up (va_up (va_up (va_up (va_up (fun _ => 0) 0 12544) 1 19968) 2 40960) 3 44032) 4 55204) 5 57344) 6 63744) 7 65039) 8 65040) 9 65279))))] := hD
  refine lv_dup hx hb d_MO_init_94 rfl ?_
  refine lv_bipush (v := iI 10) hx hb d_MO_init_95 (by decide) ?_
  refine lv_ldc (v := iI 65280) hx hb hown (ht _ k_393) d_MO_init_97 ?_
  refine ix_iast hx hb hK hP hD hS 4 0 rfl rfl (i := 10) 10 (by omega) d_MO_init_99 (fun H locs hP hD hS => ?_)
  have hP : va_P g.1 classes [(h, .inr (4, [.int (iI y0), .int (iI y1), .int (iI y2), .int (iI y3), .ref q7, .ref q16, .ref q23, .int (iI 0), .null])), (q7, .inl (zJ g, 139264, .inr (.inl (lA (fun _ => 0))))), (q16, .inl (zBt g, 12544, .inl (ai (fun _ => 0)))), (q23, .inl (zI g, 4, .inl (ai (fun _ => 0)))), (q36, .inl (zI g, 14, .inl (ai (va_up (va_up (va_up (va_up (va_up (va_up (va_up (va_up (va_up (va_up (va_up (fun _ => 0) 0 12544) 1 19968) 2 40960) 3 44032) 4 55204) 5 57344) 6 63744) 7 65039) 8 65040) 9 65279) 10 65280))))] H := hP
  have hD : va_D A [(h, .inr (4, [.int (iI y0), .int (iI y1), .int (iI y2), .int (iI y3), .ref q7, .ref q16, .ref q23, .int (iI 0), .null])), (q7, .inl (zJ g, 139264, .inr (.inl (lA (fun _ => 0))))), (q16, .inl (zBt g, 12544, .inl (ai (fun _ => 0)))), (q23, .inl (zI g, 4, .inl (ai (fun _ => 0)))), (q36, .inl (zI g, 14, .inl (ai (va_up (va_up (va_up (va_up (va_up (va_up (va_up (va_up (va_up (va_up (va_up (fun _ => 0) 0 12544) 1 19968) 2 40960) 3 44032) 4 55204) 5 57344) 6 63744) 7 65039) 8 65040) 9 65279) 10 65280))))] := hD
  refine lv_dup hx hb d_MO_init_100 rfl ?_
  refine lv_bipush (v := iI 11) hx hb d_MO_init_101 (by decide) ?_
  refine lv_ldc (v := iI 127744) hx hb hown (ht _ k_394) d_MO_init_103 ?_
  refine ix_iast hx hb hK hP hD hS 4 0 rfl rfl (i := 11) 11 (by omega) d_MO_init_105 (fun H locs hP hD hS => ?_)
  have hP : va_P g.1 classes [(h, .inr (4, [.int (iI y0), .int (iI y1), .int (iI y2), .int (iI y3), .ref q7, .ref q16, .ref q23, .int (iI 0), .null])), (q7, .inl (zJ g, 139264, .inr (.inl (lA (fun _ => 0))))), (q16, .inl (zBt g, 12544, .inl (ai (fun _ => 0)))), (q23, .inl (zI g, 4, .inl (ai (fun _ => 0)))), (q36, .inl (zI g, 14, .inl (ai (va_up (va_up (va_up (va_up (va_up (va_up (va_up (va_up (va_up (va_up (va_up (va_up (fun _ => 0) 0 12544) 1 19968) 2 40960) 3 44032) 4 55204) 5 57344) 6 63744) 7 65039) 8 65040) 9 65279) 10 65280) 11 127744))))] H := hP
  have hD : va_D A [(h, .inr (4, [.int (iI y0), .int (iI y1), .int (iI y2), .int (iI y3), .ref q7, .ref q16, .ref q23, .int (iI 0), .null])), (q7, .inl (zJ g, 139264, .inr (.inl (lA (fun _ => 0))))), (q16, .inl (zBt g, 12544, .inl (ai (fun _ => 0)))), (q23, .inl (zI g, 4, .inl (ai (fun _ => 0)))), (q36, .inl (zI g, 14, .inl (ai (va_up (va_up (va_up (va_up (va_up (va_up (va_up (va_up (va_up (va_up (va_up (va_up (fun _ => 0) 0 12544) 1 19968) 2 40960) 3 44032) 4 55204) 5 57344) 6 63744) 7 65039) 8 65040) 9 65279) 10 65280) 11 127744))))] := hD
  refine lv_dup hx hb d_MO_init_106 rfl ?_
  refine lv_bipush (v := iI 12) hx hb d_MO_init_107 (by decide) ?_
  refine lv_ldc (v := iI 128592) hx hb hown (ht _ k_395) d_MO_init_109 ?_
  refine ix_iast hx hb hK hP hD hS 4 0 rfl rfl (i := 12) 12 (by omega) d_MO_init_111 (fun H locs hP hD hS => ?_)
  have hP : va_P g.1 classes [(h, .inr (4, [.int (iI y0), .int (iI y1), .int (iI y2), .int (iI y3), .ref q7, .ref q16, .ref q23, .int (iI 0), .null])), (q7, .inl (zJ g, 139264, .inr (.inl (lA (fun _ => 0))))), (q16, .inl (zBt g, 12544, .inl (ai (fun _ => 0)))), (q23, .inl (zI g, 4, .inl (ai (fun _ => 0)))), (q36, .inl (zI g, 14, .inl (ai (va_up (va_up (va_up (va_up (va_up (va_up (va_up (va_up (va_up (va_up (va_up (va_up (va_up (fun _ => 0) 0 12544) 1 19968) 2 40960) 3 44032) 4 55204) 5 57344) 6 63744) 7 65039) 8 65040) 9 65279) 10 65280) 11 127744) 12 128592))))] H := hP
  have hD : va_D A [(h, .inr (4, [.int (iI y0), .int (iI y1), .int (iI y2), .int (iI y3), .ref q7, .ref q16, .ref q23, .int (iI 0), .null])), (q7, .inl (zJ g, 139264, .inr (.inl (lA (fun _ => 0))))), (q16, .inl (zBt g, 12544, .inl (ai (fun _ => 0)))), (q23, .inl (zI g, 4, .inl (ai (fun _ => 0)))), (q36, .inl (zI g, 14, .inl (ai (va_up (va_up (va_up (va_up (va_up (va_up (va_up (va_up (va_up (va_up (va_up (va_up (va_up (fun _ => 0) 0 12544) 1 19968) 2 40960) 3 44032) 4 55204) 5 57344) 6 63744) 7 65039) 8 65040) 9 65279) 10 65280) 11 127744) 12 128592))))] := hD
  refine lv_dup hx hb d_MO_init_112 rfl ?_
  refine lv_bipush (v := iI 13) hx hb d_MO_init_113 (by decide) ?_
  refine lv_ldc (v := iI 1114112) hx hb hown (ht _ k_396) d_MO_init_115 ?_
  refine ix_iast hx hb hK hP hD hS 4 0 rfl rfl (i := 13) 13 (by omega) d_MO_init_117 (fun H locs hP hD hS => ?_)
  have hP : va_P g.1 classes [(h, .inr (4, [.int (iI y0), .int (iI y1), .int (iI y2), .int (iI y3), .ref q7, .ref q16, .ref q23, .int (iI 0), .null])), (q7, .inl (zJ g, 139264, .inr (.inl (lA (fun _ => 0))))), (q16, .inl (zBt g, 12544, .inl (ai (fun _ => 0)))), (q23, .inl (zI g, 4, .inl (ai (fun _ => 0)))), (q36, .inl (zI g, 14, .inl (ai (va_up (va_up (va_up (va_up (va_up (va_up (va_up (va_up (va_up (va_up (va_up (va_up (va_up (va_up (fun _ => 0) 0 12544) 1 19968) 2 40960) 3 44032) 4 55204) 5 57344) 6 63744) 7 65039) 8 65040) 9 65279) 10 65280) 11 127744) 12 128592) 13 1114112))))] H := hP
  have hD : va_D A [(h, .inr (4, [.int (iI y0), .int (iI y1), .int (iI y2), .int (iI y3), .ref q7, .ref q16, .ref q23, .int (iI 0), .null])), (q7, .inl (zJ g, 139264, .inr (.inl (lA (fun _ => 0))))), (q16, .inl (zBt g, 12544, .inl (ai (fun _ => 0)))), (q23, .inl (zI g, 4, .inl (ai (fun _ => 0)))), (q36, .inl (zI g, 14, .inl (ai (va_up (va_up (va_up (va_up (va_up (va_up (va_up (va_up (va_up (va_up (va_up (va_up (va_up (va_up (fun _ => 0) 0 12544) 1 19968) 2 40960) 3 44032) 4 55204) 5 57344) 6 63744) 7 65039) 8 65040) 9 65279) 10 65280) 11 127744) 12 128592) 13 1114112))))] := hD
  refine va_putF (D := g.1) (ci := 4) (v := .ref q36) (ty := .array .int) (C := R_MO) (T := F_MO) (N := 9) hx hb ht i_MO t_MO t_MO_ok n_MO hown hK hP hD hS 0 rfl rfl 8 (by decide) (ht _ k_426) (fun _ h9 => h9) rfl hin rfl (by decide +kernel) rfl rfl (Nat.le_of_ble_eq_true rfl) d_MO_init_118 (fun H locs hP hD hS => ?_)
  have hP : va_P g.1 classes [(h, .inr (4, [.int (iI y0), .int (iI y1), .int (iI y2), .int (iI y3), .ref q7, .ref q16, .ref q23, .int (iI 0), .ref q36])), (q7, .inl (zJ g, 139264, .inr (.inl (lA (fun _ => 0))))), (q16, .inl (zBt g, 12544, .inl (ai (fun _ => 0)))), (q23, .inl (zI g, 4, .inl (ai (fun _ => 0)))), (q36, .inl (zI g, 14, .inl (ai (va_up (va_up (va_up (va_up (va_up (va_up (va_up (va_up (va_up (va_up (va_up (va_up (va_up (va_up (fun _ => 0) 0 12544) 1 19968) 2 40960) 3 44032) 4 55204) 5 57344) 6 63744) 7 65039) 8 65040) 9 65279) 10 65280) 11 127744) 12 128592) 13 1114112))))] H := hP
  have hD : va_D A [(h, .inr (4, [.int (iI y0), .int (iI y1), .int (iI y2), .int (iI y3), .ref q7, .ref q16, .ref q23, .int (iI 0), .ref q36])), (q7, .inl (zJ g, 139264, .inr (.inl (lA (fun _ => 0))))), (q16, .inl (zBt g, 12544, .inl (ai (fun _ => 0)))), (q23, .inl (zI g, 4, .inl (ai (fun _ => 0)))), (q36, .inl (zI g, 14, .inl (ai (va_up (va_up (va_up (va_up (va_up (va_up (va_up (va_up (va_up (va_up (va_up (va_up (va_up (va_up (fun _ => 0) 0 12544) 1 19968) 2 40960) 3 44032) 4 55204) 5 57344) 6 63744) 7 65039) 8 65040) 9 65279) 10 65280) 11 127744) 12 128592) 13 1114112))))] := hD
  refine lv_aload_n hx hb d_MO_init_121 rfl (lv_at hl 0 rfl) ?_
  refine lv_iload_n hx hb d_MO_init_122 rfl (lv_at hl 1 rfl) ?_
  refine lv_iconst (v := iI 1) hx hb d_MO_init_123 rfl ?_
  refine lv_iand hx hb d_MO_init_124 ?_
  refine lv_if_eq (tgt := 132) hx hb d_MO_init_125 (by decide) (fun c_125 => ?_) (fun c_125 => ?_)
  · refine lv_iconst (v := iI 0) hx hb d_MO_init_132 rfl ?_
    refine va_putF (D := g.1) (ci := 4) (v := .int (iI 0)) (ty := .boolean) (C := R_MO) (T := F_MO) (N := 9) hx hb ht i_MO t_MO t_MO_ok n_MO hown hK hP hD hS 0 rfl rfl 0 (by decide) (ht _ k_418) (fun _ h9 => h9) rfl hin rfl (by decide +kernel) (by decide) (by decide) (Nat.le_of_ble_eq_true rfl) d_MO_init_133 (fun H locs hP hD hS => ?_)
    have hP : va_P g.1 classes [(h, .inr (4, [.int (iI 0), .int (iI y1), .int (iI y2), .int (iI y3), .ref q7, .ref q16, .ref q23, .int (iI 0), .ref q36])), (q7, .inl (zJ g, 139264, .inr (.inl (lA (fun _ => 0))))), (q16, .inl (zBt g, 12544, .inl (ai (fun _ => 0)))), (q23, .inl (zI g, 4, .inl (ai (fun _ => 0)))), (q36, .inl (zI g, 14, .inl (ai (va_up (va_up (va_up (va_up (va_up (va_up (va_up (va_up (va_up (va_up (va_up (va_up (va_up (va_up (fun _ => 0) 0 12544) 1 19968) 2 40960) 3 44032) 4 55204) 5 57344) 6 63744) 7 65039) 8 65040) 9 65279) 10 65280) 11 127744) 12 128592) 13 1114112))))] H := hP
    have hD : va_D A [(h, .inr (4, [.int (iI 0), .int (iI y1), .int (iI y2), .int (iI y3), .ref q7, .ref q16, .ref q23, .int (iI 0), .ref q36])), (q7, .inl (zJ g, 139264, .inr (.inl (lA (fun _ => 0))))), (q16, .inl (zBt g, 12544, .inl (ai (fun _ => 0)))), (q23, .inl (zI g, 4, .inl (ai (fun _ => 0)))), (q36, .inl (zI g, 14, .inl (ai (va_up (va_up (va_up (va_up (va_up (va_up (va_up (va_up (va_up (va_up (va_up (va_up (va_up (va_up (fun _ => 0) 0 12544) 1 19968) 2 40960) 3 44032) 4 55204) 5 57344) 6 63744) 7 65039) 8 65040) 9 65279) 10 65280) 11 127744) 12 128592) 13 1114112))))] := hD
    refine lv_aload_n hx hb d_MO_init_136 rfl (lv_at hl 0 rfl) ?_
    refine lv_iload_n hx hb d_MO_init_137 rfl (lv_at hl 1 rfl) ?_
    refine lv_iconst (v := iI 2) hx hb d_MO_init_138 rfl ?_
    refine lv_iand hx hb d_MO_init_139 ?_
    refine lv_if_eq (tgt := 147) hx hb d_MO_init_140 (by decide) (fun c_140 => ?_) (fun c_140 => ?_)
    · refine lv_iconst (v := iI 0) hx hb d_MO_init_147 rfl ?_
      refine va_putF (D := g.1) (ci := 4) (v := .int (iI 0)) (ty := .boolean) (C := R_MO) (T := F_MO) (N := 9) hx hb ht i_MO t_MO t_MO_ok n_MO hown hK hP hD hS 0 rfl rfl 1 (by decide) (ht _ k_419) (fun _ h9 => h9) rfl hin rfl (by decide +kernel) (by decide) (by decide) (Nat.le_of_ble_eq_true rfl) d_MO_init_148 (fun H locs hP hD hS => ?_)
      have hP : va_P g.1 classes [(h, .inr (4, [.int (iI 0), .int (iI 0), .int (iI y2), .int (iI y3), .ref q7, .ref q16, .ref q23, .int (iI 0), .ref q36])), (q7, .inl (zJ g, 139264, .inr (.inl (lA (fun _ => 0))))), (q16, .inl (zBt g, 12544, .inl (ai (fun _ => 0)))), (q23, .inl (zI g, 4, .inl (ai (fun _ => 0)))), (q36, .inl (zI g, 14, .inl (ai (va_up (va_up (va_up (va_up (va_up (va_up (va_up (va_up (va_up (va_up (va_up (va_up (va_up (va_up (fun _ => 0) 0 12544) 1 19968) 2 40960) 3 44032) 4 55204) 5 57344) 6 63744) 7 65039) 8 65040) 9 65279) 10 65280) 11 127744) 12 128592) 13 1114112))))] H := hP
      have hD : va_D A [(h, .inr (4, [.int (iI 0), .int (iI 0), .int (iI y2), .int (iI y3), .ref q7, .ref q16, .ref q23, .int (iI 0), .ref q36])), (q7, .inl (zJ g, 139264, .inr (.inl (lA (fun _ => 0))))), (q16, .inl (zBt g, 12544, .inl (ai (fun _ => 0)))), (q23, .inl (zI g, 4, .inl (ai (fun _ => 0)))), (q36, .inl (zI g, 14, .inl (ai (va_up (va_up (va_up (va_up (va_up (va_up (va_up (va_up (va_up (va_up (va_up (va_up (va_up (va_up (fun _ => 0) 0 12544) 1 19968) 2 40960) 3 44032) 4 55204) 5 57344) 6 63744) 7 65039) 8 65040) 9 65279) 10 65280) 11 127744) 12 128592) 13 1114112))))] := hD
      refine lv_aload_n hx hb d_MO_init_151 rfl (lv_at hl 0 rfl) ?_
      refine lv_aload_n hx hb d_MO_init_152 rfl (lv_at hl 0 rfl) ?_
      refine va_get (D := g.1) (ci := 4) (v := .int (iI 0)) (C := R_MO) (T := F_MO) (N := 9) hx hb ht i_MO hown hK hP 0 rfl rfl 0 (by decide) (ht _ k_418) (fun _ h9 => h9) rfl d_MO_init_153 ?_
      refine ix_if_eq (tgt := 164) hx hb d_MO_init_156 (by decide) (by omega) (fun c_156 => ?_) (fun c_156 => ?_)
      · refine lv_sipush (v := iI 255) hx hb d_MO_init_164 (by decide) ?_
        refine va_putF (D := g.1) (ci := 4) (v := .int (iI 255)) (ty := .int) (C := R_MO) (T := F_MO) (N := 9) hx hb ht i_MO t_MO t_MO_ok n_MO hown hK hP hD hS 0 rfl rfl 2 (by decide) (ht _ k_420) (fun _ h9 => h9) rfl hin rfl (by decide +kernel) rfl rfl (Nat.le_of_ble_eq_true rfl) d_MO_init_167 (fun H locs hP hD hS => ?_)
        have hP : va_P g.1 classes [(h, .inr (4, [.int (iI 0), .int (iI 0), .int (iI 255), .int (iI y3), .ref q7, .ref q16, .ref q23, .int (iI 0), .ref q36])), (q7, .inl (zJ g, 139264, .inr (.inl (lA (fun _ => 0))))), (q16, .inl (zBt g, 12544, .inl (ai (fun _ => 0)))), (q23, .inl (zI g, 4, .inl (ai (fun _ => 0)))), (q36, .inl (zI g, 14, .inl (ai (va_up (va_up (va_up (va_up (va_up (va_up (va_up (va_up (va_up (va_up (va_up (va_up (va_up (va_up (fun _ => 0) 0 12544) 1 19968) 2 40960) 3 44032) 4 55204) 5 57344) 6 63744) 7 65039) 8 65040) 9 65279) 10 65280) 11 127744) 12 128592) 13 1114112))))] H := hP
        have hD : va_D A [(h, .inr (4, [.int (iI 0), .int (iI 0), .int (iI 255), .int (iI y3), .ref q7, .ref q16, .ref q23, .int (iI 0), .ref q36])), (q7, .inl (zJ g, 139264, .inr (.inl (lA (fun _ => 0))))), (q16, .inl (zBt g, 12544, .inl (ai (fun _ => 0)))), (q23, .inl (zI g, 4, .inl (ai (fun _ => 0)))), (q36, .inl (zI g, 14, .inl (ai (va_up (va_up (va_up (va_up (va_up (va_up (va_up (va_up (va_up (va_up (va_up (va_up (va_up (va_up (fun _ => 0) 0 12544) 1 19968) 2 40960) 3 44032) 4 55204) 5 57344) 6 63744) 7 65039) 8 65040) 9 65279) 10 65280) 11 127744) 12 128592) 13 1114112))))] := hD
        refine lv_aload_n hx hb d_MO_init_170 rfl (lv_at hl 0 rfl) ?_
        refine lv_aload_n hx hb d_MO_init_171 rfl (lv_at hl 0 rfl) ?_
        refine va_get (D := g.1) (ci := 4) (v := .int (iI 0)) (C := R_MO) (T := F_MO) (N := 9) hx hb ht i_MO hown hK hP 0 rfl rfl 0 (by decide) (ht _ k_418) (fun _ h9 => h9) rfl d_MO_init_172 ?_
        refine ix_if_eq (tgt := 184) hx hb d_MO_init_175 (by decide) (by omega) (fun c_175 => ?_) (fun c_175 => ?_)
        · refine lv_iconst (v := iI 4) hx hb d_MO_init_184 rfl ?_
          refine va_putF (D := g.1) (ci := 4) (v := .int (iI 4)) (ty := .int) (C := R_MO) (T := F_MO) (N := 9) hx hb ht i_MO t_MO t_MO_ok n_MO hown hK hP hD hS 0 rfl rfl 3 (by decide) (ht _ k_421) (fun _ h9 => h9) rfl hin rfl (by decide +kernel) rfl rfl (Nat.le_of_ble_eq_true rfl) d_MO_init_185 (fun H locs hP hD hS => ?_)
          have hP : va_P g.1 classes [(h, .inr (4, [.int (iI 0), .int (iI 0), .int (iI 255), .int (iI 4), .ref q7, .ref q16, .ref q23, .int (iI 0), .ref q36])), (q7, .inl (zJ g, 139264, .inr (.inl (lA (fun _ => 0))))), (q16, .inl (zBt g, 12544, .inl (ai (fun _ => 0)))), (q23, .inl (zI g, 4, .inl (ai (fun _ => 0)))), (q36, .inl (zI g, 14, .inl (ai (va_up (va_up (va_up (va_up (va_up (va_up (va_up (va_up (va_up (va_up (va_up (va_up (va_up (va_up (fun _ => 0) 0 12544) 1 19968) 2 40960) 3 44032) 4 55204) 5 57344) 6 63744) 7 65039) 8 65040) 9 65279) 10 65280) 11 127744) 12 128592) 13 1114112))))] H := hP
          have hD : va_D A [(h, .inr (4, [.int (iI 0), .int (iI 0), .int (iI 255), .int (iI 4), .ref q7, .ref q16, .ref q23, .int (iI 0), .ref q36])), (q7, .inl (zJ g, 139264, .inr (.inl (lA (fun _ => 0))))), (q16, .inl (zBt g, 12544, .inl (ai (fun _ => 0)))), (q23, .inl (zI g, 4, .inl (ai (fun _ => 0)))), (q36, .inl (zI g, 14, .inl (ai (va_up (va_up (va_up (va_up (va_up (va_up (va_up (va_up (va_up (va_up (va_up (va_up (va_up (va_up (fun _ => 0) 0 12544) 1 19968) 2 40960) 3 44032) 4 55204) 5 57344) 6 63744) 7 65039) 8 65040) 9 65279) 10 65280) 11 127744) 12 128592) 13 1114112))))] := hD
          rw [PT_up] at hP hD
          have hP : va_P g.1 classes [(h, .inr (4, [.int (iI 0), .int (iI 0), .int (iI 255), .int (iI 4), .ref (q7), .ref (q16), .ref (q23), .int (iI 0), .ref (q36)])), (q7, .inl (zJ g, 139264, .inr (.inl (lA (fun _ => 0))))), (q16, .inl (zBt g, 12544, .inl (ai (nF ((fun _ => 0)))))), (q23, .inl (zI g, 4, .inl (ai (fun _ => 0)))), (q36, .inl (zI g, 14, .inl (ai PT)))] H := hP
          have hD : va_D A [(h, .inr (4, [.int (iI 0), .int (iI 0), .int (iI 255), .int (iI 4), .ref (q7), .ref (q16), .ref (q23), .int (iI 0), .ref (q36)])), (q7, .inl (zJ g, 139264, .inr (.inl (lA (fun _ => 0))))), (q16, .inl (zBt g, 12544, .inl (ai (nF ((fun _ => 0)))))), (q23, .inl (zI g, 4, .inl (ai (fun _ => 0)))), (q36, .inl (zI g, 14, .inl (ai PT)))] := hD
          exact J188 ((fun i => match i with | 0 => h | 1 => q7 | 2 => q16 | 3 => q23 | _ => q36)) 0 0 255 4 _ _ ls (lv_sub hl [0] rfl) (by rfl) (by first | exact Or.inl ⟨c_125, rfl, rfl, rfl⟩ | exact Or.inr ⟨c_125, rfl, rfl, rfl⟩) (by first | exact Or.inl ⟨c_140, rfl⟩ | exact Or.inr ⟨c_140, rfl⟩) hP hD hS
        · exact absurd c_175 (by decide)
      · exact absurd c_156 (by decide)
    · refine lv_iconst (v := iI 1) hx hb d_MO_init_143 rfl ?_
      refine lv_goto (tgt := 148) hx hb d_MO_init_144 (by decide) ?_
      refine va_putF (D := g.1) (ci := 4) (v := .int (iI 1)) (ty := .boolean) (C := R_MO) (T := F_MO) (N := 9) hx hb ht i_MO t_MO t_MO_ok n_MO hown hK hP hD hS 0 rfl rfl 1 (by decide) (ht _ k_419) (fun _ h9 => h9) rfl hin rfl (by decide +kernel) (by decide) (by decide) (Nat.le_of_ble_eq_true rfl) d_MO_init_148 (fun H locs hP hD hS => ?_)
      have hP : va_P g.1 classes [(h, .inr (4, [.int (iI 0), .int (iI 1), .int (iI y2), .int (iI y3), .ref q7, .ref q16, .ref q23, .int (iI 0), .ref q36])), (q7, .inl (zJ g, 139264, .inr (.inl (lA (fun _ => 0))))), (q16, .inl (zBt g, 12544, .inl (ai (fun _ => 0)))), (q23, .inl (zI g, 4, .inl (ai (fun _ => 0)))), (q36, .inl (zI g, 14, .inl (ai (va_up (va_up (va_up (va_up (va_up (va_up (va_up (va_up (va_up (va_up (va_up (va_up (va_up (va_up (fun _ => 0) 0 12544) 1 19968) 2 40960) 3 44032) 4 55204) 5 57344) 6 63744) 7 65039) 8 65040) 9 65279) 10 65280) 11 127744) 12 128592) 13 1114112))))] H := hP
      have hD : va_D A [(h, .inr (4, [.int (iI 0), .int (iI 1), .int (iI y2), .int (iI y3), .ref q7, .ref q16, .ref q23, .int (iI 0), .ref q36])), (q7, .inl (zJ g, 139264, .inr (.inl (lA (fun _ => 0))))), (q16, .inl (zBt g, 12544, .inl (ai (fun _ => 0)))), (q23, .inl (zI g, 4, .inl (ai (fun _ => 0)))), (q36, .inl (zI g, 14, .inl (ai (va_up (va_up (va_up (va_up (va_up (va_up (va_up (va_up (va_up (va_up (va_up (va_up (va_up (va_up (fun _ => 0) 0 12544) 1 19968) 2 40960) 3 44032) 4 55204) 5 57344) 6 63744) 7 65039) 8 65040) 9 65279) 10 65280) 11 127744) 12 128592) 13 1114112))))] := hD
      refine lv_aload_n hx hb d_MO_init_151 rfl (lv_at hl 0 rfl) ?_
      refine lv_aload_n hx hb d_MO_init_152 rfl (lv_at hl 0 rfl) ?_
      refine va_get (D := g.1) (ci := 4) (v := .int (iI 0)) (C := R_MO) (T := F_MO) (N := 9) hx hb ht i_MO hown hK hP 0 rfl rfl 0 (by decide) (ht _ k_418) (fun _ h9 => h9) rfl d_MO_init_153 ?_
      refine ix_if_eq (tgt := 164) hx hb d_MO_init_156 (by decide) (by omega) (fun c_156 => ?_) (fun c_156 => ?_)
      · refine lv_sipush (v := iI 255) hx hb d_MO_init_164 (by decide) ?_
        refine va_putF (D := g.1) (ci := 4) (v := .int (iI 255)) (ty := .int) (C := R_MO) (T := F_MO) (N := 9) hx hb ht i_MO t_MO t_MO_ok n_MO hown hK hP hD hS 0 rfl rfl 2 (by decide) (ht _ k_420) (fun _ h9 => h9) rfl hin rfl (by decide +kernel) rfl rfl (Nat.le_of_ble_eq_true rfl) d_MO_init_167 (fun H locs hP hD hS => ?_)
        have hP : va_P g.1 classes [(h, .inr (4, [.int (iI 0), .int (iI 1), .int (iI 255), .int (iI y3), .ref q7, .ref q16, .ref q23, .int (iI 0), .ref q36])), (q7, .inl (zJ g, 139264, .inr (.inl (lA (fun _ => 0))))), (q16, .inl (zBt g, 12544, .inl (ai (fun _ => 0)))), (q23, .inl (zI g, 4, .inl (ai (fun _ => 0)))), (q36, .inl (zI g, 14, .inl (ai (va_up (va_up (va_up (va_up (va_up (va_up (va_up (va_up (va_up (va_up (va_up (va_up (va_up (va_up (fun _ => 0) 0 12544) 1 19968) 2 40960) 3 44032) 4 55204) 5 57344) 6 63744) 7 65039) 8 65040) 9 65279) 10 65280) 11 127744) 12 128592) 13 1114112))))] H := hP
        have hD : va_D A [(h, .inr (4, [.int (iI 0), .int (iI 1), .int (iI 255), .int (iI y3), .ref q7, .ref q16, .ref q23, .int (iI 0), .ref q36])), (q7, .inl (zJ g, 139264, .inr (.inl (lA (fun _ => 0))))), (q16, .inl (zBt g, 12544, .inl (ai (fun _ => 0)))), (q23, .inl (zI g, 4, .inl (ai (fun _ => 0)))), (q36, .inl (zI g, 14, .inl (ai (va_up (va_up (va_up (va_up (va_up (va_up (va_up (va_up (va_up (va_up (va_up (va_up (va_up (va_up (fun _ => 0) 0 12544) 1 19968) 2 40960) 3 44032) 4 55204) 5 57344) 6 63744) 7 65039) 8 65040) 9 65279) 10 65280) 11 127744) 12 128592) 13 1114112))))] := hD
        refine lv_aload_n hx hb d_MO_init_170 rfl (lv_at hl 0 rfl) ?_
        refine lv_aload_n hx hb d_MO_init_171 rfl (lv_at hl 0 rfl) ?_
        refine va_get (D := g.1) (ci := 4) (v := .int (iI 0)) (C := R_MO) (T := F_MO) (N := 9) hx hb ht i_MO hown hK hP 0 rfl rfl 0 (by decide) (ht _ k_418) (fun _ h9 => h9) rfl d_MO_init_172 ?_
        refine ix_if_eq (tgt := 184) hx hb d_MO_init_175 (by decide) (by omega) (fun c_175 => ?_) (fun c_175 => ?_)
        · refine lv_iconst (v := iI 4) hx hb d_MO_init_184 rfl ?_
          refine va_putF (D := g.1) (ci := 4) (v := .int (iI 4)) (ty := .int) (C := R_MO) (T := F_MO) (N := 9) hx hb ht i_MO t_MO t_MO_ok n_MO hown hK hP hD hS 0 rfl rfl 3 (by decide) (ht _ k_421) (fun _ h9 => h9) rfl hin rfl (by decide +kernel) rfl rfl (Nat.le_of_ble_eq_true rfl) d_MO_init_185 (fun H locs hP hD hS => ?_)
          have hP : va_P g.1 classes [(h, .inr (4, [.int (iI 0), .int (iI 1), .int (iI 255), .int (iI 4), .ref q7, .ref q16, .ref q23, .int (iI 0), .ref q36])), (q7, .inl (zJ g, 139264, .inr (.inl (lA (fun _ => 0))))), (q16, .inl (zBt g, 12544, .inl (ai (fun _ => 0)))), (q23, .inl (zI g, 4, .inl (ai (fun _ => 0)))), (q36, .inl (zI g, 14, .inl (ai (va_up (va_up (va_up (va_up (va_up (va_up (va_up (va_up (va_up (va_up (va_up (va_up (va_up (va_up (fun _ => 0) 0 12544) 1 19968) 2 40960) 3 44032) 4 55204) 5 57344) 6 63744) 7 65039) 8 65040) 9 65279) 10 65280) 11 127744) 12 128592) 13 1114112))))] H := hP
          have hD : va_D A [(h, .inr (4, [.int (iI 0), .int (iI 1), .int (iI 255), .int (iI 4), .ref q7, .ref q16, .ref q23, .int (iI 0), .ref q36])), (q7, .inl (zJ g, 139264, .inr (.inl (lA (fun _ => 0))))), (q16, .inl (zBt g, 12544, .inl (ai (fun _ => 0)))), (q23, .inl (zI g, 4, .inl (ai (fun _ => 0)))), (q36, .inl (zI g, 14, .inl (ai (va_up (va_up (va_up (va_up (va_up (va_up (va_up (va_up (va_up (va_up (va_up (va_up (va_up (va_up (fun _ => 0) 0 12544) 1 19968) 2 40960) 3 44032) 4 55204) 5 57344) 6 63744) 7 65039) 8 65040) 9 65279) 10 65280) 11 127744) 12 128592) 13 1114112))))] := hD
          rw [PT_up] at hP hD
          have hP : va_P g.1 classes [(h, .inr (4, [.int (iI 0), .int (iI 1), .int (iI 255), .int (iI 4), .ref (q7), .ref (q16), .ref (q23), .int (iI 0), .ref (q36)])), (q7, .inl (zJ g, 139264, .inr (.inl (lA (fun _ => 0))))), (q16, .inl (zBt g, 12544, .inl (ai (nF ((fun _ => 0)))))), (q23, .inl (zI g, 4, .inl (ai (fun _ => 0)))), (q36, .inl (zI g, 14, .inl (ai PT)))] H := hP
          have hD : va_D A [(h, .inr (4, [.int (iI 0), .int (iI 1), .int (iI 255), .int (iI 4), .ref (q7), .ref (q16), .ref (q23), .int (iI 0), .ref (q36)])), (q7, .inl (zJ g, 139264, .inr (.inl (lA (fun _ => 0))))), (q16, .inl (zBt g, 12544, .inl (ai (nF ((fun _ => 0)))))), (q23, .inl (zI g, 4, .inl (ai (fun _ => 0)))), (q36, .inl (zI g, 14, .inl (ai PT)))] := hD
          exact J188 ((fun i => match i with | 0 => h | 1 => q7 | 2 => q16 | 3 => q23 | _ => q36)) 0 1 255 4 _ _ ls (lv_sub hl [0] rfl) (by rfl) (by first | exact Or.inl ⟨c_125, rfl, rfl, rfl⟩ | exact Or.inr ⟨c_125, rfl, rfl, rfl⟩) (by first | exact Or.inl ⟨c_140, rfl⟩ | exact Or.inr ⟨c_140, rfl⟩) hP hD hS
        · exact absurd c_175 (by decide)
      · exact absurd c_156 (by decide)
  · refine lv_iconst (v := iI 1) hx hb d_MO_init_128 rfl ?_
    refine lv_goto (tgt := 133) hx hb d_MO_init_129 (by decide) ?_
    refine va_putF (D := g.1) (ci := 4) (v := .int (iI 1)) (ty := .boolean) (C := R_MO) (T := F_MO) (N := 9) hx hb ht i_MO t_MO t_MO_ok n_MO hown hK hP hD hS 0 rfl rfl 0 (by decide) (ht _ k_418) (fun _ h9 => h9) rfl hin rfl (by decide +kernel) (by decide) (by decide) (Nat.le_of_ble_eq_true rfl) d_MO_init_133 (fun H locs hP hD hS => ?_)
    have hP : va_P g.1 classes [(h, .inr (4, [.int (iI 1), .int (iI y1), .int (iI y2), .int (iI y3), .ref q7, .ref q16, .ref q23, .int (iI 0), .ref q36])), (q7, .inl (zJ g, 139264, .inr (.inl (lA (fun _ => 0))))), (q16, .inl (zBt g, 12544, .inl (ai (fun _ => 0)))), (q23, .inl (zI g, 4, .inl (ai (fun _ => 0)))), (q36, .inl (zI g, 14, .inl (ai (va_up (va_up (va_up (va_up (va_up (va_up (va_up (va_up (va_up (va_up (va_up (va_up (va_up (va_up (fun _ => 0) 0 12544) 1 19968) 2 40960) 3 44032) 4 55204) 5 57344) 6 63744) 7 65039) 8 65040) 9 65279) 10 65280) 11 127744) 12 128592) 13 1114112))))] H := hP
    have hD : va_D A [(h, .inr (4, [.int (iI 1), .int (iI y1), .int (iI y2), .int (iI y3), .ref q7, .ref q16, .ref q23, .int (iI 0), .ref q36])), (q7, .inl (zJ g, 139264, .inr (.inl (lA (fun _ => 0))))), (q16, .inl (zBt g, 12544, .inl (ai (fun _ => 0)))), (q23, .inl (zI g, 4, .inl (ai (fun _ => 0)))), (q36, .inl (zI g, 14, .inl (ai (va_up (va_up (va_up (va_up (va_up (va_up (va_up (va_up (va_up (va_up (va_up (va_up (va_up (va_up (fun _ => 0) 0 12544) 1 19968) 2 40960) 3 44032) 4 55204) 5 57344) 6 63744) 7 65039) 8 65040) 9 65279) 10 65280) 11 127744) 12 128592) 13 1114112))))] := hD
    refine lv_aload_n hx hb d_MO_init_136 rfl (lv_at hl 0 rfl) ?_
    refine lv_iload_n hx hb d_MO_init_137 rfl (lv_at hl 1 rfl) ?_
    refine lv_iconst (v := iI 2) hx hb d_MO_init_138 rfl ?_
    refine lv_iand hx hb d_MO_init_139 ?_
    refine lv_if_eq (tgt := 147) hx hb d_MO_init_140 (by decide) (fun c_140 => ?_) (fun c_140 => ?_)
    · refine lv_iconst (v := iI 0) hx hb d_MO_init_147 rfl ?_
      refine va_putF (D := g.1) (ci := 4) (v := .int (iI 0)) (ty := .boolean) (C := R_MO) (T := F_MO) (N := 9) hx hb ht i_MO t_MO t_MO_ok n_MO hown hK hP hD hS 0 rfl rfl 1 (by decide) (ht _ k_419) (fun _ h9 => h9) rfl hin rfl (by decide +kernel) (by decide) (by decide) (Nat.le_of_ble_eq_true rfl) d_MO_init_148 (fun H locs hP hD hS => ?_)
      have hP : va_P g.1 classes [(h, .inr (4, [.int (iI 1), .int (iI 0), .int (iI y2), .int (iI y3), .ref q7, .ref q16, .ref q23, .int (iI 0), .ref q36])), (q7, .inl (zJ g, 139264, .inr (.inl (lA (fun _ => 0))))), (q16, .inl (zBt g, 12544, .inl (ai (fun _ => 0)))), (q23, .inl (zI g, 4, .inl (ai (fun _ => 0)))), (q36, .inl (zI g, 14, .inl (ai (va_up (va_up (va_up (va_up (va_up (va_up (va_up (va_up (va_up (va_up (va_up (va_up (va_up (va_up (fun _ => 0) 0 12544) 1 19968) 2 40960) 3 44032) 4 55204) 5 57344) 6 63744) 7 65039) 8 65040) 9 65279) 10 65280) 11 127744) 12 128592) 13 1114112))))] H := hP
      have hD : va_D A [(h, .inr (4, [.int (iI 1), .int (iI 0), .int (iI y2), .int (iI y3), .ref q7, .ref q16, .ref q23, .int (iI 0), .ref q36])), (q7, .inl (zJ g, 139264, .inr (.inl (lA (fun _ => 0))))), (q16, .inl (zBt g, 12544, .inl (ai (fun _ => 0)))), (q23, .inl (zI g, 4, .inl (ai (fun _ => 0)))), (q36, .inl (zI g, 14, .inl (ai (va_up (va_up (va_up (va_up (va_up (va_up (va_up (va_up (va_up (va_up (va_up (va_up (va_up (va_up (fun _ => 0) 0 12544) 1 19968) 2 40960) 3 44032) 4 55204) 5 57344) 6 63744) 7 65039) 8 65040) 9 65279) 10 65280) 11 127744) 12 128592) 13 1114112))))] := hD
      refine lv_aload_n hx hb d_MO_init_151 rfl (lv_at hl 0 rfl) ?_
      refine lv_aload_n hx hb d_MO_init_152 rfl (lv_at hl 0 rfl) ?_
      refine va_get (D := g.1) (ci := 4) (v := .int (iI 1)) (C := R_MO) (T := F_MO) (N := 9) hx hb ht i_MO hown hK hP 0 rfl rfl 0 (by decide) (ht _ k_418) (fun _ h9 => h9) rfl d_MO_init_153 ?_
      refine ix_if_eq (tgt := 164) hx hb d_MO_init_156 (by decide) (by omega) (fun c_156 => ?_) (fun c_156 => ?_)
      · exact absurd c_156 (by decide)
      · refine lv_ldc (v := iI 1114111) hx hb hown (ht _ k_397) d_MO_init_159 ?_
        refine lv_goto (tgt := 167) hx hb d_MO_init_161 (by decide) ?_
        refine va_putF (D := g.1) (ci := 4) (v := .int (iI 1114111)) (ty := .int) (C := R_MO) (T := F_MO) (N := 9) hx hb ht i_MO t_MO t_MO_ok n_MO hown hK hP hD hS 0 rfl rfl 2 (by decide) (ht _ k_420) (fun _ h9 => h9) rfl hin rfl (by decide +kernel) rfl rfl (Nat.le_of_ble_eq_true rfl) d_MO_init_167 (fun H locs hP hD hS => ?_)
        have hP : va_P g.1 classes [(h, .inr (4, [.int (iI 1), .int (iI 0), .int (iI 1114111), .int (iI y3), .ref q7, .ref q16, .ref q23, .int (iI 0), .ref q36])), (q7, .inl (zJ g, 139264, .inr (.inl (lA (fun _ => 0))))), (q16, .inl (zBt g, 12544, .inl (ai (fun _ => 0)))), (q23, .inl (zI g, 4, .inl (ai (fun _ => 0)))), (q36, .inl (zI g, 14, .inl (ai (va_up (va_up (va_up (va_up (va_up (va_up (va_up (va_up (va_up (va_up (va_up (va_up (va_up (va_up (fun _ => 0) 0 12544) 1 19968) 2 40960) 3 44032) 4 55204) 5 57344) 6 63744) 7 65039) 8 65040) 9 65279) 10 65280) 11 127744) 12 128592) 13 1114112))))] H := hP
        have hD : va_D A [(h, .inr (4, [.int (iI 1), .int (iI 0), .int (iI 1114111), .int (iI y3), .ref q7, .ref q16, .ref q23, .int (iI 0), .ref q36])), (q7, .inl (zJ g, 139264, .inr (.inl (lA (fun _ => 0))))), (q16, .inl (zBt g, 12544, .inl (ai (fun _ => 0)))), (q23, .inl (zI g, 4, .inl (ai (fun _ => 0)))), (q36, .inl (zI g, 14, .inl (ai (va_up (va_up (va_up (va_up (va_up (va_up (va_up (va_up (va_up (va_up (va_up (va_up (va_up (va_up (fun _ => 0) 0 12544) 1 19968) 2 40960) 3 44032) 4 55204) 5 57344) 6 63744) 7 65039) 8 65040) 9 65279) 10 65280) 11 127744) 12 128592) 13 1114112))))] := hD
        refine lv_aload_n hx hb d_MO_init_170 rfl (lv_at hl 0 rfl) ?_
        refine lv_aload_n hx hb d_MO_init_171 rfl (lv_at hl 0 rfl) ?_
        refine va_get (D := g.1) (ci := 4) (v := .int (iI 1)) (C := R_MO) (T := F_MO) (N := 9) hx hb ht i_MO hown hK hP 0 rfl rfl 0 (by decide) (ht _ k_418) (fun _ h9 => h9) rfl d_MO_init_172 ?_
        refine ix_if_eq (tgt := 184) hx hb d_MO_init_175 (by decide) (by omega) (fun c_175 => ?_) (fun c_175 => ?_)
        · exact absurd c_175 (by decide)
        · refine lv_sipush (v := iI 17408) hx hb d_MO_init_178 (by decide) ?_
          refine lv_goto (tgt := 185) hx hb d_MO_init_181 (by decide) ?_
          refine va_putF (D := g.1) (ci := 4) (v := .int (iI 17408)) (ty := .int) (C := R_MO) (T := F_MO) (N := 9) hx hb ht i_MO t_MO t_MO_ok n_MO hown hK hP hD hS 0 rfl rfl 3 (by decide) (ht _ k_421) (fun _ h9 => h9) rfl hin rfl (by decide +kernel) rfl rfl (Nat.le_of_ble_eq_true rfl) d_MO_init_185 (fun H locs hP hD hS => ?_)
          have hP : va_P g.1 classes [(h, .inr (4, [.int (iI 1), .int (iI 0), .int (iI 1114111), .int (iI 17408), .ref q7, .ref q16, .ref q23, .int (iI 0), .ref q36])), (q7, .inl (zJ g, 139264, .inr (.inl (lA (fun _ => 0))))), (q16, .inl (zBt g, 12544, .inl (ai (fun _ => 0)))), (q23, .inl (zI g, 4, .inl (ai (fun _ => 0)))), (q36, .inl (zI g, 14, .inl (ai (va_up (va_up (va_up (va_up (va_up (va_up (va_up (va_up (va_up (va_up (va_up (va_up (va_up (va_up (fun _ => 0) 0 12544) 1 19968) 2 40960) 3 44032) 4 55204) 5 57344) 6 63744) 7 65039) 8 65040) 9 65279) 10 65280) 11 127744) 12 128592) 13 1114112))))] H := hP
          have hD : va_D A [(h, .inr (4, [.int (iI 1), .int (iI 0), .int (iI 1114111), .int (iI 17408), .ref q7, .ref q16, .ref q23, .int (iI 0), .ref q36])), (q7, .inl (zJ g, 139264, .inr (.inl (lA (fun _ => 0))))), (q16, .inl (zBt g, 12544, .inl (ai (fun _ => 0)))), (q23, .inl (zI g, 4, .inl (ai (fun _ => 0)))), (q36, .inl (zI g, 14, .inl (ai (va_up (va_up (va_up (va_up (va_up (va_up (va_up (va_up (va_up (va_up (va_up (va_up (va_up (va_up (fun _ => 0) 0 12544) 1 19968) 2 40960) 3 44032) 4 55204) 5 57344) 6 63744) 7 65039) 8 65040) 9 65279) 10 65280) 11 127744) 12 128592) 13 1114112))))] := hD
          rw [PT_up] at hP hD
          have hP : va_P g.1 classes [(h, .inr (4, [.int (iI 1), .int (iI 0), .int (iI 1114111), .int (iI 17408), .ref (q7), .ref (q16), .ref (q23), .int (iI 0), .ref (q36)])), (q7, .inl (zJ g, 139264, .inr (.inl (lA (fun _ => 0))))), (q16, .inl (zBt g, 12544, .inl (ai (nF ((fun _ => 0)))))), (q23, .inl (zI g, 4, .inl (ai (fun _ => 0)))), (q36, .inl (zI g, 14, .inl (ai PT)))] H := hP
          have hD : va_D A [(h, .inr (4, [.int (iI 1), .int (iI 0), .int (iI 1114111), .int (iI 17408), .ref (q7), .ref (q16), .ref (q23), .int (iI 0), .ref (q36)])), (q7, .inl (zJ g, 139264, .inr (.inl (lA (fun _ => 0))))), (q16, .inl (zBt g, 12544, .inl (ai (nF ((fun _ => 0)))))), (q23, .inl (zI g, 4, .inl (ai (fun _ => 0)))), (q36, .inl (zI g, 14, .inl (ai PT)))] := hD
          exact J188 ((fun i => match i with | 0 => h | 1 => q7 | 2 => q16 | 3 => q23 | _ => q36)) 1 0 1114111 17408 _ _ ls (lv_sub hl [0] rfl) (by rfl) (by first | exact Or.inl ⟨c_125, rfl, rfl, rfl⟩ | exact Or.inr ⟨c_125, rfl, rfl, rfl⟩) (by first | exact Or.inl ⟨c_140, rfl⟩ | exact Or.inr ⟨c_140, rfl⟩) hP hD hS
    · refine lv_iconst (v := iI 1) hx hb d_MO_init_143 rfl ?_
      refine lv_goto (tgt := 148) hx hb d_MO_init_144 (by decide) ?_
      refine va_putF (D := g.1) (ci := 4) (v := .int (iI 1)) (ty := .boolean) (C := R_MO) (T := F_MO) (N := 9) hx hb ht i_MO t_MO t_MO_ok n_MO hown hK hP hD hS 0 rfl rfl 1 (by decide) (ht _ k_419) (fun _ h9 => h9) rfl hin rfl (by decide +kernel) (by decide) (by decide) (Nat.le_of_ble_eq_true rfl) d_MO_init_148 (fun H locs hP hD hS => ?_)
      have hP : va_P g.1 classes [(h, .inr (4, [.int (iI 1), .int (iI 1), .int (iI y2), .int (iI y3), .ref q7, .ref q16, .ref q23, .int (iI 0), .ref q36])), (q7, .inl (zJ g, 139264, .inr (.inl (lA (fun _ => 0))))), (q16, .inl (zBt g, 12544, .inl (ai (fun _ => 0)))), (q23, .inl (zI g, 4, .inl (ai (fun _ => 0)))), (q36, .inl (zI g, 14, .inl (ai (va_up (va_up (va_up (va_up (va_up (va_up (va_up (va_up (va_up (va_up (va_up (va_up (va_up (va_up (fun _ => 0) 0 12544) 1 19968) 2 40960) 3 44032) 4 55204) 5 57344) 6 63744) 7 65039) 8 65040) 9 65279) 10 65280) 11 127744) 12 128592) 13 1114112))))] H := hP
      have hD : va_D A [(h, .inr (4, [.int (iI 1), .int (iI 1), .int (iI y2), .int (iI y3), .ref q7, .ref q16, .ref q23, .int (iI 0), .ref q36])), (q7, .inl (zJ g, 139264, .inr (.inl (lA (fun _ => 0))))), (q16, .inl (zBt g, 12544, .inl (ai (fun _ => 0)))), (q23, .inl (zI g, 4, .inl (ai (fun _ => 0)))), (q36, .inl (zI g, 14, .inl (ai (va_up (va_up (va_up (va_up (va_up (va_up (va_up (va_up (va_up (va_up (va_up (va_up (va_up (va_up (fun _ => 0) 0 12544) 1 19968) 2 40960) 3 44032) 4 55204) 5 57344) 6 63744) 7 65039) 8 65040) 9 65279) 10 65280) 11 127744) 12 128592) 13 1114112))))] := hD
      refine lv_aload_n hx hb d_MO_init_151 rfl (lv_at hl 0 rfl) ?_
      refine lv_aload_n hx hb d_MO_init_152 rfl (lv_at hl 0 rfl) ?_
      refine va_get (D := g.1) (ci := 4) (v := .int (iI 1)) (C := R_MO) (T := F_MO) (N := 9) hx hb ht i_MO hown hK hP 0 rfl rfl 0 (by decide) (ht _ k_418) (fun _ h9 => h9) rfl d_MO_init_153 ?_
      refine ix_if_eq (tgt := 164) hx hb d_MO_init_156 (by decide) (by omega) (fun c_156 => ?_) (fun c_156 => ?_)
      · exact absurd c_156 (by decide)
      · refine lv_ldc (v := iI 1114111) hx hb hown (ht _ k_397) d_MO_init_159 ?_
        refine lv_goto (tgt := 167) hx hb d_MO_init_161 (by decide) ?_
        refine va_putF (D := g.1) (ci := 4) (v := .int (iI 1114111)) (ty := .int) (C := R_MO) (T := F_MO) (N := 9) hx hb ht i_MO t_MO t_MO_ok n_MO hown hK hP hD hS 0 rfl rfl 2 (by decide) (ht _ k_420) (fun _ h9 => h9) rfl hin rfl (by decide +kernel) rfl rfl (Nat.le_of_ble_eq_true rfl) d_MO_init_167 (fun H locs hP hD hS => ?_)
        have hP : va_P g.1 classes [(h, .inr (4, [.int (iI 1), .int (iI 1), .int (iI 1114111), .int (iI y3), .ref q7, .ref q16, .ref q23, .int (iI 0), .ref q36])), (q7, .inl (zJ g, 139264, .inr (.inl (lA (fun _ => 0))))), (q16, .inl (zBt g, 12544, .inl (ai (fun _ => 0)))), (q23, .inl (zI g, 4, .inl (ai (fun _ => 0)))), (q36, .inl (zI g, 14, .inl (ai (va_up (va_up (va_up (va_up (va_up (va_up (va_up (va_up (va_up (va_up (va_up (va_up (va_up (va_up (fun _ => 0) 0 12544) 1 19968) 2 40960) 3 44032) 4 55204) 5 57344) 6 63744) 7 65039) 8 65040) 9 65279) 10 65280) 11 127744) 12 128592) 13 1114112))))] H := hP
        have hD : va_D A [(h, .inr (4, [.int (iI 1), .int (iI 1), .int (iI 1114111), .int (iI y3), .ref q7, .ref q16, .ref q23, .int (iI 0), .ref q36])), (q7, .inl (zJ g, 139264, .inr (.inl (lA (fun _ => 0))))), (q16, .inl (zBt g, 12544, .inl (ai (fun _ => 0)))), (q23, .inl (zI g, 4, .inl (ai (fun _ => 0)))), (q36, .inl (zI g, 14, .inl (ai (va_up (va_up (va_up (va_up (va_up (va_up (va_up (va_up (va_up (va_up (va_up (va_up (va_up (va_up (fun _ => 0) 0 12544) 1 19968) 2 40960) 3 44032) 4 55204) 5 57344) 6 63744) 7 65039) 8 65040) 9 65279) 10 65280) 11 127744) 12 128592) 13 1114112))))] := hD
        refine lv_aload_n hx hb d_MO_init_170 rfl (lv_at hl 0 rfl) ?_
        refine lv_aload_n hx hb d_MO_init_171 rfl (lv_at hl 0 rfl) ?_
        refine va_get (D := g.1) (ci := 4) (v := .int (iI 1)) (C := R_MO) (T := F_MO) (N := 9) hx hb ht i_MO hown hK hP 0 rfl rfl 0 (by decide) (ht _ k_418) (fun _ h9 => h9) rfl d_MO_init_172 ?_
        refine ix_if_eq (tgt := 184) hx hb d_MO_init_175 (by decide) (by omega) (fun c_175 => ?_) (fun c_175 => ?_)
        · exact absurd c_175 (by decide)
        · refine lv_sipush (v := iI 17408) hx hb d_MO_init_178 (by decide) ?_
          refine lv_goto (tgt := 185) hx hb d_MO_init_181 (by decide) ?_
          refine va_putF (D := g.1) (ci := 4) (v := .int (iI 17408)) (ty := .int) (C := R_MO) (T := F_MO) (N := 9) hx hb ht i_MO t_MO t_MO_ok n_MO hown hK hP hD hS 0 rfl rfl 3 (by decide) (ht _ k_421) (fun _ h9 => h9) rfl hin rfl (by decide +kernel) rfl rfl (Nat.le_of_ble_eq_true rfl) d_MO_init_185 (fun H locs hP hD hS => ?_)
          have hP : va_P g.1 classes [(h, .inr (4, [.int (iI 1), .int (iI 1), .int (iI 1114111), .int (iI 17408), .ref q7, .ref q16, .ref q23, .int (iI 0), .ref q36])), (q7, .inl (zJ g, 139264, .inr (.inl (lA (fun _ => 0))))), (q16, .inl (zBt g, 12544, .inl (ai (fun _ => 0)))), (q23, .inl (zI g, 4, .inl (ai (fun _ => 0)))), (q36, .inl (zI g, 14, .inl (ai (va_up (va_up (va_up (va_up (va_up (va_up (va_up (va_up (va_up (va_up (va_up (va_up (va_up (va_up (fun _ => 0) 0 12544) 1 19968) 2 40960) 3 44032) 4 55204) 5 57344) 6 63744) 7 65039) 8 65040) 9 65279) 10 65280) 11 127744) 12 128592) 13 1114112))))] H := hP
          have hD : va_D A [(h, .inr (4, [.int (iI 1), .int (iI 1), .int (iI 1114111), .int (iI 17408), .ref q7, .ref q16, .ref q23, .int (iI 0), .ref q36])), (q7, .inl (zJ g, 139264, .inr (.inl (lA (fun _ => 0))))), (q16, .inl (zBt g, 12544, .inl (ai (fun _ => 0)))), (q23, .inl (zI g, 4, .inl (ai (fun _ => 0)))), (q36, .inl (zI g, 14, .inl (ai (va_up (va_up (va_up (va_up (va_up (va_up (va_up (va_up (va_up (va_up (va_up (va_up (va_up (va_up (fun _ => 0) 0 12544) 1 19968) 2 40960) 3 44032) 4 55204) 5 57344) 6 63744) 7 65039) 8 65040) 9 65279) 10 65280) 11 127744) 12 128592) 13 1114112))))] := hD
          rw [PT_up] at hP hD
          have hP : va_P g.1 classes [(h, .inr (4, [.int (iI 1), .int (iI 1), .int (iI 1114111), .int (iI 17408), .ref (q7), .ref (q16), .ref (q23), .int (iI 0), .ref (q36)])), (q7, .inl (zJ g, 139264, .inr (.inl (lA (fun _ => 0))))), (q16, .inl (zBt g, 12544, .inl (ai (nF ((fun _ => 0)))))), (q23, .inl (zI g, 4, .inl (ai (fun _ => 0)))), (q36, .inl (zI g, 14, .inl (ai PT)))] H := hP
          have hD : va_D A [(h, .inr (4, [.int (iI 1), .int (iI 1), .int (iI 1114111), .int (iI 17408), .ref (q7), .ref (q16), .ref (q23), .int (iI 0), .ref (q36)])), (q7, .inl (zJ g, 139264, .inr (.inl (lA (fun _ => 0))))), (q16, .inl (zBt g, 12544, .inl (ai (nF ((fun _ => 0)))))), (q23, .inl (zI g, 4, .inl (ai (fun _ => 0)))), (q36, .inl (zI g, 14, .inl (ai PT)))] := hD
          exact J188 ((fun i => match i with | 0 => h | 1 => q7 | 2 => q16 | 3 => q23 | _ => q36)) 1 1 1114111 17408 _ _ ls (lv_sub hl [0] rfl) (by rfl) (by first | exact Or.inl ⟨c_125, rfl, rfl, rfl⟩ | exact Or.inr ⟨c_125, rfl, rfl, rfl⟩) (by first | exact Or.inl ⟨c_140, rfl⟩ | exact Or.inr ⟨c_140, rfl⟩) hP hD hS
