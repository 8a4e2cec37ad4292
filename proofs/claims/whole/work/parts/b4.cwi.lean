/-! the face's constructor: rows and the world that it makes -/
section ZQ
variable {p : Program} {l : Launch} {e : Env} {R : Room} {s : State} {m : MethodId} {args : Array Value} {below : List Frame} {meth : Method} {c : Code} {H : Heap} {locs : List Loc} {cells slots : Nat} {Q : State → Prop}
variable {cc : ByteArray} {pc : Nat} {ls : Array Slot} {rest : List Value} {D : va_G} {cl : List vw_C} {ws : va_W} {A : Nat → Prop} {H0 : Heap} {g : zG} {a : Nat}
theorem ix_newq (hx : p.tables.exec = Jvm.exec) (hb : c.code = cc) {own : String} {index : Nat} (hown : s.vm.findClass own = some m.cls) (hcl : (Cond.classLink own index R_RG).before args s = true) (hAO : va_AO R_RG s) (hK : va_K D cl (tz g) s) (hP : va_P D cl ws H) (hD : va_D A ws) (hS : va_S A H0 H locs) (hA : ∀ q, H0.size ≤ q → A q)
    {n : Int} {N' : Nat} (hn : n = (N' : Int) ∧ N' ≤ 2147483647) (hbytes : N' * 4 ≤ 536870912) (hcells : cells + 1 ≤ R.cells) (hslots : slots + N' ≤ R.slots) (hdg : decode cc pc = .ok (.anewarray index, 3))
    (kk : ∀ (q : Nat) (H1 : Heap), va_P D cl (ws ++ [(q, .inl (zRf g, N', .inr (.inr (.inr (.inr (fun _ => none))))))]) H1 → va_D A (ws ++ [(q, .inl (zRf g, N', .inr (.inr (.inr (.inr (fun _ => none))))))]) → va_S A H0 H1 locs →
      W p l e R s m args below meth c H1 locs (cells + 1) (slots + N') Q (F0 m (pc + 3) ls (.ref q :: rest))) : W p l e R s m args below meth c H locs cells slots Q (F0 m pc ls (.int (iI n) :: rest)) := by
  refine va_newq hx hb hown hcl hAO hK hP hD hS hA (fun q => by rw [← iI_0, iI_lt (by omega)] at q; omega) (by rw [iI_cl (by omega)]; omega) hbytes hcells hslots hdg (fun q cA H1 k1 p1 d1 s1 => ?_)
  have e1 := (k1.2 4 (cA, .object R_RG) rfl).2
  have e2 := (hK.2 3 _ rfl).2
  have := va_RA_inj e1 e2
  subst this
  exact kk q H1 p1 d1 s1
theorem ix_astq (hx : p.tables.exec = Jvm.exec) (hb : c.code = cc) (hK : va_K D cl (tz g) s) (hP : va_P D cl ws H) (hD : va_D A ws) (hS : va_S A H0 H locs) (q0 t0 qk ci : Nat) {cA : ClassId} {r : vw_C} {n v : Nat} {vs : List Value} {f : Nat → Option Nat} (ha : ws[q0]? = some (a, .inl (cA, n, .inr (.inr (.inr (.inr f)))))) (ht : (tz g)[t0]? = some (cA, .object r.1)) (hv : ws[qk]? = some (v, .inr (ci, vs))) (hc : cl[ci]? = some r) {i : Int} (j : Nat) (h : i = (j : Int) ∧ j < n ∧ j ≤ 2147483647) (hdg : decode cc pc = .ok (.aastore, 1))
    (kk : ∀ (H1 : Heap) (locs1 : List Loc), va_P D cl (ws.set q0 (a, .inl (cA, n, .inr (.inr (.inr (.inr (va_up f j (some v)))))))) H1 → va_D A (ws.set q0 (a, .inl (cA, n, .inr (.inr (.inr (.inr (va_up f j (some v)))))))) → va_S A H0 H1 locs1 → W p l e R s m args below meth c H1 locs1 cells slots Q (F0 m (pc + 1) ls rest)) : W p l e R s m args below meth c H locs cells slots Q (F0 m pc ls (.ref v :: .int (iI i) :: .ref a :: rest)) :=
  va_astq hx hb hK hP hD hS q0 t0 qk ci ha ht hv hc (iI_inN h) hdg (by rw [iI_clN h]; exact kk)
end ZQ
theorem refs_congr {cA : ClassId} {n : Nat} {f f' : Nat → Option Nat} (h : ∀ j, j < n → f j = f' j) : vp_cell cA (n, .inr (.inr (.inr (.inr f)))) = vp_cell cA (n, .inr (.inr (.inr (.inr f')))) := by
  rw [vp_cell_q, vp_cell_q]
  unfold arrV
  congr 2
  funext j
  show va_rf (f j.val) = va_rf (f' j.val)
  rw [h j.val j.isLt]
def zPa (g : zG) (avs : List Value) (wc wo : va_W) (sz : Nat) : Array Value → State → Prop := va_Pc avs (fun U => U.heap.size = sz ∧ va_P g.1 classes wc U.heap ∧ va_K g.1 classes (tz g) U ∧ va_D (fun _ => True) wc ∧ stz g (va_A wc sz) U U.heap ∧ va_P g.1 classes wo U.heap ∧ zAp wo (va_A wc sz) ∧ va_AO R_RG U)
theorem zPa_blind {g : zG} {avs : List Value} {wc wo : va_W} {sz : Nat} : FrameBlind (zPa g avs wc wo sz) := fun a U f mk q => ⟨q.1, q.2.1, q.2.2.1, va_K.moved (u := U) (U := U.calling f mk a) (Vm.Alike.refl U.vm) q.2.2.2.1, q.2.2.2.2.1, q.2.2.2.2.2.1.calling, q.2.2.2.2.2.2.1, q.2.2.2.2.2.2.2.1, va_AO.moved (u := U) (U := U.calling f mk a) (Vm.Alike.refl U.vm) q.2.2.2.2.2.2.2.2⟩
def csM (md : Int32) (u la : Int) (NX : Nat → Int) : Prop := ((md &&& iI 1 = 0 ∧ la = 255) ∨ (¬ md &&& iI 1 = 0 ∧ la = 1114111)) ∧ ((md &&& iI 2 = 0 ∧ u = 0) ∨ (¬ md &&& iI 2 = 0 ∧ u = 1)) ∧ ((md &&& iI 1 = 0 ∧ md &&& iI 2 = 0 ∧ NX = NXa la) ∨ (¬ (md &&& iI 1 = 0 ∧ md &&& iI 2 = 0) ∧ NX = NXb la))
def cwP (i : Nat) : Nat := ([0, 1, 2, 3, 4, 5, 6, 9, 10, 11, 12, 13, 14, 15, 16, 17, 18, 19, 20, 21, 22, 23, 24, 25, 7, 8] : List Nat).getD i 0
theorem cwP_inj : ∀ i, i < 26 → ∀ j, j < 26 → cwP i = cwP j → i = j := by decide +kernel
/-- the world out of the cells in the order of their making -/
theorem cw_of {g : zG} {q : Nat → Nat} {u la : Int} {NX : Nat → Int} {n : Nat → Nat} {es : Nat → Nat → Int} {ws : va_W} {H : Heap} {A : Nat → Prop} (hP : va_P g.1 classes ws H) (hD : va_D A ws) (f : Nat → Option Nat) (h7 : ws[cwP 7]? = some (q 7, .inl (zRf g, 8, .inr (.inr (.inr (.inr f)))))) (hf : ∀ j, j < 8 → f j = some (q (8 + 2 * j))) (hg : ∀ i, i < 26 → i ≠ 7 → ws[cwP i]? = some (q i, cwc g q u la NX n es i)) :
    va_P g.1 classes (cw g q u la NX n es) H ∧ va_D A (cw g q u la NX n es) := by
  have ad : ∀ i, i < 26 → ∃ x : va_E, ws[cwP i]? = some (q i, x) := fun i hi => by
    by_cases h : i = 7
    · rw [h]; exact ⟨_, h7⟩
    · exact ⟨_, hg i hi h⟩
  refine ⟨fun i x hx => ?_, fun i j x y hx hy e => ?_, fun i x hx => ?_⟩
  · obtain ⟨hi, rfl⟩ := cw_lt hx
    by_cases h : i = 7
    · subst h
      have h9 := hP (cwP 7) _ h7
      show H[q 7]? = some (vp_cell (zRf g) (8, .inr (.inr (.inr (.inr (fun i => some (q (8 + 2 * i))))))))
      rw [← refs_congr hf]
      exact h9
    · exact hP (cwP i) _ (hg i hi h)
  · obtain ⟨hi, rfl⟩ := cw_lt hx
    obtain ⟨hj, rfl⟩ := cw_lt hy
    obtain ⟨x1, e1⟩ := ad i hi
    obtain ⟨x2, e2⟩ := ad j hj
    exact cwP_inj i hi j hj (hD.1 _ _ _ _ e1 e2 e)
  · obtain ⟨hi, rfl⟩ := cw_lt hx
    obtain ⟨x1, e1⟩ := ad i hi
    exact hD.2 (cwP i) (q i, x1) e1
