/-! THE LAW: rows for its script, its small method, both worlds side by side -/
section ZL
variable {p : Program} {l : Launch} {e : Env} {R : Room} {s : State} {m : MethodId} {args : Array Value} {below : List Frame} {meth : Method} {c : Code} {H : Heap} {locs : List Loc} {cells slots : Nat} {Q : State → Prop}
variable {cc : ByteArray} {pc : Nat} {ls : Array Slot} {rest st0 : List Value} {A : Nat → Prop} {H0 : Heap}
theorem ix_sld (hx : p.tables.exec = Jvm.exec) (hb : c.code = cc) {b L : Nat} {xs : Nat → Int32} (hX : va_X b L xs s H0) (hbl : b < H0.size) (hbA : ¬ A b) (hS : va_S A H0 H locs) {z : Int} (j : Nat) (h : z = (j : Int) ∧ j < L ∧ j ≤ 2147483647) (hdg : decode cc pc = .ok (.iaload, 1))
    (kk : W p l e R s m args below meth c H locs cells slots Q (F0 m (pc + 1) ls (.int (xs j) :: rest))) : W p l e R s m args below meth c H locs cells slots Q (F0 m pc ls (.int (iI z) :: .ref b :: rest)) :=
  va_sld hx hb hX hbl hbA hS (iI_inN h) hdg (by rw [iI_clN h]; exact kk)
theorem ix_slen (hx : p.tables.exec = Jvm.exec) (hb : c.code = cc) {b L : Nat} {xs : Nat → Int32} (hX : va_X b L xs s H0) (hbl : b < H0.size) (hbA : ¬ A b) (hS : va_S A H0 H locs) (hdg : decode cc pc = .ok (.arraylength, 1))
    (kk : W p l e R s m args below meth c H locs cells slots Q (F0 m (pc + 1) ls (.int (iI ((L : Nat) : Int)) :: rest))) : W p l e R s m args below meth c H locs cells slots Q (F0 m pc ls (.ref b :: rest)) :=
  va_slen hx hb hX hbl hbA hS hdg (by rw [show Int32.ofNat L = iI ((L : Nat) : Int) from (iI_nat L).symm]; exact kk)
def bB (z : Int) : Int := if z = 0 then 0 else 1
theorem bB_01 (z : Int) : bB z = 0 ∨ bB z = 1 := by unfold bB; split <;> omega
theorem ix_b (hx : p.tables.exec = Jvm.exec) (hb : c.code = cc) {z : Int} (d1 : decode cc pc = .ok (.ifCond .eq 7, 3)) (d2 : decode cc (pc + 3) = .ok (.iconst 1, 1)) (d3 : decode cc (pc + 4) = .ok (.goto 4, 3)) (d4 : decode cc (pc + 7) = .ok (.iconst 0, 1)) (h : -2147483648 ≤ z ∧ z ≤ 2147483647)
    (kk : W p l e R s m args below meth c H locs cells slots Q (F0 m (pc + 8) ls (.int (iI (bB z)) :: rest))) : W p l e R s m args below meth c H locs cells slots Q (F0 m pc ls (.int (iI z) :: rest)) := by
  refine ix_if_eq (tgt := pc + 7) hx hb d1 (by omega) h (fun c0 => ?_) (fun c0 => ?_)
  · refine lv_iconst (v := iI 0) hx hb d4 rfl ?_
    rw [show bB z = 0 from if_pos c0] at kk
    exact kk
  · refine lv_iconst (v := iI 1) hx hb d2 rfl ?_
    refine lv_goto (tgt := pc + 8) hx hb d3 (by omega) ?_
    rw [show bB z = 1 from if_neg c0] at kk
    exact kk
theorem and15 (x : Int32) : ∃ w : Nat, w < 16 ∧ x &&& iI 15 = iI ((w : Nat) : Int) := by
  refine ⟨x.toBitVec.toNat % 2 ^ 4, by omega, ?_⟩
  have e : x = nI x.toBitVec.toNat := by
    apply Int32.toBitVec_inj.mp
    show x.toBitVec = BitVec.ofNat 32 x.toBitVec.toNat
    rw [BitVec.ofNat_toNat, BitVec.setWidth_eq]
  rw [iI_nat, ← pk_andN x.toBitVec.isLt (m := iI 15) 4 (by decide), ← e]
/-- the law's own small method, at 0 -/
theorem zcX {g : zG} {own : String} {index nL maxL n : Nat} {y : MethodName} {bytes : ByteArray} {ret : Option FieldType} {As : List Value} {b L : Nat} {xs : Nat → Int32} {f k : Nat} {post : Int32 → Prop} (S : CallFix p m c cc nL s args lw_ok own) (hw : zwS own index y bytes maxL ret n)
    (hM : Met l y (Cond.code y bytes maxL ret :: lw_ok) (zr f k) (va_Pc As (fun U => va_X b L xs U U.heap ∧ b < U.heap.size)) (vp_Si post) 0 0 (fun _ => False))
    (hR : f + 1 ≤ R.frames ∧ 8 + (maxL + 11) + k ≤ R.locals) (hc : cells ≤ R.cells ∧ slots ≤ R.slots) (hX : va_X b L xs s H) (hbl : b < H.size)
    (hn : As.length = n) (hsz : ls.size = nL) (hst : st0 = As.reverse ++ rest) (hrm : (rest.map fun v => v.category).sum ≤ 8) (hdg : decode cc pc = .ok (.invokestatic index, 3))
    (kk : ∀ r : Int32, post r → W p l e R s m args below meth c H locs cells slots Q (F0 m (pc + 3) ls (.int r :: rest))) : W p l e R s m args below meth c H locs cells slots Q (F0 m pc ls st0) := by
  subst hst
  exact vp_callSi ((va_runS (As := As) (rest := rest) S hM (va_cwS n S.2.2.2.2 hw.good rfl rfl rfl hw.2 hR) ⟨fun a U f mk q => ⟨q.1, va_X.moved (u := U) (U := U.calling f mk a) (Vm.Alike.refl U.vm) q.2.1, q.2.2⟩, fun U hU hW => ⟨rfl, by rw [hU]; exact va_X.moved hW.alike hX, by rw [hU]; exact hbl⟩⟩ rfl hn hsz rfl (lv_room hrm) hdg hc).run) kk
end ZL
set_option maxHeartbeats 4000000 in
set_option maxRecDepth 100000 in
theorem c_LA_cell (l : Launch) (b L : Nat) (xs : Nat → Int32) (hL : L ≤ 2561) : Met l y_LA_cell w_LA_cell (zr 0 0) (va_Pc [.ref b, .int (iI 0)] (fun U => va_X b L xs U U.heap ∧ b < U.heap.size)) (vp_Si (fun z => z = if 0 < L then xs 0 else 0)) 0 0 (fun _ => False) := by
  refine Met.ofW (cc := b_LA_cell) (maxL := 2) (ret := (some .int)) (by decide) rfl ?_
  intro p e s m args below meth cd s₁ B hml hv
  obtain ⟨hargs, hX, hbl⟩ := hv
  have hx := B.exec
  have hb := B.bytes
  have hr := B.returns
  have hS : va_S (fun _ => False) s.heap s.heap [] := va_S.rf
  have hbA : ¬ (fun _ : Nat => False) b := fun h => h
  generalize hQ : MQ below _ args s 0 0 _ = Q
  have hl := lv_entry ([.ref b, .int (iI 0)]) (n := 2) (Nat.le_of_ble_eq_true rfl)
  rw [show entryFrame m args 2 = entryFrame m ([.ref b, .int (iI 0)] : List Value).toArray 2 by rw [hargs], lg_entry_eq]
  generalize (lg_sl ([.ref b, .int (iI 0)]) ++ List.replicate (2 - (lg_sl ([.ref b, .int (iI 0)])).length) Slot.unset).toArray = ls at hl ⊢
  have hl : lv_has ls 2 [(0, .ref b), (1, .int (iI 0))] := hl
  refine lv_iload_n hx hb d_LA_cell_0 rfl (lv_at hl 1 rfl) ?_
  refine lv_aload_n hx hb d_LA_cell_1 rfl (lv_at hl 0 rfl) ?_
  refine ix_slen hx hb hX hbl hbA hS d_LA_cell_2 ?_
  refine ix_icmp_ge (tgt := 12) hx hb d_LA_cell_3 (by decide) (by omega) (fun c_3 => ?_) (fun c_3 => ?_)
  · refine lv_iconst (v := iI 0) hx hb d_LA_cell_12 rfl ?_
    subst hQ
    exact W.iret (v := iI 0) hx hb hr (fun t h9 hW => ⟨_, rfl, by rw [if_neg (by omega)]; exact iI_0, h9⟩) (fun _ h9 => by cases h9) d_LA_cell_13
  · refine lv_aload_n hx hb d_LA_cell_6 rfl (lv_at hl 0 rfl) ?_
    refine lv_iload_n hx hb d_LA_cell_7 rfl (lv_at hl 1 rfl) ?_
    refine ix_sld hx hb hX hbl hbA hS (z := 0) 0 (by omega) d_LA_cell_8 ?_
    refine lv_goto (tgt := 13) hx hb d_LA_cell_9 (by decide) ?_
    subst hQ
    exact W.iret (v := xs 0) hx hb hr (fun t h9 hW => ⟨_, rfl, by rw [if_pos (by omega)], h9⟩) (fun _ h9 => by cases h9) d_LA_cell_13
/-- the addresses of both worlds: apart, and in A -/
def ZD (A : Nat → Prop) (q r : Nat → Nat) : Prop := (∀ i j, i < 26 → j < 26 → q i = q j → i = j) ∧ (∀ i j, i < 5 → j < 5 → r i = r j → i = j) ∧ (∀ i j, i < 26 → j < 5 → q i ≠ r j) ∧ (∀ i, i < 26 → A (q i)) ∧ ∀ i, i < 5 → A (r i)
def rwW (g : zG) (r : Nat → Nat) (ut uc la wo : Int) (bw : Nat → Nat) (mt : Nat → Int) (ms : Int) : va_W := [(r 0, .inr (4, [.int (iI ut), .int (iI uc), .int (iI la), .int (iI wo), .ref (r 1), .ref (r 2), .ref (r 3), .int (iI ms), .ref (r 4)])), (r 1, .inl (zJ g, 139264, .inr (.inl (lA bw)))), (r 2, .inl (zBt g, 12544, .inl (ai kF))), (r 3, .inl (zI g, 4, .inl (ai mt))), (r 4, .inl (zI g, 14, .inl (ai PT)))]
theorem rw_get {g : zG} {r : Nat → Nat} {ut uc la wo : Int} {bw : Nat → Nat} {mt : Nat → Int} {ms : Int} {k : Nat} {x : Nat × va_E} (h : (rwW g r ut uc la wo bw mt ms)[k]? = some x) : k < 5 ∧ x.1 = r k := by
  match k, h with
  | 0, h => cases h; exact ⟨by omega, rfl⟩
  | 1, h => cases h; exact ⟨by omega, rfl⟩
  | 2, h => cases h; exact ⟨by omega, rfl⟩
  | 3, h => cases h; exact ⟨by omega, rfl⟩
  | 4, h => cases h; exact ⟨by omega, rfl⟩
  | k + 5, h => simp [rwW] at h
section ZZ
variable {g : zG} {q r : Nat → Nat} {u ut uc la wo : Int} {NX : Nat → Int} {n : Nat → Nat} {es : Nat → Nat → Int} {bw : Nat → Nat} {mt : Nat → Int} {ms : Int} {H H1 : Heap} {A : Nat → Prop} {locs : List Loc} {H0 : Heap}
theorem zd_c (h : ZD A q r) : va_D A (cw g q u la NX n es) := ⟨fun i j x y hx hy e => by
  obtain ⟨hi, rfl⟩ := cw_lt hx
  obtain ⟨hj, rfl⟩ := cw_lt hy
  exact h.1 i j hi hj e, fun i x hx => by
  obtain ⟨hi, rfl⟩ := cw_lt hx
  exact h.2.2.2.1 i hi⟩
theorem zd_r (h : ZD A q r) : va_D A (rwW g r ut uc la wo bw mt ms) := ⟨fun i j x y hx hy e => by
  obtain ⟨hi, e1⟩ := rw_get hx
  obtain ⟨hj, e2⟩ := rw_get hy
  exact h.2.1 i j hi hj (by rw [← e1, ← e2]; exact e), fun i x hx => by
  obtain ⟨hi, e1⟩ := rw_get hx
  rw [e1]; exact h.2.2.2.2 i hi⟩
theorem zf_c (h : ZD A q r) (hS : va_S A H0 H locs) (hA : ∀ x, H0.size ≤ x → A x) : ∀ x, va_A (cw g q u la NX n es) H.size x → A x := fun x hx => hx.elim (fun ⟨j, e, hj⟩ => (zd_c h).2 j _ hj) (fun w => hA x (Nat.le_trans hS.1 w))
theorem zf_r (h : ZD A q r) (hS : va_S A H0 H locs) (hA : ∀ x, H0.size ≤ x → A x) : ∀ x, va_A (rwW g r ut uc la wo bw mt ms) H.size x → A x := fun x hx => hx.elim (fun ⟨j, e, hj⟩ => (zd_r h).2 j _ hj) (fun w => hA x (Nat.le_trans hS.1 w))
/-- what the class writes leaves the reference -/
theorem zk_r (h : ZD A q r) (hPr : va_P g.1 classes (rwW g r ut uc la wo bw mt ms) H) (hk : ∀ x : Nat, x < H.size → ¬ va_A (cw g q u la NX n es) H.size x → H1[x]? = H[x]?) : va_P g.1 classes (rwW g r ut uc la wo bw mt ms) H1 := by
  intro k x hx
  have old := hPr k x hx
  obtain ⟨hk5, e1⟩ := rw_get hx
  refine old.kept (hk x.1 old.lt (fun hA => ?_))
  rcases hA with ⟨j, e, hj⟩ | hA
  · obtain ⟨hj26, e2⟩ := cw_lt hj
    exact h.2.2.1 j k hj26 hk5 (by rw [← e1]; exact (Prod.mk.inj e2).1.symm)
  · have := old.lt; omega
theorem zk_c (h : ZD A q r) (hPc : va_P g.1 classes (cw g q u la NX n es) H) (hk : ∀ x : Nat, x < H.size → ¬ va_A (rwW g r ut uc la wo bw mt ms) H.size x → H1[x]? = H[x]?) : va_P g.1 classes (cw g q u la NX n es) H1 := by
  intro k x hx
  have old := hPc k x hx
  obtain ⟨hk26, rfl⟩ := cw_lt hx
  refine old.kept (hk (q k) old.lt (fun hA => ?_))
  rcases hA with ⟨j, e, hj⟩ | hA
  · obtain ⟨hj5, e2⟩ := rw_get hj
    exact h.2.2.1 k j hk26 hj5 e2
  · have : q k < H.size := old.lt
    omega
/-- what the reference writes leaves what the class left -/
theorem zk_w {w1 : va_W} (h : ZD A q r) (hPr : va_P g.1 classes (rwW g r ut uc la wo bw mt ms) H) (hlt : ∀ (k : Nat) (x : Nat × va_E), (rwW g r ut uc la wo bw mt ms)[k]? = some x → x.1 < H.size) (hz : H.size ≤ H1.size) {H2 : Heap} (hd : va_D (va_A (cw g q u la NX n es) H.size) w1) (hP1 : va_P g.1 classes w1 H1) (hk : ∀ x : Nat, x < H1.size → ¬ va_A (rwW g r ut uc la wo bw mt ms) H1.size x → H2[x]? = H1[x]?) : va_P g.1 classes w1 H2 := by
  intro k x hx
  have old := hP1 k x hx
  refine old.kept (hk x.1 old.lt (fun hA => ?_))
  rcases hA with ⟨j, e, hj⟩ | hA
  · obtain ⟨hj5, e2⟩ := rw_get hj
    have e2 : x.1 = r j := e2
    rcases hd.2 k x hx with ⟨i, e3, hi⟩ | hi
    · obtain ⟨hi26, e4⟩ := cw_lt hi
      exact h.2.2.1 i j hi26 hj5 (by rw [← e2]; exact (Prod.mk.inj e4).1.symm)
    · have := hlt j _ hj
      omega
  · have := old.lt; omega
end ZZ
