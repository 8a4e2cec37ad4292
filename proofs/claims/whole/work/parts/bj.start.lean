/-! THE LAW FROM ITS ENTRY -/
section ZS
variable {p : Program} {l : Launch} {e : Env} {R : Room} {s : State} {m : MethodId} {args : Array Value} {below : List Frame} {meth : Method} {c : Code} {H : Heap} {locs : List Loc} {cells slots : Nat} {Q : State → Prop}
variable {cc : ByteArray} {pc : Nat} {ls : Array Slot} {rest st0 : List Value} {A : Nat → Prop} {g : zG}
variable {own : String} {index nL maxL n f k mc ms b : Nat} {y : MethodName} {bytes : ByteArray} {As : List Value} {wc wo : va_W}
theorem zcIa {post : va_W → Prop} (S : CallFix p m c cc nL s args lw_ok own) (hw : zwI own index y bytes maxL n) (hy : y.name = "<init>")
    (hM : Met l y (Cond.code y bytes maxL none :: lw_ok) { frames := f, cells := mc, slots := ms, locals := k } (zPa g (.ref b :: As) wc wo H.size) (va_Qv post (zB g (va_A wc H.size)) (va_A wc H.size)) mc ms (va_A wc H.size))
    (hR : f + 1 ≤ R.frames ∧ 8 + (maxL + 11) + k ≤ R.locals) (hc : cells + mc ≤ R.cells ∧ slots + ms ≤ R.slots) (hAO : va_AO R_RG s)
    (hK : va_K g.1 classes (tz g) s) (hZ : stz g A s s.heap) (hS : va_S A s.heap H locs) (hP : va_P g.1 classes wc H) (hD : va_D (fun _ => True) wc) (hF : ∀ q, va_A wc H.size q → A q) (hO : va_P g.1 classes wo H) (hAp : zAp wo (va_A wc H.size))
    (hn : As.length = n) (hsz : ls.size = nL) (hst : st0 = As.reverse ++ .ref b :: rest) (hrm : (rest.map fun v => v.category).sum ≤ 8) (hdg : decode cc pc = .ok (.invokespecial index, 3))
    (kk : ∀ (w1 : va_W) (H1 : Heap) (locs1 : List Loc), post w1 → va_P g.1 classes w1 H1 → va_D (va_A wc H.size) w1 → H.size ≤ H1.size → (∀ q : Nat, q < H.size → ¬ va_A wc H.size q → H1[q]? = H[q]?) → va_S A s.heap H1 locs1 → W p l e R s m args below meth c H1 locs1 (cells + mc) (slots + ms) Q (F0 m (pc + 3) ls rest)) : W p l e R s m args below meth c H locs cells slots Q (F0 m pc ls st0) := by
  subst hst
  refine va_callv (va_runI (As := As) (rest := rest) S hM (cwI n S.2.2.2.2 hw.good rfl rfl rfl (S.2.2.2.2 _ hw.1.2.2.1) (S.2.2.2.2 _ hw.1.1) (S.2.2.2.2 _ hw.1.2.1) hy hw.2 hR) ⟨zPa_blind, fun U hU hW => ⟨rfl, by rw [hU], by rw [hU]; exact hP, va_K.moved hW.alike hK, hD, hZ.go hS hW.alike hU hF, by rw [hU]; exact hO, hAp, va_AO.moved hW.alike hAO⟩⟩ rfl hn hsz rfl (lv_room hrm) hdg hc) hS (fun q _ h => hF q h) hF (fun u t H1 locs1 ht hvm hw hB hz1 hk1 hS1 => ?_)
  obtain ⟨b1, b2, b3⟩ := hB
  rw [ht] at b1
  exact kk u H1 locs1 hw b1 b3 hz1 hk1 hS1
end ZS
theorem zd_of {g : zG} {q r : Nat → Nat} {u ut uc la la2 wo : Int} {NX : Nat → Int} {n : Nat → Nat} {es : Nat → Nat → Int} {bw : Nat → Nat} {mt : Nat → Int} {ms : Int} {H : Heap} {A : Nat → Prop} {a : Nat} {x : va_E} (hDc : va_D A (cw g q u la NX n es)) (hPc : va_P g.1 classes (cw g q u la NX n es) H) (ha : ∀ i, i < 26 → q i ≠ a) (haA : A a) (hA : ∀ y, H.size ≤ y → A y) (hd : va_D (va_A [(a, x)] H.size) (rwW g r ut uc la2 wo bw mt ms)) : ZD A q r := by
  have hr : ∀ j, j < 5 → ∃ e : va_E, (rwW g r ut uc la2 wo bw mt ms)[j]? = some (r j, e) := fun j hj => by
    rcases (show j = 0 ∨ j = 1 ∨ j = 2 ∨ j = 3 ∨ j = 4 by omega) with rfl | rfl | rfl | rfl | rfl <;> exact ⟨_, rfl⟩
  have hin : ∀ j, j < 5 → r j = a ∨ H.size ≤ r j := fun j hj => by
    obtain ⟨e, he⟩ := hr j hj
    rcases hd.2 j _ he with ⟨k, e2, hk⟩ | h
    · match k, hk with
      | 0, hk => exact Or.inl (Prod.mk.inj (Option.some.inj hk)).1.symm
      | k + 1, hk => simp at hk
    · exact Or.inr h
  refine ⟨fun i j hi hj e => cw_inj hDc hi hj e, fun i j hi hj e => ?_, fun i j hi hj e => ?_, fun i hi => hDc.2 i (q i, cwc g q u la NX n es i) (cw_get hi), fun j hj => ?_⟩
  · obtain ⟨e1, h1⟩ := hr i hi
    obtain ⟨e2, h2⟩ := hr j hj
    exact hd.1 i j _ _ h1 h2 e
  · have hlt : q i < H.size := (hPc i _ (cw_get hi)).lt
    rcases hin j hj with w | w
    · exact ha i hi (by rw [e, w])
    · rw [e] at hlt; omega
  · rcases hin j hj with w | w
    · rw [w]; exact haA
    · exact hA _ w
theorem mode_of {md : Int32} {u ut uc la la2 wo : Int} {NX : Nat → Int} (h1 : csM md u la NX) (h2 : mdU md ut la2 wo) (h3 : mdC md uc) : la2 = la ∧ ∃ last nw : Nat, MODE last nw u ut uc la wo NX := by
  obtain ⟨a, b, d⟩ := h1
  rcases h2 with ⟨m1, e1, e2, e3⟩ | ⟨m1, e1, e2, e3⟩
  · have ha : la = 255 := a.elim (fun x => x.2) (fun x => absurd m1 x.1)
    rcases h3 with ⟨m2, e4⟩ | ⟨m2, e4⟩
    · have hb : u = 0 := b.elim (fun x => x.2) (fun x => absurd m2 x.1)
      have hd : NX = NXa la := d.elim (fun x => x.2.2) (fun x => absurd ⟨m1, m2⟩ x.1)
      rw [ha] at hd
      exact ⟨by omega, 255, 4, ⟨by omega, by omega, by omega, by omega, by omega⟩, Or.inl ⟨e1, e4, rfl, hd⟩⟩
    · have hb : u = 1 := b.elim (fun x => absurd x.1 m2) (fun x => x.2)
      have hd : NX = NXb la := d.elim (fun x => absurd x.2.1 m2) (fun x => x.2)
      rw [ha] at hd
      exact ⟨by omega, 255, 4, ⟨by omega, by omega, by omega, by omega, by omega⟩, Or.inr (Or.inl ⟨e1, e4, rfl, hd⟩)⟩
  · have ha : la = 1114111 := a.elim (fun x => absurd x.1 m1) (fun x => x.2)
    have hd : NX = NXb la := d.elim (fun x => absurd x.1 m1) (fun x => x.2)
    rw [ha] at hd
    rcases h3 with ⟨m2, e4⟩ | ⟨m2, e4⟩
    · have hb : u = 0 := b.elim (fun x => x.2) (fun x => absurd m2 x.1)
      exact ⟨by omega, 1114111, 17408, ⟨by omega, by omega, by omega, by omega, by omega⟩, Or.inr (Or.inr (Or.inl ⟨e1, e4, rfl, hd⟩))⟩
    · have hb : u = 1 := b.elim (fun x => absurd x.1 m2) (fun x => x.2)
      exact ⟨by omega, 1114111, 17408, ⟨by omega, by omega, by omega, by omega, by omega⟩, Or.inr (Or.inr (Or.inr ⟨e1, e4, rfl, hd⟩))⟩
theorem INV_0 (last : Nat) : INV last 0 (fun _ => 0) (fun _ _ => 0) (fun _ => 0) := by
  refine ⟨fun _ => (by show (0 : Nat) < 18446744073709551616; decide), fun s _ => rep_congr rep_nil (fun c _ => ?_), [], by simp, fun s _ => gok_nil⟩
  unfold bt
  rw [Nat.zero_testBit]
theorem cw_kept {g : zG} {q : Nat → Nat} {u la : Int} {NX : Nat → Int} {n : Nat → Nat} {es : Nat → Nat → Int} {H H1 : Heap} {a : Nat} {x : va_E} (hPc : va_P g.1 classes (cw g q u la NX n es) H) (ha : ∀ i, i < 26 → q i ≠ a) (hk : ∀ y : Nat, y < H.size → ¬ va_A [(a, x)] H.size y → H1[y]? = H[y]?) : va_P g.1 classes (cw g q u la NX n es) H1 := by
  intro k z hz
  have old := hPc k z hz
  obtain ⟨hk26, rfl⟩ := cw_lt hz
  have hlt : q k < H.size := old.lt
  refine old.kept (hk (q k) hlt (fun hA => ?_))
  rcases hA with ⟨j, e, hj⟩ | hA
  · match j, hj with
    | 0, hj => exact ha k hk26 (Prod.mk.inj (Option.some.inj hj)).1.symm
    | j + 1, hj => simp at hj
  · omega
set_option maxHeartbeats 4000000 in
set_option maxRecDepth 100000 in
theorem whole_start {p : Program} {e : Env} {s : State} {m : MethodId} {below : List Frame} {meth : Method} {c : Code} (l : Launch) {b L : Nat} {xs : Nat → Int32} (hL : L ≤ 2561) (C0 : lw_At p s m meth c b L xs) : W p l e room_1 s m #[Value.ref b] below meth c s.heap [] 0 0 (lw_Z below #[Value.ref b] s) (entryFrame m ([Value.ref b] : List Value).toArray 4) := by
  obtain ⟨hx, hb, hr, hml, hown, hts, hX, hbl, hlocks, hgv⟩ := id C0
  have ht : ∀ w ∈ lw_ok, w.before #[Value.ref b] s = true := fun w h => hts w (List.mem_filter.mp h).1
  have hA : ∀ x : Nat, s.heap.size ≤ x → (fun x : Nat => s.heap.size ≤ x) x := fun _ h => h
  have hbA : ¬ (fun x : Nat => s.heap.size ≤ x) b := Nat.not_le.mpr hbl
  obtain ⟨f, hf⟩ := stz_of (A := fun x : Nat => s.heap.size ≤ x) (flat_of_before _ hgv) hts (fun a h => Nat.not_le.mpr h)
  obtain ⟨c0, i0, n0⟩ := u_known (C := R_CS) (T := F_CS) (N := 6) (n := 6) ht i_CS (ht _ k_9)
  obtain ⟨c1, i1, n1⟩ := u_known (C := R_RG) (T := F_RG) (N := 2) (n := 2) ht i_RG (ht _ k_88)
  obtain ⟨c2, i2, n2⟩ := u_known (C := R_TB) (T := F_TB) (N := 4) (n := 4) ht i_TB (ht _ k_18)
  obtain ⟨c3, i3, n3⟩ := u_known (C := R_CR) (T := F_CR) (N := 2) (n := 2) ht i_CR (ht _ k_53)
  obtain ⟨c4, i4, n4⟩ := u_known (C := R_MO) (T := F_MO) (N := 9) (n := 9) ht i_MO (ht _ k_379)
  obtain ⟨aI, kI, oI, hI1, hI2, hI3⟩ := Cond.arrayClass_spec (ht _ k_51)
  obtain ⟨aJ, kJ, oJ, hJ1, hJ2, hJ3⟩ := Cond.arrayClass_spec (ht _ k_446)
  obtain ⟨aB, kB, oB, hB1, hB2, hB3⟩ := Cond.arrayClass_spec (ht _ k_447)
  have hAO : va_AO R_RG s := va_AO.of (hts _ k_100)
  obtain ⟨oR, aR, kR, hR1, hR2, hR3, hR4, hR5⟩ := Cond.arrayOver_spec hAO
  obtain ⟨g, hg⟩ : ∃ g : zG, g = ((fun k => if k = 0 then c0 else if k = 1 then c1 else if k = 2 then c2 else if k = 3 then c3 else c4, fun k => if k = 0 then i0 else if k = 1 then i1 else if k = 2 then i2 else if k = 3 then i3 else i4), (aI, aJ, aB, aR), f) := ⟨_, rfl⟩
  have hK : va_K g.1 classes (tz g) s := by
    rw [hg]
    refine ⟨fun k q hq => ?_, fun k q hq => ?_⟩
    · match k, hq with
      | 0, hq => cases hq; exact n0
      | 1, hq => cases hq; exact n1
      | 2, hq => cases hq; exact n2
      | 3, hq => cases hq; exact n3
      | 4, hq => cases hq; exact n4
      | k + 5, hq => simp [classes] at hq
    · match k, hq with
      | 0, hq => cases hq; exact ⟨fun N z => ⟨(fun k h => by cases h), kI, hI2, oI, hI3⟩, hI1⟩
      | 1, hq => cases hq; exact ⟨fun N z => ⟨(fun k h => by cases h), kJ, hJ2, oJ, hJ3⟩, hJ1⟩
      | 2, hq => cases hq; exact ⟨fun N z => ⟨(fun k h => by cases h), kB, hB2, oB, hB3⟩, hB1⟩
      | 3, hq => cases hq; exact ⟨fun N z => ⟨(fun k h => by cases h), kR, hR3, oR, hR4⟩, kR, oR, hR3, hR4, hR1, hR5⟩
      | k + 4, hq => simp [tz] at hq
  have hZ : stz g (fun x : Nat => s.heap.size ≤ x) s s.heap := by rw [hg]; exact hf
  clear hg
  have hS : va_S (fun x : Nat => s.heap.size ≤ x) s.heap s.heap [] := va_S.rf
  have hP : va_P g.1 classes [] s.heap := fun k q h => by simp at h
  have hD : va_D (fun x : Nat => s.heap.size ≤ x) [] := ⟨fun i j p q h => by simp at h, fun k q h => by simp at h⟩
  have hl := lv_entry ([.ref b]) (n := 4) (Nat.le_of_ble_eq_true rfl)
  rw [lg_entry_eq]
  generalize (lg_sl ([.ref b]) ++ List.replicate (4 - (lg_sl ([.ref b])).length) Slot.unset).toArray = ls at hl ⊢
  have hl : lv_has ls 4 [(0, .ref b)] := hl
  obtain ⟨md, hmd⟩ : ∃ md : Int32, md = if 0 < L then xs 0 else 0 := ⟨_, rfl⟩
  refine va_new (ci := 0) (fs := [.int (iI 0), .int (iI 0), .null, .null, .null, .null]) (C := R_CS) (T := F_CS) (N := 6) hx hb ht i_CS t_CS t_CS_ok hown (ht _ k_8) (ht _ k_9) (ht _ k_1) hK hP hD hS hA rfl (fun j hj => by rcases (show j = 0 ∨ j = 1 ∨ j = 2 ∨ j = 3 ∨ j = 4 ∨ j = 5 by omega) with rfl | rfl | rfl | rfl | rfl | rfl <;> first | rfl | exact congrArg Value.int iI_0.symm) (Nat.le_of_ble_eq_true rfl) (Nat.le_of_ble_eq_true rfl) d_LA_law_0 (fun q0 H hP hD hS => ?_)
  have hP : va_P g.1 classes [(q0, .inr (0, [.int (iI 0), .int (iI 0), .null, .null, .null, .null]))] H := hP
  have hD : va_D (fun x : Nat => s.heap.size ≤ x) [(q0, .inr (0, [.int (iI 0), .int (iI 0), .null, .null, .null, .null]))] := hD
  refine lv_dup hx hb d_LA_law_3 rfl ?_
  refine lv_aload_n hx hb d_LA_law_4 rfl (lv_at hl 0 rfl) ?_
  refine lv_iconst (v := iI 0) hx hb d_LA_law_5 rfl ?_
  refine zcX (g := g) (As := [.ref b, .int (iI 0)]) (rest := [.ref q0, .ref q0]) ⟨hx, hb, hml, hown, ht⟩ t_LA_9 (c_LA_cell l b L xs hL) ⟨Nat.le_of_ble_eq_true rfl, Nat.le_of_ble_eq_true rfl⟩ ⟨Nat.le_of_ble_eq_true rfl, Nat.le_of_ble_eq_true rfl⟩ (hX.kept (hS.2.1 b hbl hbA)) (Nat.lt_of_lt_of_le hbl hS.1) rfl hl.1 rfl (Nat.le_of_ble_eq_true rfl) d_LA_law_6 (fun a6 h6 => ?_)
  rw [← hmd] at h6
  subst h6
  have hF := va_free (wc := [(q0, .inr (0, [.int (iI 0), .int (iI 0), .null, .null, .null, .null]))]) hD hS hA [0] rfl
  refine zcIa (As := [.int a6]) (rest := [.ref q0]) ⟨hx, hb, hml, hown, ht⟩ n_LA_15 rfl (c_CS_init l g H.size q0 0 0 a6) ⟨Nat.le_of_ble_eq_true rfl, Nat.le_of_ble_eq_true rfl⟩ ⟨Nat.le_of_ble_eq_true rfl, Nat.le_of_ble_eq_true rfl⟩ hAO hK hZ hS hP (hD.weaken (fun _ _ _ _ => trivial)) hF zP_nil zAp_nil rfl hl.1 rfl (Nat.le_of_ble_eq_true rfl) d_LA_law_9 (fun w1 H1 locs h9 pp dd zz kk hS => ?_)
  obtain ⟨q, u, la, NX, hq0, hcm, rfl⟩ := h9
  subst hq0
  have hP : va_P g.1 classes (cw g q u la NX (fun _ => 0) (fun _ _ => 0)) H1 := pp
  have hD : va_D (fun x : Nat => s.heap.size ≤ x) (cw g q u la NX (fun _ => 0) (fun _ _ => 0)) := dd.weaken (fun _ _ _ h9 => hF _ h9)
  refine lv_astore_n (lv' := [(1, .ref (q 0)), (0, .ref b)]) hx hb d_LA_law_12 rfl hl (by decide) rfl (fun ls hl => ?_)
  refine va_new (ci := 4) (fs := [.int (iI 0), .int (iI 0), .int (iI 0), .int (iI 0), .null, .null, .null, .int (iI 0), .null]) (C := R_MO) (T := F_MO) (N := 9) hx hb ht i_MO t_MO t_MO_ok hown (ht _ k_378) (ht _ k_379) (ht _ k_5) hK hP hD hS hA rfl (fun j hj => by rcases (show j = 0 ∨ j = 1 ∨ j = 2 ∨ j = 3 ∨ j = 4 ∨ j = 5 ∨ j = 6 ∨ j = 7 ∨ j = 8 by omega) with rfl | rfl | rfl | rfl | rfl | rfl | rfl | rfl | rfl <;> first | rfl | exact congrArg Value.int iI_0.symm) (Nat.le_of_ble_eq_true rfl) (Nat.le_of_ble_eq_true rfl) d_LA_law_13 (fun r0 H2 hP2 hD2 hS => ?_)
  have hlen : (cw g q u la NX (fun _ => 0) (fun _ _ => 0)).length = 26 := by unfold cw; rw [List.length_map, List.length_range]
  have at26 : (cw g q u la NX (fun _ => 0) (fun _ _ => 0) ++ [(r0, .inr (4, [.int (iI 0), .int (iI 0), .int (iI 0), .int (iI 0), .null, .null, .null, .int (iI 0), .null]))])[26]? = some (r0, .inr (4, [.int (iI 0), .int (iI 0), .int (iI 0), .int (iI 0), .null, .null, .null, .int (iI 0), .null])) := by
    rw [List.getElem?_append_right (by omega), hlen]; rfl
  have atc : ∀ (k : Nat) (x : Nat × va_E), (cw g q u la NX (fun _ => 0) (fun _ _ => 0))[k]? = some x → (cw g q u la NX (fun _ => 0) (fun _ _ => 0) ++ [(r0, .inr (4, [.int (iI 0), .int (iI 0), .int (iI 0), .int (iI 0), .null, .null, .null, .int (iI 0), .null]))])[k]? = some x := fun k x hx9 => by
    rw [List.getElem?_append_left (by have := (cw_lt hx9).1; omega)]; exact hx9
  have hPc : va_P g.1 classes (cw g q u la NX (fun _ => 0) (fun _ _ => 0)) H2 := fun k x hx9 => hP2 k x (atc k x hx9)
  have hP1 : va_P g.1 classes [(r0, .inr (4, [.int (iI 0), .int (iI 0), .int (iI 0), .int (iI 0), .null, .null, .null, .int (iI 0), .null]))] H2 := fun k x hx9 => by
    match k, hx9 with
    | 0, hx9 => cases hx9; exact hP2 26 _ at26
    | k + 1, hx9 => simp at hx9
  have hne : ∀ i, i < 26 → q i ≠ r0 := fun i hi e9 => by
    have := hD2.1 i 26 _ _ (atc i _ (cw_get hi)) at26 e9
    omega
  have hr0A : s.heap.size ≤ r0 := hD2.2 26 _ at26
  have hD1 : va_D (fun _ => True) [(r0, (.inr (4, [.int (iI 0), .int (iI 0), .int (iI 0), .int (iI 0), .null, .null, .null, .int (iI 0), .null]) : va_E))] := ⟨fun i j x y hx9 hy9 _ => by
    match i, j, hx9, hy9 with
    | 0, 0, _, _ => rfl
    | i + 1, _, hx9, _ => simp at hx9
    | 0, j + 1, _, hy9 => simp at hy9, fun _ _ _ => trivial⟩
  have hF2 : ∀ x, va_A [(r0, (.inr (4, [.int (iI 0), .int (iI 0), .int (iI 0), .int (iI 0), .null, .null, .null, .int (iI 0), .null]) : va_E))] H2.size x → s.heap.size ≤ x := fun x hx9 => by
    rcases hx9 with ⟨k, e9, hk9⟩ | hx9
    · match k, hk9 with
      | 0, hk9 => rw [← (Prod.mk.inj (Option.some.inj hk9)).1]; exact hr0A
      | k + 1, hk9 => simp at hk9
    · exact Nat.le_trans hS.1 hx9
  have hSz : s.heap.size ≤ H2.size := hS.1
  refine lv_dup hx hb d_LA_law_16 rfl ?_
  refine lv_aload_n hx hb d_LA_law_17 rfl (lv_at hl 1 rfl) ?_
  refine lv_iconst (v := iI 0) hx hb d_LA_law_18 rfl ?_
  refine zcX (g := g) (As := [.ref b, .int (iI 0)]) (rest := [.ref r0, .ref r0]) ⟨hx, hb, hml, hown, ht⟩ t_LA_9 (c_LA_cell l b L xs hL) ⟨Nat.le_of_ble_eq_true rfl, Nat.le_of_ble_eq_true rfl⟩ ⟨Nat.le_of_ble_eq_true rfl, Nat.le_of_ble_eq_true rfl⟩ (hX.kept (hS.2.1 b hbl hbA)) (Nat.lt_of_lt_of_le hbl hS.1) rfl hl.1 rfl (Nat.le_of_ble_eq_true rfl) d_LA_law_19 (fun a9 h9 => ?_)
  rw [← hmd] at h9
  subst h9
  refine zcI (As := [.int a9]) (rest := [.ref r0]) ⟨hx, hb, hml, hown, ht⟩ n_LA_20 rfl (c_MO_init l g H2.size r0 0 0 0 0 0 a9) ⟨Nat.le_of_ble_eq_true rfl, Nat.le_of_ble_eq_true rfl⟩ ⟨Nat.le_of_ble_eq_true rfl, Nat.le_of_ble_eq_true rfl⟩ hK hZ hS hP1 hD1 hF2 zP_nil zAp_nil rfl hl.1 rfl (Nat.le_of_ble_eq_true rfl) d_LA_law_22 (fun w2 H3 locs2 h9 pp2 dd2 zz2 kk2 hS => ?_)
  obtain ⟨r, ut, uc, la2, wo, hr0, hmu, hmc, rfl⟩ := h9
  obtain ⟨rfl, last, nw, hM⟩ := mode_of hcm hmu hmc
  have hZD : ZD (fun x : Nat => s.heap.size ≤ x) q r := zd_of hD hPc hne hr0A (fun y hy => Nat.le_trans hSz hy) dd2
  subst hr0
  have hPc3 := cw_kept hPc hne kk2
  refine lv_astore_n (lv' := [(2, .ref (r 0)), (1, .ref (q 0)), (0, .ref b)]) hx hb d_LA_law_25 rfl hl (by decide) rfl (fun ls hl => ?_)
  refine lv_iconst (v := iI 1) hx hb d_LA_law_26 rfl ?_
  refine lv_istore_n (lv' := [(3, .int (iI 1)), (2, .ref (r 0)), (1, .ref (q 0)), (0, .ref b)]) hx hb d_LA_law_27 rfl hl (by decide) rfl (fun ls hl => ?_)
  exact law_loop hL C0 hK hZ hZD hM (L + 1) 0 (fun _ => 0) (fun _ _ => 0) (fun _ => 0) (fun _ => 0) 0 H3 locs2 ls (by omega) (by omega) (INV_0 last) hPc3 pp2 hS (lv_sub hl [3, 2, 1, 0] rfl)
