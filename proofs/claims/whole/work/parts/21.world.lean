/-! WORLD: classes, array classes, static rows, the forms of contracts, rows of calls -/
abbrev classes : List vw_C := [(R_CS, F_CS, 6), (R_RG, F_RG, 2), (R_TB, F_TB, 4), (R_CR, F_CR, 2), (R_MO, F_MO, 9)]
abbrev zG : Type := va_G × (ClassId × ClassId × ClassId × ClassId) × (Nat → Nat)
abbrev zI (g : zG) : ClassId := g.2.1.1
abbrev zJ (g : zG) : ClassId := g.2.1.2.1
abbrev zBt (g : zG) : ClassId := g.2.1.2.2.1
abbrev zRf (g : zG) : ClassId := g.2.1.2.2.2
abbrev tz (g : zG) : List (ClassId × FieldType) := [(zI g, .int), (zJ g, .long), (zBt g, .byte), (zRf g, .object R_RG)]
abbrev zr (f n : Nat) : Room := { frames := f, cells := 0, slots := 0, locals := n }
def stC (i : Nat) : String := if i < 18 then "CharacterSets" else if i < 20 then "CharacterSets$Table" else "CharacterSets$CaseRings"
def stN : Nat → String := fun i => match i with
  | 0 => "LETTER_GROUPS"
  | 1 => "NOTHING"
  | 2 => "DIGITS"
  | 3 => "LOWERS"
  | 4 => "UPPERS"
  | 5 => "ALPHAS"
  | 6 => "ALNUMS"
  | 7 => "WORDS"
  | 8 => "SPACES"
  | 9 => "BLANKS"
  | 10 => "CONTROLS"
  | 11 => "GRAPHS"
  | 12 => "PRINTS"
  | 13 => "PUNCTS"
  | 14 => "HEX_DIGITS"
  | 15 => "ASCII"
  | 16 => "VERTICALS"
  | 17 => "HORIZONTALS"
  | 18 => "CATEGORY_ROWS"
  | 19 => "SCRIPT_ROWS"
  | 20 => "PAIR_ROWS"
  | _ => "TRIPLES"
def stE : Nat → List Int := fun i => match i with
  | 0 => [15, 112, 128, 1792, 260096, 3932160, 29360128]
  | 1 => []
  | 2 => [48, 57]
  | 3 => [97, 122]
  | 4 => [65, 90]
  | 5 => [65, 90, 97, 122]
  | 6 => [48, 57, 65, 90, 97, 122]
  | 7 => [48, 57, 65, 90, 95, 95, 97, 122]
  | 8 => [9, 13, 32, 32]
  | 9 => [9, 9, 32, 32]
  | 10 => [0, 31, 127, 127]
  | 11 => [33, 126]
  | 12 => [32, 126]
  | 13 => [33, 47, 58, 64, 91, 96, 123, 126]
  | 14 => [48, 57, 65, 70, 97, 102]
  | 15 => [0, 127]
  | 16 => [10, 13, 133, 133, 8232, 8233]
  | 17 => [9, 9, 32, 32, 160, 160, 5760, 5760, 6158, 6158, 8192, 8202, 8239, 8239, 8287, 8287, 12288, 12288]
  | 18 => [0, 31, 1, 32, 32, 24, 33, 35, 16, 36, 36, 18, 37, 39, 16, 40, 40, 17, 41, 41, 13, 42, 42, 16, 43, 43, 20, 44, 44, 16, 45, 45, 12, 46, 47, 16, 48, 57, 8, 58, 59, 16, 60, 62, 20, 63, 64, 16, 65, 90, 6, 91, 91, 17, 92, 92, 16, 93, 93, 13, 94, 94, 19, 95, 95, 11, 96, 96, 19, 97, 122, 4, 123, 123, 17, 124, 124, 20, 125, 125, 13, 126, 126, 20, 127, 159, 1, 160, 160, 24, 161, 161, 16, 162, 165, 18, 166, 166, 21, 167, 167, 16, 168, 168, 19, 169, 169, 21, 170, 170, 5, 171, 171, 15, 172, 172, 20, 173, 173, 2, 174, 174, 21, 175, 175, 19, 176, 176, 21, 177, 177, 20, 178, 179, 10, 180, 180, 19, 181, 181, 4, 182, 183, 16, 184, 184, 19, 185, 185, 10, 186, 186, 5, 187, 187, 14, 188, 190, 10, 191, 191, 16, 192, 214, 6, 215, 215, 20, 216, 222, 6, 223, 246, 4, 247, 247, 20, 248, 255, 4, 256, 311, 25, 312, 312, 4, 313, 328, 25, 329, 329, 4, 330, 375, 25, 376, 376, 6, 377, 382, 25, 383, 383, 4, 768, 879, 7, 913, 929, 6, 931, 937, 6, 945, 969, 4, 1024, 1071, 6, 1072, 1119, 4, 1488, 1514, 5, 1568, 1599, 5, 1601, 1610, 5, 1632, 1641, 8, 8192, 8202, 24, 8203, 8207, 2, 8208, 8213, 12, 8214, 8215, 16, 8216, 8216, 15, 8217, 8217, 14, 8218, 8218, 17, 8219, 8220, 15, 8221, 8221, 14, 8222, 8222, 17, 8223, 8223, 15, 8224, 8231, 16, 8232, 8232, 22, 8233, 8233, 23, 8239, 8239, 24, 8287, 8287, 24, 8352, 8383, 18, 8490, 8491, 6, 8544, 8559, 9, 8592, 8596, 20, 12288, 12288, 24, 12353, 12438, 5, 12449, 12538, 5, 19968, 40959, 5, 44032, 55203, 5, 57344, 63743, 3, 65039, 65039, 7, 65279, 65279, 2, 127744, 128591, 21]
  | 19 => [170, 170, 2, 186, 186, 2, 8490, 8491, 2, 913, 969, 3, 1024, 1119, 4, 1488, 1514, 5, 1568, 1610, 6, 12353, 12438, 7, 12449, 12538, 8, 19968, 40959, 9, 44032, 55203, 10, 768, 879, 11, 65039, 65039, 11]
  | 20 => [65, 90, 32, 1, 192, 214, 32, 1, 216, 222, 32, 1, 913, 929, 32, 1, 931, 937, 32, 1, 1040, 1071, 32, 1, 1024, 1039, 80, 1, 256, 302, 1, 2, 306, 310, 1, 2, 313, 327, 1, 2, 330, 374, 1, 2, 377, 381, 1, 2, 255, 255, 121, 1]
  | _ => [83, 115, 383, 75, 107, 8490, 197, 229, 8491, 181, 924, 956, 931, 962, 963]
def stz (g : zG) (A : Nat → Prop) (U : State) (H : Heap) : Prop := ∀ i, i < 22 → va_Z (stC i) (stN i) "[I" (.ref (g.2.2 i)) A U H ∧ va_T .int (g.2.2 i) (stE i).length (fun j => .int (iI ((stE i).getD j 0))) A U H
theorem stz.go {g : zG} {A B : Nat → Prop} {s U : State} {H : Heap} {locs : List Loc} (h : stz g A s s.heap) (hS : va_S A s.heap H locs) (hvm : s.vm.Alike U.vm) (hU : U.heap = H) (hB : ∀ q, B q → A q) : stz g B U U.heap := fun i hi => by
  rw [hU]
  exact ⟨((va_Z.moved hvm (h i hi).1).kept hS.2.1).narrow hB, ((va_T.moved hvm (h i hi).2).kept hS.2.1).narrow hB⟩
theorem stz.calling {g : zG} {A : Nat → Prop} {U : State} {f : JFrame} {mk : MethodId} {a : Array Value} (h : stz g A U U.heap) : stz g A (U.calling f mk a) (U.calling f mk a).heap := fun i hi =>
  ⟨va_Z.moved (u := U) (U := U.calling f mk a) (Vm.Alike.refl U.vm) (h i hi).1, va_T.moved (u := U) (U := U.calling f mk a) (Vm.Alike.refl U.vm) (h i hi).2⟩
def zP (g : zG) (avs : List Value) (wc : va_W) : Array Value → State → Prop := va_Pc avs (fun U => va_P g.1 classes wc U.heap ∧ va_K g.1 classes (tz g) U ∧ stz g (fun _ => False) U U.heap)
theorem zP_blind {g : zG} {avs : List Value} {wc : va_W} : FrameBlind (zP g avs wc) := fun a U f mk q => ⟨q.1, q.2.1, va_K.moved (u := U) (U := U.calling f mk a) (Vm.Alike.refl U.vm) q.2.2.1, q.2.2.2.calling⟩
def zAp (wo : va_W) (A : Nat → Prop) : Prop := ∀ (k : Nat) (x : Nat × va_E), wo[k]? = some x → ¬ A x.1
theorem zAp_nil {A : Nat → Prop} : zAp [] A := fun k x h => by simp at h
theorem zP_nil {D : va_G} {cl : List vw_C} {H : Heap} : va_P D cl [] H := fun k x h => by simp at h
theorem zO_kept {D : va_G} {cl : List vw_C} {wo : va_W} {A : Nat → Prop} {H0 H : Heap} {locs : List Loc} (h : va_P D cl wo H0) (ha : zAp wo A) (hS : va_S A H0 H locs) : va_P D cl wo H := h.kept (fun k x hx => hS.2.1 x.1 (h k x hx).lt (ha k x hx))
/-- a writing method: the cells wc are its own, the cells wo stay -/
def zPw (g : zG) (avs : List Value) (wc wo : va_W) (sz : Nat) : Array Value → State → Prop := va_Pc avs (fun U => U.heap.size = sz ∧ va_P g.1 classes wc U.heap ∧ va_K g.1 classes (tz g) U ∧ va_D (fun _ => True) wc ∧ stz g (va_A wc sz) U U.heap ∧ va_P g.1 classes wo U.heap ∧ zAp wo (va_A wc sz))
theorem zPw_blind {g : zG} {avs : List Value} {wc wo : va_W} {sz : Nat} : FrameBlind (zPw g avs wc wo sz) := fun a U f mk q => ⟨q.1, q.2.1, q.2.2.1, va_K.moved (u := U) (U := U.calling f mk a) (Vm.Alike.refl U.vm) q.2.2.2.1, q.2.2.2.2.1, q.2.2.2.2.2.1.calling, q.2.2.2.2.2.2⟩
def zB (g : zG) (A : Nat → Prop) (w1 : va_W) (t : State) : Prop := va_P g.1 classes w1 t.heap ∧ va_K g.1 classes (tz g) t ∧ va_D A w1
section ZC
variable {p : Program} {l : Launch} {e : Env} {R : Room} {s : State} {m : MethodId} {args : Array Value} {below : List Frame} {meth : Method} {c : Code} {H : Heap} {locs : List Loc} {cells slots : Nat} {Q : State → Prop}
variable {cc : ByteArray} {pc : Nat} {ls : Array Slot} {rest st0 : List Value} {A : Nat → Prop} {g : zG}
theorem ix_gets (hx : p.tables.exec = Jvm.exec) (hb : c.code = cc) (hZ : stz g A s s.heap) (i : Nat) (hi : i < 22) (hS : va_S A s.heap H locs) {own : String} {index : Nat} (hown : s.vm.findClass own = some m.cls) (hlink : (Cond.fieldLink own index (stC i) (stN i) "[I").before args s = true) (hdg : decode cc pc = .ok (.getstatic index, 3))
    (kk : W p l e R s m args below meth c H locs cells slots Q (F0 m (pc + 3) ls (.ref (g.2.2 i) :: rest))) : W p l e R s m args below meth c H locs cells slots Q (F0 m pc ls rest) :=
  va_gets hx hb (hZ i hi).1 hS hown hlink (fun _ h => h) hdg kk
theorem ix_tald (hx : p.tables.exec = Jvm.exec) (hb : c.code = cc) (hZ : stz g A s s.heap) (i : Nat) (hi : i < 22) (hS : va_S A s.heap H locs) {z : Int} (j : Nat) (h : z = (j : Int) ∧ j < (stE i).length ∧ j ≤ 2147483647) (hdg : decode cc pc = .ok (.iaload, 1))
    (kk : W p l e R s m args below meth c H locs cells slots Q (F0 m (pc + 1) ls (.int (iI ((stE i).getD j 0)) :: rest))) : W p l e R s m args below meth c H locs cells slots Q (F0 m pc ls (.int (iI z) :: .ref (g.2.2 i) :: rest)) :=
  va_ti hx hb (hZ i hi).2 hS (iI_inN h) (by rw [iI_clN h]) hdg kk
theorem ix_tlen (hx : p.tables.exec = Jvm.exec) (hb : c.code = cc) (hZ : stz g A s s.heap) (i : Nat) (hi : i < 22) (hS : va_S A s.heap H locs) (n : Int) (hn : ((stE i).length : Int) = n) (hdg : decode cc pc = .ok (.arraylength, 1))
    (kk : W p l e R s m args below meth c H locs cells slots Q (F0 m (pc + 1) ls (.int (iI n) :: rest))) : W p l e R s m args below meth c H locs cells slots Q (F0 m pc ls (.ref (g.2.2 i) :: rest)) :=
  va_tlen hx hb (hZ i hi).2 hS (v := iI n) (by rw [← hn, iI_nat]; rfl) hdg kk
variable {own : String} {index nL maxL n f k mc ms ci q0 b : Nat} {y : MethodName} {bytes : ByteArray} {ret : Option FieldType} {As : List Value} {wc wo : va_W} {q : vw_C} {fs : List Value}
/-- a read-only method of an object, an int comes back -/
theorem zcV {post : Int32 → Prop} (S : CallFix p m c cc nL s args lw_ok own) (hw : zwV own index y bytes maxL ret n)
    (hM : Met l y (Cond.code y bytes maxL ret :: lw_ok) (zr f k) (zP g (.ref b :: As) wc) (vp_Si post) 0 0 (fun _ => False))
    (hR : f + 1 ≤ R.frames ∧ 8 + (maxL + 11) + k ≤ R.locals) (hc : cells ≤ R.cells ∧ slots ≤ R.slots)
    (hK : va_K g.1 classes (tz g) s) (hZ : stz g A s s.heap) (hS : va_S A s.heap H locs) (hP : va_P g.1 classes wc H) (hcl : classes[ci]? = some q) (hq : q.1 = y.cls) (he : wc[q0]? = some (b, .inr (ci, fs)))
    (hn : As.length = n) (hsz : ls.size = nL) (hst : st0 = As.reverse ++ .ref b :: rest) (hrm : (rest.map fun v => v.category).sum ≤ 8) (hdg : decode cc pc = .ok (.invokevirtual index, 3))
    (kk : ∀ r : Int32, post r → W p l e R s m args below meth c H locs cells slots Q (F0 m (pc + 3) ls (.int r :: rest))) : W p l e R s m args below meth c H locs cells slots Q (F0 m pc ls st0) := by
  subst hst
  exact vp_callSi ((va_runV (C := y.cls) (As := As) (rest := rest) S hM (cwV n S.2.2.2.2 hw.good rfl rfl rfl ⟨rfl, hw.2⟩ hR) ⟨zP_blind, by rw [← hq]; exact va_recv hK hP hcl he, fun U hU hW => ⟨rfl, by rw [hU]; exact hP, va_K.moved hW.alike hK, hZ.go hS hW.alike hU (fun _ h => h.elim)⟩⟩ rfl hn hsz rfl (lv_room hrm) hdg hc).run) kk
/-- a static read-only method, an int comes back -/
theorem zcS {post : Int32 → Prop} (S : CallFix p m c cc nL s args lw_ok own) (hw : zwS own index y bytes maxL ret n)
    (hM : Met l y (Cond.code y bytes maxL ret :: lw_ok) (zr f k) (zP g As wc) (vp_Si post) 0 0 (fun _ => False))
    (hR : f + 1 ≤ R.frames ∧ 8 + (maxL + 11) + k ≤ R.locals) (hc : cells ≤ R.cells ∧ slots ≤ R.slots)
    (hK : va_K g.1 classes (tz g) s) (hZ : stz g A s s.heap) (hS : va_S A s.heap H locs) (hP : va_P g.1 classes wc H)
    (hn : As.length = n) (hsz : ls.size = nL) (hst : st0 = As.reverse ++ rest) (hrm : (rest.map fun v => v.category).sum ≤ 8) (hdg : decode cc pc = .ok (.invokestatic index, 3))
    (kk : ∀ r : Int32, post r → W p l e R s m args below meth c H locs cells slots Q (F0 m (pc + 3) ls (.int r :: rest))) : W p l e R s m args below meth c H locs cells slots Q (F0 m pc ls st0) := by
  subst hst
  exact vp_callSi ((va_runS (As := As) (rest := rest) S hM (va_cwS n S.2.2.2.2 hw.good rfl rfl rfl hw.2 hR) ⟨zP_blind, fun U hU hW => ⟨rfl, by rw [hU]; exact hP, va_K.moved hW.alike hK, hZ.go hS hW.alike hU (fun _ h => h.elim)⟩⟩ rfl hn hsz rfl (lv_room hrm) hdg hc).run) kk
/-- a static read-only method, an address comes back -/
theorem zcSr {post : Nat → Prop} {ad : Nat → Value} (S : CallFix p m c cc nL s args lw_ok own) (hw : zwS own index y bytes maxL ret n)
    (hM : Met l y (Cond.code y bytes maxL ret :: lw_ok) (zr f k) (zP g As wc) (va_Sr post ad) 0 0 (fun _ => False))
    (hR : f + 1 ≤ R.frames ∧ 8 + (maxL + 11) + k ≤ R.locals) (hc : cells ≤ R.cells ∧ slots ≤ R.slots)
    (hK : va_K g.1 classes (tz g) s) (hZ : stz g A s s.heap) (hS : va_S A s.heap H locs) (hP : va_P g.1 classes wc H)
    (hn : As.length = n) (hsz : ls.size = nL) (hst : st0 = As.reverse ++ rest) (hrm : (rest.map fun v => v.category).sum ≤ 8) (hdg : decode cc pc = .ok (.invokestatic index, 3))
    (kk : ∀ r : Nat, post r → W p l e R s m args below meth c H locs cells slots Q (F0 m (pc + 3) ls (ad r :: rest))) : W p l e R s m args below meth c H locs cells slots Q (F0 m pc ls st0) := by
  subst hst
  exact va_csr ((va_runS (As := As) (rest := rest) S hM (va_cwS n S.2.2.2.2 hw.good rfl rfl rfl hw.2 hR) ⟨zP_blind, fun U hU hW => ⟨rfl, by rw [hU]; exact hP, va_K.moved hW.alike hK, hZ.go hS hW.alike hU (fun _ h => h.elim)⟩⟩ rfl hn hsz rfl (lv_room hrm) hdg hc).run) kk
/-- a writing method of an object, nothing comes back -/
theorem zcVv {post : va_W → Prop} (S : CallFix p m c cc nL s args lw_ok own) (hw : zwV own index y bytes maxL ret n)
    (hM : Met l y (Cond.code y bytes maxL ret :: lw_ok) { frames := f, cells := mc, slots := ms, locals := k } (zPw g (.ref b :: As) wc wo H.size) (va_Qv post (zB g (va_A wc H.size)) (va_A wc H.size)) mc ms (va_A wc H.size))
    (hR : f + 1 ≤ R.frames ∧ 8 + (maxL + 11) + k ≤ R.locals) (hc : cells + mc ≤ R.cells ∧ slots + ms ≤ R.slots)
    (hK : va_K g.1 classes (tz g) s) (hZ : stz g A s s.heap) (hS : va_S A s.heap H locs) (hP : va_P g.1 classes wc H) (hD : va_D (fun _ => True) wc) (hF : ∀ q, va_A wc H.size q → A q) (hO : va_P g.1 classes wo H) (hAp : zAp wo (va_A wc H.size)) (hcl : classes[ci]? = some q) (hq : q.1 = y.cls) (he : wc[q0]? = some (b, .inr (ci, fs)))
    (hn : As.length = n) (hsz : ls.size = nL) (hst : st0 = As.reverse ++ .ref b :: rest) (hrm : (rest.map fun v => v.category).sum ≤ 8) (hdg : decode cc pc = .ok (.invokevirtual index, 3))
    (kk : ∀ (w1 : va_W) (H1 : Heap) (locs1 : List Loc), post w1 → va_P g.1 classes w1 H1 → va_D (va_A wc H.size) w1 → H.size ≤ H1.size → (∀ q : Nat, q < H.size → ¬ va_A wc H.size q → H1[q]? = H[q]?) → va_S A s.heap H1 locs1 → W p l e R s m args below meth c H1 locs1 (cells + mc) (slots + ms) Q (F0 m (pc + 3) ls rest)) : W p l e R s m args below meth c H locs cells slots Q (F0 m pc ls st0) := by
  subst hst
  refine va_callv (va_runV (C := y.cls) (As := As) (rest := rest) S hM (cwV n S.2.2.2.2 hw.good rfl rfl rfl ⟨rfl, hw.2⟩ hR) ⟨zPw_blind, by rw [← hq]; exact va_recv hK hP hcl he, fun U hU hW => ⟨rfl, by rw [hU], by rw [hU]; exact hP, va_K.moved hW.alike hK, hD, hZ.go hS hW.alike hU hF, by rw [hU]; exact hO, hAp⟩⟩ rfl hn hsz rfl (lv_room hrm) hdg hc) hS (fun q _ h => hF q h) hF (fun u t H1 locs1 ht hvm hw hB hz1 hk1 hS1 => ?_)
  obtain ⟨b1, b2, b3⟩ := hB
  rw [ht] at b1
  exact kk u H1 locs1 hw b1 b3 hz1 hk1 hS1
/-- a writing method of an object, an int comes back -/
theorem zcVi {post : Int32 → va_W → Prop} (S : CallFix p m c cc nL s args lw_ok own) (hw : zwV own index y bytes maxL ret n)
    (hM : Met l y (Cond.code y bytes maxL ret :: lw_ok) { frames := f, cells := mc, slots := ms, locals := k } (zPw g (.ref b :: As) wc wo H.size) (va_Qi post (zB g (va_A wc H.size)) (va_A wc H.size)) mc ms (va_A wc H.size))
    (hR : f + 1 ≤ R.frames ∧ 8 + (maxL + 11) + k ≤ R.locals) (hc : cells + mc ≤ R.cells ∧ slots + ms ≤ R.slots)
    (hK : va_K g.1 classes (tz g) s) (hZ : stz g A s s.heap) (hS : va_S A s.heap H locs) (hP : va_P g.1 classes wc H) (hD : va_D (fun _ => True) wc) (hF : ∀ q, va_A wc H.size q → A q) (hO : va_P g.1 classes wo H) (hAp : zAp wo (va_A wc H.size)) (hcl : classes[ci]? = some q) (hq : q.1 = y.cls) (he : wc[q0]? = some (b, .inr (ci, fs)))
    (hn : As.length = n) (hsz : ls.size = nL) (hst : st0 = As.reverse ++ .ref b :: rest) (hrm : (rest.map fun v => v.category).sum ≤ 8) (hdg : decode cc pc = .ok (.invokevirtual index, 3))
    (kk : ∀ (r : Int32) (w1 : va_W) (H1 : Heap) (locs1 : List Loc), post r w1 → va_P g.1 classes w1 H1 → va_D (va_A wc H.size) w1 → H.size ≤ H1.size → (∀ q : Nat, q < H.size → ¬ va_A wc H.size q → H1[q]? = H[q]?) → va_S A s.heap H1 locs1 → W p l e R s m args below meth c H1 locs1 (cells + mc) (slots + ms) Q (F0 m (pc + 3) ls (.int r :: rest))) : W p l e R s m args below meth c H locs cells slots Q (F0 m pc ls st0) := by
  subst hst
  refine va_calli (va_runV (C := y.cls) (As := As) (rest := rest) S hM (cwV n S.2.2.2.2 hw.good rfl rfl rfl ⟨rfl, hw.2⟩ hR) ⟨zPw_blind, by rw [← hq]; exact va_recv hK hP hcl he, fun U hU hW => ⟨rfl, by rw [hU], by rw [hU]; exact hP, va_K.moved hW.alike hK, hD, hZ.go hS hW.alike hU hF, by rw [hU]; exact hO, hAp⟩⟩ rfl hn hsz rfl (lv_room hrm) hdg hc) hS (fun q _ h => hF q h) hF (fun r u t H1 locs1 ht hvm hw hB hz1 hk1 hS1 => ?_)
  obtain ⟨b1, b2, b3⟩ := hB
  rw [ht] at b1
  exact kk r u H1 locs1 hw b1 b3 hz1 hk1 hS1
/-- a constructor -/
theorem zcI {post : va_W → Prop} (S : CallFix p m c cc nL s args lw_ok own) (hw : zwI own index y bytes maxL n) (hy : y.name = "<init>")
    (hM : Met l y (Cond.code y bytes maxL none :: lw_ok) { frames := f, cells := mc, slots := ms, locals := k } (zPw g (.ref b :: As) wc wo H.size) (va_Qv post (zB g (va_A wc H.size)) (va_A wc H.size)) mc ms (va_A wc H.size))
    (hR : f + 1 ≤ R.frames ∧ 8 + (maxL + 11) + k ≤ R.locals) (hc : cells + mc ≤ R.cells ∧ slots + ms ≤ R.slots)
    (hK : va_K g.1 classes (tz g) s) (hZ : stz g A s s.heap) (hS : va_S A s.heap H locs) (hP : va_P g.1 classes wc H) (hD : va_D (fun _ => True) wc) (hF : ∀ q, va_A wc H.size q → A q) (hO : va_P g.1 classes wo H) (hAp : zAp wo (va_A wc H.size))
    (hn : As.length = n) (hsz : ls.size = nL) (hst : st0 = As.reverse ++ .ref b :: rest) (hrm : (rest.map fun v => v.category).sum ≤ 8) (hdg : decode cc pc = .ok (.invokespecial index, 3))
    (kk : ∀ (w1 : va_W) (H1 : Heap) (locs1 : List Loc), post w1 → va_P g.1 classes w1 H1 → va_D (va_A wc H.size) w1 → H.size ≤ H1.size → (∀ q : Nat, q < H.size → ¬ va_A wc H.size q → H1[q]? = H[q]?) → va_S A s.heap H1 locs1 → W p l e R s m args below meth c H1 locs1 (cells + mc) (slots + ms) Q (F0 m (pc + 3) ls rest)) : W p l e R s m args below meth c H locs cells slots Q (F0 m pc ls st0) := by
  subst hst
  refine va_callv (va_runI (As := As) (rest := rest) S hM (cwI n S.2.2.2.2 hw.good rfl rfl rfl (S.2.2.2.2 _ hw.1.2.2.1) (S.2.2.2.2 _ hw.1.1) (S.2.2.2.2 _ hw.1.2.1) hy hw.2 hR) ⟨zPw_blind, fun U hU hW => ⟨rfl, by rw [hU], by rw [hU]; exact hP, va_K.moved hW.alike hK, hD, hZ.go hS hW.alike hU hF, by rw [hU]; exact hO, hAp⟩⟩ rfl hn hsz rfl (lv_room hrm) hdg hc) hS (fun q _ h => hF q h) hF (fun u t H1 locs1 ht hvm hw hB hz1 hk1 hS1 => ?_)
  obtain ⟨b1, b2, b3⟩ := hB
  rw [ht] at b1
  exact kk u H1 locs1 hw b1 b3 hz1 hk1 hS1
end ZC
