/-! MORE ROWS: new rows of numbers, whose class is the known one -/
theorem va_RA_inj {U : State} {a b : ClassId} {ty : FieldType} (h : va_RA U a ty) (h' : va_RA U b ty) : a = b := by
  cases ty with
  | object C =>
    obtain ⟨kA, comp, -, -, -, h4⟩ := h
    obtain ⟨kB, comp', -, -, -, h4'⟩ := h'
    exact Option.some.inj (h4.symm.trans h4')
  | _ =>
    have h1 : U.vm.findClass _ = some a := h
    have h2 : U.vm.findClass _ = some b := h'
    exact Option.some.inj (h1.symm.trans h2)
section ZN
variable {p : Program} {l : Launch} {e : Env} {R : Room} {s : State} {m : MethodId} {args : Array Value} {below : List Frame} {meth : Method} {c : Code} {H : Heap} {locs : List Loc} {cells slots : Nat} {Q : State → Prop}
variable {cc : ByteArray} {pc : Nat} {ls : Array Slot} {rest : List Value} {D : va_G} {cl : List vw_C} {tys : List (ClassId × FieldType)} {ws : va_W} {A : Nat → Prop} {H0 : Heap}
theorem ix_newa (hx : p.tables.exec = Jvm.exec) (hb : c.code = cc) {atype : ArrayType} (harr : (Cond.arrayClass (newarray.typeOf atype)).before args s = true) {ty : FieldType} (hty : newarray.typeOf atype = ty) (hK : va_K D cl tys s) (hP : va_P D cl ws H) (hD : va_D A ws) (hS : va_S A H0 H locs) (hA : ∀ q, H0.size ≤ q → A q) (t0 : Nat) {cI : ClassId} (ht : tys[t0]? = some (cI, ty))
    {n : Int} {N' : Nat} {a0 : vp_A} (ha : ∀ cA : ClassId, vp_cell cA a0 = arrV cA N' (fun _ => defaultValue ty)) (hn : n = (N' : Int) ∧ N' ≤ 2147483647) (hbytes : N' * componentBytes ty ≤ 536870912) (hcells : cells + 1 ≤ R.cells) (hslots : slots + N' ≤ R.slots) (hdg : decode cc pc = .ok (.newarray atype, 2))
    (kk : ∀ (q : Nat) (H1 : Heap), va_P D cl (ws ++ [(q, .inl (cI, a0))]) H1 → va_D A (ws ++ [(q, .inl (cI, a0))]) → va_S A H0 H1 locs →
      W p l e R s m args below meth c H1 locs (cells + 1) (slots + N') Q (F0 m (pc + 2) ls (.ref q :: rest))) : W p l e R s m args below meth c H locs cells slots Q (F0 m pc ls (.int (iI n) :: rest)) := by
  refine va_newa hx hb harr hty hK hP hD hS hA ha (fun q => by rw [← iI_0, iI_lt (by omega)] at q; omega) (by rw [iI_cl (by omega)]; omega) hbytes hcells hslots hdg (fun q cA H1 k1 p1 d1 s1 => ?_)
  have e1 := (k1.2 tys.length (cA, ty) (by simp)).2
  have e2 := (hK.2 t0 _ ht).2
  have := va_RA_inj e1 e2
  subst this
  exact kk q H1 p1 d1 s1
end ZN
theorem zNe {A : Nat → Prop} {a b : Nat} (h1 : A a) (h2 : ¬ A b) : ¬ some b = some a := fun e => by
  injection e with e
  rw [e] at h2
  exact h2 h1
/-- the ranges of another set, put in one by one -/
def IA (es : Nat → Int) (n : Nat) (es2 : Nat → Int) : Nat → (Nat → Int) → Nat → Prop
  | 0, e, m => e = es ∧ m = n
  | i + 1, e, m => ∃ (e0 : Nat → Int) (m0 : Nat), IA es n es2 i e0 m0 ∧ Ins e0 m0 (es2 (2 * i)) (es2 (2 * i + 1) - 1) e m
def Cmp (last : Int) (es : Nat → Int) (n : Nat) (e2 : Nat → Int) (n2 : Nat) : Prop := ∃ (e1 : Nat → Int) (n1 : Nat),
  ((0 < n ∧ es 0 = 0 ∧ n1 + 1 = n ∧ ∀ j, j < n1 → e1 j = es (j + 1)) ∨ (¬ (0 < n ∧ es 0 = 0) ∧ n1 = n + 1 ∧ e1 0 = 0 ∧ ∀ j, j < n → e1 (j + 1) = es j)) ∧
  ((0 < n1 ∧ e1 (n1 - 1) = last + 1 ∧ n2 + 1 = n1 ∧ ∀ j, j < n2 → e2 j = e1 j) ∨ (¬ (0 < n1 ∧ e1 (n1 - 1) = last + 1) ∧ n2 = n1 + 1 ∧ e2 n1 = last + 1 ∧ ∀ j, j < n1 → e2 j = e1 j))
theorem cmp_l (es : Nat → Int) (n : Nat) : ∀ j, j < n - 1 → va_cpy es es 1 0 (n - 1) j = es (j + 1) := fun j hj => by
  rw [pk_cpy_in (by omega) (by omega)]; congr 1; omega
theorem cmp_r (es : Nat → Int) (n : Nat) : ∀ j, j < n → va_up (va_cpy es es 0 1 n) 0 0 (j + 1) = es j := fun j hj => by
  unfold va_up
  rw [if_neg (by omega), pk_cpy_in (by omega) (by omega)]; congr 1; omega
theorem cmp_u (e : Nat → Int) (n : Nat) (v : Int) : va_up e n v n = v ∧ ∀ j, j < n → va_up e n v j = e j := ⟨by simp [va_up], fun j hj => by unfold va_up; rw [if_neg (by omega)]⟩
