/-! LONGS: the reference's rows of longs as lA w (w : Nat → Nat) -/
theorem la_up (w : Nat → Nat) (k v : Nat) : vp_updL (lA w) k (lN v) = lA (va_up w k v) := by
  funext j
  by_cases h : j = k <;> simp [vp_updL, lA, va_up, h]
theorem iI_m64 (c : Nat) : iI (((c : Nat) : Int) % 64) = nI (c % 64) := by
  rw [← iI_nat]
  exact congrArg iI (by omega)
theorem mo_in (bw : Nat → Nat) (j c : Nat) (h : bw j < 18446744073709551616) : lA bw j >>> ((iI (((c : Nat) : Int) % 64)).toInt64 &&& 63) &&& lN 1 = lN (if (bw j).testBit (c % 64) = true then 1 else 0) := by
  rw [iI_m64]
  exact wb_in h (by omega)
theorem mo_shl (c : Nat) : lN 1 <<< ((iI (((c : Nat) : Int) % 64)).toInt64 &&& 63) = lN (2 ^ (c % 64)) := by
  rw [iI_m64, wb_shl 1 (by omega), Nat.one_mul]
theorem mo_ushr {n : Nat} (h : n < 18446744073709551616) (k : Nat) (hk : k < 64) : ((lN n).toUInt64 >>> ((iI ((k : Nat) : Int)).toInt64.toUInt64 &&& Int64.toUInt64 63)).toInt64 = lN (n / 2 ^ k) := by
  rw [iI_nat]
  exact wb_shr h hk
theorem mo_if (b : Bool) : lN (if b = true then 1 else 0) = lN 0 ↔ b = false := by
  cases b
  · simp
  · constructor
    · intro h; exact absurd h (by decide)
    · intro h; cases h
section ZL
variable {p : Program} {l : Launch} {e : Env} {R : Room} {s : State} {m : MethodId} {args : Array Value} {below : List Frame} {meth : Method} {c : Code} {H : Heap} {locs : List Loc} {cells slots : Nat} {Q : State → Prop}
variable {cc : ByteArray} {pc : Nat} {ls : Array Slot} {rest : List Value} {D : va_G} {cl : List vw_C} {tys : List (ClassId × FieldType)} {ws : va_W} {a : Nat} {A : Nat → Prop} {H0 : Heap}
theorem ix_lastN (hx : p.tables.exec = Jvm.exec) (hb : c.code = cc) (hK : va_K D cl tys s) (hP : va_P D cl ws H) (hD : va_D A ws) (hS : va_S A H0 H locs) (q0 t0 : Nat) {cA : ClassId} {n : Nat} {w : Nat → Nat} (ha : ws[q0]? = some (a, .inl (cA, n, .inr (.inl (lA w))))) (ht : tys[t0]? = some (cA, .long)) {i : Int} {v : Nat} (j : Nat) (h : i = (j : Int) ∧ j < n ∧ j ≤ 2147483647) (hdg : decode cc pc = .ok (.lastore, 1))
    (kk : ∀ (H1 : Heap) (locs1 : List Loc), va_P D cl (ws.set q0 (a, .inl (cA, n, .inr (.inl (lA (va_up w j v)))))) H1 → va_D A (ws.set q0 (a, .inl (cA, n, .inr (.inl (lA (va_up w j v)))))) → va_S A H0 H1 locs1 → W p l e R s m args below meth c H1 locs1 cells slots Q (F0 m (pc + 1) ls rest)) : W p l e R s m args below meth c H locs cells slots Q (F0 m pc ls (.long (lN v) :: .int (iI i) :: .ref a :: rest)) :=
  ix_last hx hb hK hP hD hS q0 t0 ha ht j h hdg (fun H1 L1 p1 d1 s1 => by rw [la_up] at p1 d1; exact kk H1 L1 p1 d1 s1)
end ZL
