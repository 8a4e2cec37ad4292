/-! THE CLASS'S WORLD: the object, its table, its rings, the row of eight, nine pairs (the ninth: gathered) -/
def pr (g : zG) (a b n : Nat) (es : Nat → Int) : va_W := [(a, .inr (1, [.ref b, .int (iI ((n : Nat) : Int))])), (b, .inl (zI g, 2048, .inl (ai es)))]
def tbl (g : zG) (a b c d : Nat) : va_W := [(a, .inr (2, [.ref b, .ref c, .ref d, .int (iI 253)])), (b, .inl (zI g, 512, .inl (ai LOf))), (c, .inl (zI g, 512, .inl (ai CAf))), (d, .inl (zI g, 512, .inl (ai SCf)))]
def rng (g : zG) (a b : Nat) (la : Int) (NX : Nat → Int) : va_W := [(a, .inr (3, [.int (iI la), .ref b])), (b, .inl (zI g, 1122, .inl (ai NX)))]
def cw (g : zG) (q : Nat → Nat) (u la : Int) (NX : Nat → Int) (n : Nat → Nat) (es : Nat → Nat → Int) : va_W := [(q 0, .inr (0, [.int (iI u), .int (iI la), .ref (q 1), .ref (q 5), .ref (q 7), .ref (q 24)]))] ++ tbl g (q 1) (q 2) (q 3) (q 4) ++ rng g (q 5) (q 6) la NX ++ [(q 7, .inl (zRf g, 8, .inr (.inr (.inr (.inr (fun i => some (q (8 + 2 * i))))))))] ++ pr g (q 8) (q 9) (n 0) (es 0) ++ pr g (q 10) (q 11) (n 1) (es 1) ++ pr g (q 12) (q 13) (n 2) (es 2) ++ pr g (q 14) (q 15) (n 3) (es 3) ++ pr g (q 16) (q 17) (n 4) (es 4) ++ pr g (q 18) (q 19) (n 5) (es 5) ++ pr g (q 20) (q 21) (n 6) (es 6) ++ pr g (q 22) (q 23) (n 7) (es 7) ++ pr g (q 24) (q 25) (n 8) (es 8)
section CW
variable {g : zG} {q : Nat → Nat} {u la : Int} {NX : Nat → Int} {n : Nat → Nat} {es : Nat → Nat → Int} {H H1 : Heap} {locs : List Loc} {A : Nat → Prop}
theorem cw_pr (hP : va_P g.1 classes (cw g q u la NX n es) H) {k : Nat} (hk : k < 9) : va_P g.1 classes (pr g (q (8 + 2 * k)) (q (9 + 2 * k)) (n k) (es k)) H := by
  rcases (show k = 0 ∨ k = 1 ∨ k = 2 ∨ k = 3 ∨ k = 4 ∨ k = 5 ∨ k = 6 ∨ k = 7 ∨ k = 8 by omega) with rfl | rfl | rfl | rfl | rfl | rfl | rfl | rfl | rfl
  · exact hP.sub [8, 9] rfl
  · exact hP.sub [10, 11] rfl
  · exact hP.sub [12, 13] rfl
  · exact hP.sub [14, 15] rfl
  · exact hP.sub [16, 17] rfl
  · exact hP.sub [18, 19] rfl
  · exact hP.sub [20, 21] rfl
  · exact hP.sub [22, 23] rfl
  · exact hP.sub [24, 25] rfl
theorem cw_prD (hD : va_D A (cw g q u la NX n es)) {k : Nat} (hk : k < 9) : va_D A (pr g (q (8 + 2 * k)) (q (9 + 2 * k)) (n k) (es k)) := by
  rcases (show k = 0 ∨ k = 1 ∨ k = 2 ∨ k = 3 ∨ k = 4 ∨ k = 5 ∨ k = 6 ∨ k = 7 ∨ k = 8 by omega) with rfl | rfl | rfl | rfl | rfl | rfl | rfl | rfl | rfl
  · exact hD.sub [8, 9] (by decide) rfl
  · exact hD.sub [10, 11] (by decide) rfl
  · exact hD.sub [12, 13] (by decide) rfl
  · exact hD.sub [14, 15] (by decide) rfl
  · exact hD.sub [16, 17] (by decide) rfl
  · exact hD.sub [18, 19] (by decide) rfl
  · exact hD.sub [20, 21] (by decide) rfl
  · exact hD.sub [22, 23] (by decide) rfl
  · exact hD.sub [24, 25] (by decide) rfl
theorem cw_prF {H0 : Heap} (hD : va_D A (cw g q u la NX n es)) (hS : va_S A H0 H locs) (hA : ∀ x, H0.size ≤ x → A x) {k : Nat} (hk : k < 9) : ∀ x, va_A (pr g (q (8 + 2 * k)) (q (9 + 2 * k)) (n k) (es k)) H.size x → A x := by
  rcases (show k = 0 ∨ k = 1 ∨ k = 2 ∨ k = 3 ∨ k = 4 ∨ k = 5 ∨ k = 6 ∨ k = 7 ∨ k = 8 by omega) with rfl | rfl | rfl | rfl | rfl | rfl | rfl | rfl | rfl
  · exact va_free hD hS hA [8, 9] rfl
  · exact va_free hD hS hA [10, 11] rfl
  · exact va_free hD hS hA [12, 13] rfl
  · exact va_free hD hS hA [14, 15] rfl
  · exact va_free hD hS hA [16, 17] rfl
  · exact va_free hD hS hA [18, 19] rfl
  · exact va_free hD hS hA [20, 21] rfl
  · exact va_free hD hS hA [22, 23] rfl
  · exact va_free hD hS hA [24, 25] rfl
theorem cw_put (hP : va_P g.1 classes (cw g q u la NX n es) H) (hD : va_D A (cw g q u la NX n es)) {k : Nat} (hk : k < 9) {n1 : Nat} {e1 : Nat → Int} (hk1 : ∀ x : Nat, x < H.size → ¬ va_A (pr g (q (8 + 2 * k)) (q (9 + 2 * k)) (n k) (es k)) H.size x → H1[x]? = H[x]?) (hF : ∀ x, va_A (pr g (q (8 + 2 * k)) (q (9 + 2 * k)) (n k) (es k)) H.size x → A x) (hP1 : va_P g.1 classes (pr g (q (8 + 2 * k)) (q (9 + 2 * k)) n1 e1) H1) (hD1 : va_D (va_A (pr g (q (8 + 2 * k)) (q (9 + 2 * k)) (n k) (es k)) H.size) (pr g (q (8 + 2 * k)) (q (9 + 2 * k)) n1 e1)) : va_P g.1 classes (cw g q u la NX (va_up n k n1) (va_up es k e1)) H1 ∧ va_D A (cw g q u la NX (va_up n k n1) (va_up es k e1)) := by
  rcases (show k = 0 ∨ k = 1 ∨ k = 2 ∨ k = 3 ∨ k = 4 ∨ k = 5 ∨ k = 6 ∨ k = 7 ∨ k = 8 by omega) with rfl | rfl | rfl | rfl | rfl | rfl | rfl | rfl | rfl
  · obtain ⟨p, d⟩ := va_join (wc := pr g (q 8) (q 9) (n 0) (es 0)) (wr := ([0, 1, 2, 3, 4, 5, 6, 7, 10, 11, 12, 13, 14, 15, 16, 17, 18, 19, 20, 21, 22, 23, 24, 25] : List Nat).filterMap (fun i => (cw g q u la NX n es)[i]?)) hP hD [8, 9] [0, 1, 2, 3, 4, 5, 6, 7, 10, 11, 12, 13, 14, 15, 16, 17, 18, 19, 20, 21, 22, 23, 24, 25] rfl rfl (by decide) (by decide) hk1 hF hP1 hD1
    exact ⟨p.sub [0, 1, 2, 3, 4, 5, 6, 7, 24, 25, 8, 9, 10, 11, 12, 13, 14, 15, 16, 17, 18, 19, 20, 21, 22, 23] rfl, d.sub [0, 1, 2, 3, 4, 5, 6, 7, 24, 25, 8, 9, 10, 11, 12, 13, 14, 15, 16, 17, 18, 19, 20, 21, 22, 23] (by decide) rfl⟩
  · obtain ⟨p, d⟩ := va_join (wc := pr g (q 10) (q 11) (n 1) (es 1)) (wr := ([0, 1, 2, 3, 4, 5, 6, 7, 8, 9, 12, 13, 14, 15, 16, 17, 18, 19, 20, 21, 22, 23, 24, 25] : List Nat).filterMap (fun i => (cw g q u la NX n es)[i]?)) hP hD [10, 11] [0, 1, 2, 3, 4, 5, 6, 7, 8, 9, 12, 13, 14, 15, 16, 17, 18, 19, 20, 21, 22, 23, 24, 25] rfl rfl (by decide) (by decide) hk1 hF hP1 hD1
    exact ⟨p.sub [0, 1, 2, 3, 4, 5, 6, 7, 8, 9, 24, 25, 10, 11, 12, 13, 14, 15, 16, 17, 18, 19, 20, 21, 22, 23] rfl, d.sub [0, 1, 2, 3, 4, 5, 6, 7, 8, 9, 24, 25, 10, 11, 12, 13, 14, 15, 16, 17, 18, 19, 20, 21, 22, 23] (by decide) rfl⟩
  · obtain ⟨p, d⟩ := va_join (wc := pr g (q 12) (q 13) (n 2) (es 2)) (wr := ([0, 1, 2, 3, 4, 5, 6, 7, 8, 9, 10, 11, 14, 15, 16, 17, 18, 19, 20, 21, 22, 23, 24, 25] : List Nat).filterMap (fun i => (cw g q u la NX n es)[i]?)) hP hD [12, 13] [0, 1, 2, 3, 4, 5, 6, 7, 8, 9, 10, 11, 14, 15, 16, 17, 18, 19, 20, 21, 22, 23, 24, 25] rfl rfl (by decide) (by decide) hk1 hF hP1 hD1
    exact ⟨p.sub [0, 1, 2, 3, 4, 5, 6, 7, 8, 9, 10, 11, 24, 25, 12, 13, 14, 15, 16, 17, 18, 19, 20, 21, 22, 23] rfl, d.sub [0, 1, 2, 3, 4, 5, 6, 7, 8, 9, 10, 11, 24, 25, 12, 13, 14, 15, 16, 17, 18, 19, 20, 21, 22, 23] (by decide) rfl⟩
  · obtain ⟨p, d⟩ := va_join (wc := pr g (q 14) (q 15) (n 3) (es 3)) (wr := ([0, 1, 2, 3, 4, 5, 6, 7, 8, 9, 10, 11, 12, 13, 16, 17, 18, 19, 20, 21, 22, 23, 24, 25] : List Nat).filterMap (fun i => (cw g q u la NX n es)[i]?)) hP hD [14, 15] [0, 1, 2, 3, 4, 5, 6, 7, 8, 9, 10, 11, 12, 13, 16, 17, 18, 19, 20, 21, 22, 23, 24, 25] rfl rfl (by decide) (by decide) hk1 hF hP1 hD1
    exact ⟨p.sub [0, 1, 2, 3, 4, 5, 6, 7, 8, 9, 10, 11, 12, 13, 24, 25, 14, 15, 16, 17, 18, 19, 20, 21, 22, 23] rfl, d.sub [0, 1, 2, 3, 4, 5, 6, 7, 8, 9, 10, 11, 12, 13, 24, 25, 14, 15, 16, 17, 18, 19, 20, 21, 22, 23] (by decide) rfl⟩
  · obtain ⟨p, d⟩ := va_join (wc := pr g (q 16) (q 17) (n 4) (es 4)) (wr := ([0, 1, 2, 3, 4, 5, 6, 7, 8, 9, 10, 11, 12, 13, 14, 15, 18, 19, 20, 21, 22, 23, 24, 25] : List Nat).filterMap (fun i => (cw g q u la NX n es)[i]?)) hP hD [16, 17] [0, 1, 2, 3, 4, 5, 6, 7, 8, 9, 10, 11, 12, 13, 14, 15, 18, 19, 20, 21, 22, 23, 24, 25] rfl rfl (by decide) (by decide) hk1 hF hP1 hD1
    exact ⟨p.sub [0, 1, 2, 3, 4, 5, 6, 7, 8, 9, 10, 11, 12, 13, 14, 15, 24, 25, 16, 17, 18, 19, 20, 21, 22, 23] rfl, d.sub [0, 1, 2, 3, 4, 5, 6, 7, 8, 9, 10, 11, 12, 13, 14, 15, 24, 25, 16, 17, 18, 19, 20, 21, 22, 23] (by decide) rfl⟩
  · obtain ⟨p, d⟩ := va_join (wc := pr g (q 18) (q 19) (n 5) (es 5)) (wr := ([0, 1, 2, 3, 4, 5, 6, 7, 8, 9, 10, 11, 12, 13, 14, 15, 16, 17, 20, 21, 22, 23, 24, 25] : List Nat).filterMap (fun i => (cw g q u la NX n es)[i]?)) hP hD [18, 19] [0, 1, 2, 3, 4, 5, 6, 7, 8, 9, 10, 11, 12, 13, 14, 15, 16, 17, 20, 21, 22, 23, 24, 25] rfl rfl (by decide) (by decide) hk1 hF hP1 hD1
    exact ⟨p.sub [0, 1, 2, 3, 4, 5, 6, 7, 8, 9, 10, 11, 12, 13, 14, 15, 16, 17, 24, 25, 18, 19, 20, 21, 22, 23] rfl, d.sub [0, 1, 2, 3, 4, 5, 6, 7, 8, 9, 10, 11, 12, 13, 14, 15, 16, 17, 24, 25, 18, 19, 20, 21, 22, 23] (by decide) rfl⟩
  · obtain ⟨p, d⟩ := va_join (wc := pr g (q 20) (q 21) (n 6) (es 6)) (wr := ([0, 1, 2, 3, 4, 5, 6, 7, 8, 9, 10, 11, 12, 13, 14, 15, 16, 17, 18, 19, 22, 23, 24, 25] : List Nat).filterMap (fun i => (cw g q u la NX n es)[i]?)) hP hD [20, 21] [0, 1, 2, 3, 4, 5, 6, 7, 8, 9, 10, 11, 12, 13, 14, 15, 16, 17, 18, 19, 22, 23, 24, 25] rfl rfl (by decide) (by decide) hk1 hF hP1 hD1
    exact ⟨p.sub [0, 1, 2, 3, 4, 5, 6, 7, 8, 9, 10, 11, 12, 13, 14, 15, 16, 17, 18, 19, 24, 25, 20, 21, 22, 23] rfl, d.sub [0, 1, 2, 3, 4, 5, 6, 7, 8, 9, 10, 11, 12, 13, 14, 15, 16, 17, 18, 19, 24, 25, 20, 21, 22, 23] (by decide) rfl⟩
  · obtain ⟨p, d⟩ := va_join (wc := pr g (q 22) (q 23) (n 7) (es 7)) (wr := ([0, 1, 2, 3, 4, 5, 6, 7, 8, 9, 10, 11, 12, 13, 14, 15, 16, 17, 18, 19, 20, 21, 24, 25] : List Nat).filterMap (fun i => (cw g q u la NX n es)[i]?)) hP hD [22, 23] [0, 1, 2, 3, 4, 5, 6, 7, 8, 9, 10, 11, 12, 13, 14, 15, 16, 17, 18, 19, 20, 21, 24, 25] rfl rfl (by decide) (by decide) hk1 hF hP1 hD1
    exact ⟨p.sub [0, 1, 2, 3, 4, 5, 6, 7, 8, 9, 10, 11, 12, 13, 14, 15, 16, 17, 18, 19, 20, 21, 24, 25, 22, 23] rfl, d.sub [0, 1, 2, 3, 4, 5, 6, 7, 8, 9, 10, 11, 12, 13, 14, 15, 16, 17, 18, 19, 20, 21, 24, 25, 22, 23] (by decide) rfl⟩
  · obtain ⟨p, d⟩ := va_join (wc := pr g (q 24) (q 25) (n 8) (es 8)) (wr := ([0, 1, 2, 3, 4, 5, 6, 7, 8, 9, 10, 11, 12, 13, 14, 15, 16, 17, 18, 19, 20, 21, 22, 23] : List Nat).filterMap (fun i => (cw g q u la NX n es)[i]?)) hP hD [24, 25] [0, 1, 2, 3, 4, 5, 6, 7, 8, 9, 10, 11, 12, 13, 14, 15, 16, 17, 18, 19, 20, 21, 22, 23] rfl rfl (by decide) (by decide) hk1 hF hP1 hD1
    exact ⟨p.sub [0, 1, 2, 3, 4, 5, 6, 7, 8, 9, 10, 11, 12, 13, 14, 15, 16, 17, 18, 19, 20, 21, 22, 23, 24, 25] rfl, d.sub [0, 1, 2, 3, 4, 5, 6, 7, 8, 9, 10, 11, 12, 13, 14, 15, 16, 17, 18, 19, 20, 21, 22, 23, 24, 25] (by decide) rfl⟩
/-- the addresses are different -/
theorem cw_at {i : Nat} (hi : i < 26) : ∃ e, (cw g q u la NX n es)[i]? = some (q i, e) := by
  rcases (show i = 0 ∨ i = 1 ∨ i = 2 ∨ i = 3 ∨ i = 4 ∨ i = 5 ∨ i = 6 ∨ i = 7 ∨ i = 8 ∨ i = 9 ∨ i = 10 ∨ i = 11 ∨ i = 12 ∨ i = 13 ∨ i = 14 ∨ i = 15 ∨ i = 16 ∨ i = 17 ∨ i = 18 ∨ i = 19 ∨ i = 20 ∨ i = 21 ∨ i = 22 ∨ i = 23 ∨ i = 24 ∨ i = 25 by omega) with rfl | rfl | rfl | rfl | rfl | rfl | rfl | rfl | rfl | rfl | rfl | rfl | rfl | rfl | rfl | rfl | rfl | rfl | rfl | rfl | rfl | rfl | rfl | rfl | rfl | rfl <;> exact ⟨_, rfl⟩
theorem cw_inj (hD : va_D A (cw g q u la NX n es)) {i j : Nat} (hi : i < 26) (hj : j < 26) (h : q i = q j) : i = j := by
  obtain ⟨a, ha⟩ := cw_at (g := g) (q := q) (u := u) (la := la) (NX := NX) (n := n) (es := es) hi
  obtain ⟨b, hb⟩ := cw_at (g := g) (q := q) (u := u) (la := la) (NX := NX) (n := n) (es := es) hj
  exact hD.1 i j _ _ ha hb h
end CW
