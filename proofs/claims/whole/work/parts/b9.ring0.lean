/-! RINGS: closed forms of the class's rows of CASES -/
def nxT (L : List (Nat × Nat × Nat × Nat × Nat)) (c : Nat) : Nat := L.foldr (fun t r => cond (Nat.ble t.1 c && (Nat.ble c t.2.1 && Nat.beq ((c - t.1) % t.2.2.1) 0)) (c + t.2.2.2.1 - t.2.2.2.2) r) c
def nxI (L : List (Nat × Nat × Nat × Nat × Nat)) (c : Int) : Int := if c < 0 then c else ((nxT L c.toNat : Nat) : Int)
def chN (j : Nat) : Nat := cond (Nat.blt j 1120) j (7370 + j)
theorem chA_N (j : Nat) : chA j = ((chN j : Nat) : Int) := by
  unfold chA chN
  by_cases h : j < 1120
  · rw [if_pos h, show Nat.blt j 1120 = true from Nat.ble_eq_true_of_le h]; rfl
  · rw [if_neg h, show Nat.blt j 1120 = false from by
      cases q : Nat.blt j 1120 with
      | false => rfl
      | true => exact absurd (Nat.le_of_ble_eq_true q) h]; rfl
def nchk2 (NX : Nat → Int) (L : List (Nat × Nat × Nat × Nat × Nat)) (a n : Nat) : Bool := (List.range n).all (fun i => decide (NX (a + i) = ((nxT L (chN (a + i)) : Nat) : Int)))
theorem nchk2_ok {NX : Nat → Int} {L : List (Nat × Nat × Nat × Nat × Nat)} {a n : Nat} (h : nchk2 NX L a n = true) {j : Nat} (h1 : a ≤ j) (h2 : j < a + n) : NX j = ((nxT L (chN j) : Nat) : Int) := by
  have := List.all_eq_true.mp h (j - a) (List.mem_range.mpr (by omega))
  have := of_decide_eq_true this
  rw [show a + (j - a) = j by omega] at this
  exact this
def RT : List (Nat × Nat × Nat × Nat × Nat) → Nat → Bool := fun L c => L.all (fun t => Nat.blt t.2.1 1120 || (Nat.ble 8490 t.1 && Nat.ble t.2.1 8491))
def Ta : List (Nat × Nat × Nat × Nat × Nat) := [(65, 90, 1, 32, 0), (97, 122, 1, 0, 32)]
def Tb : List (Nat × Nat × Nat × Nat × Nat) := [(65, 90, 1, 32, 0), (97, 122, 1, 0, 32), (192, 214, 1, 32, 0), (216, 222, 1, 32, 0), (224, 246, 1, 0, 32), (248, 254, 1, 0, 32)]
def Tc : List (Nat × Nat × Nat × Nat × Nat) := [(65, 90, 1, 32, 0), (97, 106, 1, 0, 32), (107, 107, 1, 8383, 0), (108, 122, 2, 0, 32), (109, 113, 2, 0, 32), (115, 115, 1, 268, 0), (117, 121, 2, 0, 32), (181, 181, 1, 743, 0), (192, 214, 1, 32, 0), (216, 222, 1, 32, 0), (224, 254, 2, 0, 32), (225, 227, 2, 0, 32), (229, 229, 1, 8262, 0), (231, 245, 2, 0, 32), (249, 253, 2, 0, 32), (255, 255, 1, 121, 0), (256, 302, 2, 1, 0), (257, 303, 2, 0, 1), (306, 310, 2, 1, 0), (307, 311, 2, 0, 1), (313, 327, 2, 1, 0), (314, 328, 2, 0, 1), (330, 374, 2, 1, 0), (331, 375, 2, 0, 1), (376, 376, 1, 0, 121), (377, 381, 2, 1, 0), (378, 382, 2, 0, 1), (383, 383, 1, 0, 300), (913, 929, 1, 32, 0), (931, 931, 1, 31, 0), (932, 937, 1, 32, 0), (945, 969, 2, 0, 32), (946, 954, 2, 0, 32), (956, 956, 1, 0, 775), (958, 960, 2, 0, 32), (962, 962, 1, 1, 0), (964, 968, 2, 0, 32), (1024, 1039, 1, 80, 0), (1040, 1071, 1, 32, 0), (1072, 1103, 1, 0, 32), (1104, 1119, 1, 0, 80), (8490, 8490, 1, 0, 8415), (8491, 8491, 1, 0, 8294)]
