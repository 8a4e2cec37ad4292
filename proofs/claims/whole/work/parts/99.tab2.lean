def TH : List Nat := [170, 171, 181, 182, 186, 187, 384, 768, 880, 913, 970, 1024, 1120, 1488, 1515, 1568, 1611, 8490, 8491, 8492, 12353, 12439, 12449, 12539, 19968, 40960, 44032, 55204, 65039, 65040]
def schk (lo hi : Nat) : Bool := TH.all (fun x => Nat.ble x lo == Nat.ble x hi)
theorem scrG_mid {lo e hi : Nat} (k : Int) (h : schk lo hi = true) (h1 : lo ≤ e) (h2 : e ≤ hi) : scrG k ((e : Nat) : Int) = scrG k ((lo : Nat) : Int) := by
  have key : ∀ x, x ∈ TH → (x ≤ lo ↔ x ≤ e) := fun x hx => by
    have q := ble_mid (List.all_eq_true.mp h x hx) h1 h2
    constructor
    · intro z; omega
    · intro z; have w := Nat.ble_eq_true_of_le z; rw [q] at w; exact Nat.le_of_ble_eq_true w
  generalize hc : ((e : Nat) : Int) = c
  generalize hd : ((lo : Nat) : Int) = d
  have q0 : (c = 170) ↔ (d = 170) := by
    have t170 := key 170 (by decide)
    have t171 := key 171 (by decide)
    clear key h; omega
  have q1 : (c = 186) ↔ (d = 186) := by
    have t186 := key 186 (by decide)
    have t187 := key 187 (by decide)
    clear key h; omega
  have q2 : (c = 8490) ↔ (d = 8490) := by
    have t8490 := key 8490 (by decide)
    have t8491 := key 8491 (by decide)
    clear key h; omega
  have q3 : (c = 8491) ↔ (d = 8491) := by
    have t8491 := key 8491 (by decide)
    have t8492 := key 8492 (by decide)
    clear key h; omega
  have q4 : (c < 384) ↔ (d < 384) := by
    have t384 := key 384 (by decide)
    clear key h; omega
  have q5 : (c ≠ 181) ↔ (d ≠ 181) := by
    have t181 := key 181 (by decide)
    have t182 := key 182 (by decide)
    clear key h; omega
  have q6 : (913 ≤ c ∧ c ≤ 969) ↔ (913 ≤ d ∧ d ≤ 969) := by
    have t913 := key 913 (by decide)
    have t970 := key 970 (by decide)
    clear key h; omega
  have q7 : (1024 ≤ c ∧ c ≤ 1119) ↔ (1024 ≤ d ∧ d ≤ 1119) := by
    have t1024 := key 1024 (by decide)
    have t1120 := key 1120 (by decide)
    clear key h; omega
  have q8 : (1488 ≤ c ∧ c ≤ 1514) ↔ (1488 ≤ d ∧ d ≤ 1514) := by
    have t1488 := key 1488 (by decide)
    have t1515 := key 1515 (by decide)
    clear key h; omega
  have q9 : (1568 ≤ c ∧ c ≤ 1610) ↔ (1568 ≤ d ∧ d ≤ 1610) := by
    have t1568 := key 1568 (by decide)
    have t1611 := key 1611 (by decide)
    clear key h; omega
  have q10 : (12353 ≤ c ∧ c ≤ 12438) ↔ (12353 ≤ d ∧ d ≤ 12438) := by
    have t12353 := key 12353 (by decide)
    have t12439 := key 12439 (by decide)
    clear key h; omega
  have q11 : (12449 ≤ c ∧ c ≤ 12538) ↔ (12449 ≤ d ∧ d ≤ 12538) := by
    have t12449 := key 12449 (by decide)
    have t12539 := key 12539 (by decide)
    clear key h; omega
  have q12 : (19968 ≤ c ∧ c ≤ 40959) ↔ (19968 ≤ d ∧ d ≤ 40959) := by
    have t19968 := key 19968 (by decide)
    have t40960 := key 40960 (by decide)
    clear key h; omega
  have q13 : (44032 ≤ c ∧ c ≤ 55203) ↔ (44032 ≤ d ∧ d ≤ 55203) := by
    have t44032 := key 44032 (by decide)
    have t55204 := key 55204 (by decide)
    clear key h; omega
  have q14 : (768 ≤ c ∧ c ≤ 879) ↔ (768 ≤ d ∧ d ≤ 879) := by
    have t768 := key 768 (by decide)
    have t880 := key 880 (by decide)
    clear key h; omega
  have q15 : (c = 65039) ↔ (d = 65039) := by
    have t65039 := key 65039 (by decide)
    have t65040 := key 65040 (by decide)
    clear key h; omega
  unfold scrG
  simp only [q0, q1, q2, q3, q4, q5, q6, q7, q8, q9, q10, q11, q12, q13, q14, q15]
