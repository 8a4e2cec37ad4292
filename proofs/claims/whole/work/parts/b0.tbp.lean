/-! TABLE's constructor, pure: pieces so far -/
def fsT (c : Int) : Nat → Nat → Int
  | 0, _ => 1
  | f + 1, i => if (stE 19).getD (3 * i) 0 ≤ c ∧ c ≤ (stE 19).getD (3 * i + 1) 0 then (stE 19).getD (3 * i + 2) 0 else fsT c f (i + 1)
def fsF (c k : Int) : Int := if k = 0 ∨ k = 3 then 0 else if (k = 6 ∨ k = 4) ∧ c < 384 then (if c = 181 then 1 else 2) else fsT c 13 0
theorem sr_bd : ∀ j, j < 39 → 0 ≤ (stE 19).getD j 0 ∧ (stE 19).getD j 0 ≤ 70000 := by decide +kernel
def pcf (f : Nat → Int) (n : Nat) : Nat → Int := fun j => if j < n then f j else 0
theorem pcf_0 (f : Nat → Int) : pcf f 0 = (fun _ => 0) := by
  funext j; unfold pcf; rw [if_neg (by omega)]
theorem pcf_s (f : Nat → Int) (n : Nat) : va_up (pcf f n) n (f n) = pcf f (n + 1) := by
  funext j
  unfold va_up pcf
  by_cases q : j = n
  · rw [if_pos q, if_pos (by omega), q]
  · rw [if_neg q]
    by_cases w : j < n
    · rw [if_pos w, if_pos (by omega)]
    · rw [if_neg w, if_neg (by omega)]
theorem pcf_e {f : Nat → Int} {n : Nat} (h : ∀ j, n ≤ j → f j = 0) : pcf f n = f := by
  funext j
  unfold pcf
  by_cases w : j < n
  · rw [if_pos w]
  · rw [if_neg w, h j (by omega)]
theorem PL_len : PL.length = 253 := by decide +kernel
theorem PL_out {j : Nat} (h : 253 ≤ j) : PL.getD j (0, 0, 0) = (0, 0, 0) := by
  rw [List.getD_eq_getElem?_getD, List.getElem?_eq_none (by rw [PL_len]; exact h)]; rfl
theorem LO_e : pcf LOf 253 = LOf := pcf_e (fun j h => by show ((LOn j : Nat) : Int) = 0; unfold LOn; rw [PL_out h]; rfl)
theorem CA_e : pcf CAf 253 = CAf := pcf_e (fun j h => by show ((CAn j : Nat) : Int) = 0; unfold CAn; rw [PL_out h]; rfl)
theorem SC_e : pcf SCf 253 = SCf := pcf_e (fun j h => by show ((SCn j : Nat) : Int) = 0; unfold SCn; rw [PL_out h]; rfl)
theorem fs_ok : ∀ n, n < 253 → fsF (LOf n) (CAf n) = SCf n := by decide +kernel
def TRl : List (Nat × Nat × Nat) := [(0, 0, 0), (1, 32, 1), (2, 33, 2), (3, 36, 3), (4, 37, 4), (5, 40, 5), (6, 41, 6), (7, 42, 7), (8, 43, 8), (9, 44, 9), (10, 45, 10), (11, 46, 11), (12, 48, 12), (13, 58, 13), (14, 60, 14), (15, 63, 15), (16, 65, 16), (17, 91, 17), (18, 92, 18), (19, 93, 19), (20, 94, 20), (21, 95, 21), (22, 96, 22), (23, 97, 23), (24, 123, 24), (25, 124, 25), (26, 125, 26), (27, 126, 27), (28, 127, 28), (29, 160, 29), (30, 161, 30), (31, 162, 31), (32, 166, 32), (33, 167, 33), (34, 168, 34), (35, 169, 35), (36, 170, 36), (37, 171, 37), (38, 172, 38), (39, 173, 39), (40, 174, 40), (41, 175, 41), (42, 176, 42), (43, 177, 43), (44, 178, 44), (45, 180, 45), (46, 181, 46), (47, 182, 47), (48, 184, 48), (49, 185, 49), (50, 186, 50), (51, 187, 51), (52, 188, 52), (53, 191, 53), (54, 192, 54), (55, 215, 55), (56, 216, 56), (57, 223, 57), (58, 247, 58), (59, 248, 59), (60, 256, 60), (116, 312, 116), (117, 313, 117), (133, 329, 133), (134, 330, 134), (180, 376, 180), (181, 377, 181), (187, 383, 187), (188, 384, 189), (190, 880, 191), (192, 930, 193), (194, 938, 195), (196, 970, 197), (198, 1072, 198), (199, 1120, 200), (201, 1515, 202), (203, 1600, 204), (205, 1611, 206), (207, 1642, 208), (209, 8203, 209), (210, 8208, 210), (211, 8214, 211), (212, 8216, 212), (213, 8217, 213), (214, 8218, 214), (215, 8219, 215), (216, 8221, 216), (217, 8222, 217), (218, 8223, 218), (219, 8224, 219), (220, 8232, 220), (221, 8233, 221), (222, 8234, 223), (224, 8240, 225), (226, 8288, 227), (228, 8384, 229), (230, 8492, 231), (232, 8560, 233), (234, 8597, 235), (236, 12289, 237), (238, 12439, 239), (240, 12539, 241), (242, 40960, 243), (244, 55204, 245), (246, 63744, 247), (248, 65040, 249), (250, 65280, 251), (252, 128592, 252)]
def TRn (r : Nat) : Nat := (TRl.getD r (0, 0, 0)).1
def TRx (r : Nat) : Nat := (TRl.getD r (0, 0, 0)).2.1
def TRm (r : Nat) : Nat := (TRl.getD r (0, 0, 0)).2.2
def rwc (r i : Nat) : Int := (stE 18).getD (3 * r + i) 0
abbrev rowBD (r : Nat) : Prop := (¬ rwc r 2 = 25 ∧ rwc r 0 = LOf (TRm r) ∧ rwc r 2 = CAf (TRm r) ∧ TRn (r + 1) = TRm r + 1) ∨ (rwc r 2 = 25 ∧ TRm r ≤ TRn (r + 1) ∧ rwc r 1 + 1 = rwc r 0 + ((TRn (r + 1) - TRm r : Nat) : Int) ∧ ∀ j, j < TRn (r + 1) - TRm r → LOf (TRm r + j) = rwc r 0 + ((j : Nat) : Int) ∧ CAf (TRm r + j) = if j % 2 = 0 then 6 else 4)
def rowB (r : Nat) : Prop := rowBD r
abbrev rowFD (r : Nat) : Prop := (TRn r ≤ 252 ∧ TRm r ≤ 252 ∧ TRn (r + 1) ≤ 252) ∧ (0 ≤ rwc r 0 ∧ rwc r 0 ≤ 200000 ∧ 0 ≤ rwc r 1 ∧ rwc r 1 ≤ 200000 ∧ 0 ≤ rwc r 2 ∧ rwc r 2 ≤ 25 ∧ TRx r ≤ 200000) ∧ ((((TRx r : Nat) : Int) < rwc r 0 ∧ TRm r = TRn r + 1 ∧ LOf (TRn r) = ((TRx r : Nat) : Int) ∧ CAf (TRn r) = 0) ∨ (¬ ((TRx r : Nat) : Int) < rwc r 0 ∧ TRm r = TRn r)) ∧ (((TRx (r + 1) : Nat) : Int) = rwc r 1 + 1) ∧ rowBD r
def rowF (r : Nat) : Prop := (TRn r ≤ 252 ∧ TRm r ≤ 252 ∧ TRn (r + 1) ≤ 252) ∧ (0 ≤ rwc r 0 ∧ rwc r 0 ≤ 200000 ∧ 0 ≤ rwc r 1 ∧ rwc r 1 ≤ 200000 ∧ 0 ≤ rwc r 2 ∧ rwc r 2 ≤ 25 ∧ TRx r ≤ 200000) ∧ ((((TRx r : Nat) : Int) < rwc r 0 ∧ TRm r = TRn r + 1 ∧ LOf (TRn r) = ((TRx r : Nat) : Int) ∧ CAf (TRn r) = 0) ∨ (¬ ((TRx r : Nat) : Int) < rwc r 0 ∧ TRm r = TRn r)) ∧ (((TRx (r + 1) : Nat) : Int) = rwc r 1 + 1) ∧ rowB r
theorem row_okD : ∀ r, r < 107 → rowFD r := by decide +kernel
theorem row_ok : ∀ r, r < 107 → rowF r := row_okD
