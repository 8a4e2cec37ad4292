/-! THE REFERENCE, PURE: its tables and functions of numbers -/
def lA (w : Nat → Nat) : Nat → Int64 := fun j => lN (w j)
def nF (f : Nat → Nat) : Nat → Int := fun j => ((f j : Nat) : Int)
def kset (f : Nat → Nat) (a b w : Nat) : Nat → Nat := fun c => cond (Nat.ble a c && Nat.ble c b) w (f c)
def kfold (L : List (Nat × Nat × Nat)) (f : Nat → Nat) : Nat → Nat := L.foldl (fun f t => kset f t.1 t.2.1 t.2.2) f
def kalt (f : Nat → Nat) (a b : Nat) : Nat → Nat := fun c => cond (Nat.ble a c && (Nat.blt c b && Nat.beq ((c - a) % 2) 0)) 6 (f c)
def K0 : List (Nat × Nat × Nat) := [(0, 31, 1), (127, 159, 1), (32, 32, 24), (160, 160, 24), (8192, 8202, 24), (8239, 8239, 24), (8287, 8287, 24), (12288, 12288, 24), (8232, 8232, 22), (8233, 8233, 23), (33, 35, 16), (37, 39, 16), (42, 42, 16), (44, 44, 16), (46, 47, 16), (58, 59, 16), (63, 64, 16), (92, 92, 16), (161, 161, 16), (167, 167, 16), (182, 183, 16), (191, 191, 16), (8214, 8215, 16), (8224, 8231, 16), (36, 36, 18), (162, 165, 18), (8352, 8383, 18), (40, 40, 17), (91, 91, 17), (123, 123, 17)]
def K1 : List (Nat × Nat × Nat) := [(8218, 8218, 17), (8222, 8222, 17), (41, 41, 13), (93, 93, 13), (125, 125, 13), (43, 43, 20), (60, 62, 20), (124, 124, 20), (126, 126, 20), (172, 172, 20), (177, 177, 20), (215, 215, 20), (247, 247, 20), (8592, 8596, 20), (45, 45, 12), (8208, 8213, 12), (48, 57, 8), (1632, 1641, 8), (94, 94, 19), (96, 96, 19), (168, 168, 19), (175, 175, 19), (180, 180, 19), (184, 184, 19), (95, 95, 11), (166, 166, 21), (169, 169, 21), (174, 174, 21), (176, 176, 21), (170, 170, 5)]
def K2 : List (Nat × Nat × Nat) := [(186, 186, 5), (1488, 1514, 5), (1568, 1599, 5), (1601, 1610, 5), (12353, 12438, 5), (12449, 12538, 5), (171, 171, 15), (8216, 8216, 15), (8219, 8220, 15), (8223, 8223, 15), (187, 187, 14), (8217, 8217, 14), (8221, 8221, 14), (173, 173, 2), (8203, 8207, 2), (178, 179, 10), (185, 185, 10), (188, 190, 10), (8544, 8559, 9), (768, 879, 7), (97, 122, 4), (181, 181, 4), (223, 246, 4), (248, 255, 4), (945, 969, 4), (1072, 1119, 4), (256, 383, 4), (65, 90, 6), (192, 214, 6), (216, 222, 6)]
def K3 : List (Nat × Nat × Nat) := [(913, 929, 6), (931, 937, 6), (1024, 1071, 6), (376, 376, 6), (8490, 8490, 6), (8491, 8491, 6)]
def kN : Nat → Nat := kalt (kalt (kalt (kalt (kfold K3 (kfold K2 (kfold K1 (kfold K0 (fun _ => 0))))) 256 312) 330 376) 313 329) 377 383
def kF : Nat → Int := nF kN
/-- CATEGORY, as the reference finds it -/
def catF (c : Int) : Int := if c < 12544 then kF c.toNat else if (19968 ≤ c ∧ c ≤ 40959) ∨ (44032 ≤ c ∧ c ≤ 55203) then 5 else if 57344 ≤ c ∧ c ≤ 63743 then 3 else if c = 65039 then 7 else if c = 65279 then 2 else if 127744 ≤ c ∧ c ≤ 128591 then 21 else 0
def scrG (k c : Int) : Int := if k = 0 ∨ k = 3 then 0 else if c = 170 ∨ c = 186 ∨ c = 8490 ∨ c = 8491 ∨ (c < 384 ∧ c ≠ 181 ∧ (k = 4 ∨ k = 6)) then 2 else if 913 ≤ c ∧ c ≤ 969 then 3 else if 1024 ≤ c ∧ c ≤ 1119 then 4 else if 1488 ≤ c ∧ c ≤ 1514 then 5 else if 1568 ≤ c ∧ c ≤ 1610 then 6 else if 12353 ≤ c ∧ c ≤ 12438 then 7 else if 12449 ≤ c ∧ c ≤ 12538 then 8 else if 19968 ≤ c ∧ c ≤ 40959 then 9 else if 44032 ≤ c ∧ c ≤ 55203 then 10 else if (768 ≤ c ∧ c ≤ 879) ∨ c = 65039 then 11 else 1
def scrF (c : Int) : Int := scrG (catF c) c
def pairF (c : Int) : Int := if (65 ≤ c ∧ c ≤ 90) ∨ (192 ≤ c ∧ c ≤ 214) ∨ (216 ≤ c ∧ c ≤ 222) ∨ (913 ≤ c ∧ c ≤ 929) ∨ (931 ≤ c ∧ c ≤ 937) ∨ (1040 ≤ c ∧ c ≤ 1071) then 32 else if 1024 ≤ c ∧ c ≤ 1039 then 80 else if ((256 ≤ c ∧ c ≤ 303) ∨ (306 ≤ c ∧ c ≤ 311) ∨ (313 ≤ c ∧ c ≤ 328) ∨ (330 ≤ c ∧ c ≤ 375) ∨ (377 ≤ c ∧ c ≤ 382)) ∧ catF c = 6 then 1 else 0
theorem pairF_bd (c : Int) : 0 ≤ pairF c ∧ pairF c ≤ 80 := by unfold pairF; repeat' split <;> omega
def thirdF (c : Int) : Int := if c = 383 then 83 else if c = 8490 then 75 else if c = 8491 then 197 else if c = 181 then 924 else if c = 962 then 931 else -1
theorem thirdF_bd (c : Int) : -1 ≤ thirdF c ∧ thirdF c ≤ 1000 := by unfold thirdF; repeat' split <;> omega
def firstF (c : Int) : Int := if 0 ≤ thirdF c then thirdF c else if c = 255 then 376 else if 0 < pairF c then c else if 32 ≤ c ∧ pairF (c - 32) = 32 then c - 32 else if 80 ≤ c ∧ pairF (c - 80) = 80 then c - 80 else if 0 < c ∧ pairF (c - 1) = 1 then c - 1 else c
theorem firstF_bd (c : Int) (h : 0 ≤ c ∧ c ≤ 1114111) : 0 ≤ firstF c ∧ firstF c ≤ 1114111 := by
  have := thirdF_bd c
  unfold firstF; repeat' split <;> omega
theorem kset_bd {f : Nat → Nat} {a b w : Nat} (hw : w ≤ 24) (hf : ∀ c, f c ≤ 24) : ∀ c, kset f a b w c ≤ 24 := fun c => by
  unfold kset
  cases (Nat.ble a c && Nat.ble c b)
  · exact hf c
  · exact hw
theorem kfold_bd : ∀ (L : List (Nat × Nat × Nat)) (f : Nat → Nat), L.all (fun t => Nat.ble t.2.2 24) = true → (∀ c, f c ≤ 24) → ∀ c, kfold L f c ≤ 24
  | [], f, _, hf => hf
  | t :: L, f, h, hf => by
    rw [List.all_cons, Bool.and_eq_true] at h
    exact kfold_bd L (kset f t.1 t.2.1 t.2.2) h.2 (kset_bd (Nat.le_of_ble_eq_true h.1) hf)
theorem kalt_bd {f : Nat → Nat} {a b : Nat} (hf : ∀ c, f c ≤ 24) : ∀ c, kalt f a b c ≤ 24 := fun c => by
  unfold kalt
  cases (Nat.ble a c && (Nat.blt c b && Nat.beq ((c - a) % 2) 0))
  · exact hf c
  · show 6 ≤ 24; omega
theorem kN_bd : ∀ c, kN c ≤ 24 := kalt_bd (kalt_bd (kalt_bd (kalt_bd (kfold_bd K3 _ (by decide +kernel) (kfold_bd K2 _ (by decide +kernel) (kfold_bd K1 _ (by decide +kernel) (kfold_bd K0 _ (by decide +kernel) (fun _ => Nat.zero_le _))))))))
theorem kF_bd (c : Nat) (h : c < 12544) : 0 ≤ kF c ∧ kF c ≤ 24 := by
  have h2 := kN_bd c
  show 0 ≤ ((kN c : Nat) : Int) ∧ ((kN c : Nat) : Int) ≤ 24
  omega
theorem catF_bd (c : Int) (h : 0 ≤ c) : 0 ≤ catF c ∧ catF c ≤ 24 := by
  unfold catF
  split
  · exact kF_bd _ (by omega)
  · repeat' split <;> omega
theorem scrF_bd (c : Int) : 0 ≤ scrF c ∧ scrF c ≤ 11 := by unfold scrF scrG; repeat' split <;> omega
def genF (g t : Int) : Prop := (g = 0 ∧ t < 4) ∨ (g = 1 ∧ 4 ≤ t ∧ t < 7) ∨ (g = 2 ∧ t = 7) ∨ (g = 3 ∧ 8 ≤ t ∧ t < 11) ∨ (g = 4 ∧ 11 ≤ t ∧ t < 18) ∨ (g = 5 ∧ 18 ≤ t ∧ t < 22) ∨ (¬ (0 ≤ g ∧ g ≤ 5) ∧ 22 ≤ t)
/-- the pieces of the class: first character, CATEGORY, SCRIPT -/
def PL : List (Nat × Nat × Nat) := [(0, 1, 1), (32, 24, 1), (33, 16, 1), (36, 18, 1), (37, 16, 1), (40, 17, 1), (41, 13, 1), (42, 16, 1), (43, 20, 1), (44, 16, 1), (45, 12, 1), (46, 16, 1), (48, 8, 1), (58, 16, 1), (60, 20, 1), (63, 16, 1), (65, 6, 2), (91, 17, 1), (92, 16, 1), (93, 13, 1), (94, 19, 1), (95, 11, 1), (96, 19, 1), (97, 4, 2), (123, 17, 1), (124, 20, 1), (125, 13, 1), (126, 20, 1), (127, 1, 1), (160, 24, 1), (161, 16, 1), (162, 18, 1), (166, 21, 1), (167, 16, 1), (168, 19, 1), (169, 21, 1), (170, 5, 2), (171, 15, 1), (172, 20, 1), (173, 2, 1), (174, 21, 1), (175, 19, 1), (176, 21, 1), (177, 20, 1), (178, 10, 1), (180, 19, 1), (181, 4, 1), (182, 16, 1), (184, 19, 1), (185, 10, 1), (186, 5, 2), (187, 14, 1), (188, 10, 1), (191, 16, 1), (192, 6, 2), (215, 20, 1), (216, 6, 2), (223, 4, 2), (247, 20, 1), (248, 4, 2), (256, 6, 2), (257, 4, 2), (258, 6, 2), (259, 4, 2), (260, 6, 2), (261, 4, 2), (262, 6, 2), (263, 4, 2), (264, 6, 2), (265, 4, 2), (266, 6, 2), (267, 4, 2), (268, 6, 2), (269, 4, 2), (270, 6, 2), (271, 4, 2), (272, 6, 2), (273, 4, 2), (274, 6, 2), (275, 4, 2), (276, 6, 2), (277, 4, 2), (278, 6, 2), (279, 4, 2), (280, 6, 2), (281, 4, 2), (282, 6, 2), (283, 4, 2), (284, 6, 2), (285, 4, 2), (286, 6, 2), (287, 4, 2), (288, 6, 2), (289, 4, 2), (290, 6, 2), (291, 4, 2), (292, 6, 2), (293, 4, 2), (294, 6, 2), (295, 4, 2), (296, 6, 2), (297, 4, 2), (298, 6, 2), (299, 4, 2), (300, 6, 2), (301, 4, 2), (302, 6, 2), (303, 4, 2), (304, 6, 2), (305, 4, 2), (306, 6, 2), (307, 4, 2), (308, 6, 2), (309, 4, 2), (310, 6, 2), (311, 4, 2), (312, 4, 2), (313, 6, 2), (314, 4, 2), (315, 6, 2), (316, 4, 2), (317, 6, 2), (318, 4, 2), (319, 6, 2), (320, 4, 2), (321, 6, 2), (322, 4, 2), (323, 6, 2), (324, 4, 2), (325, 6, 2), (326, 4, 2), (327, 6, 2), (328, 4, 2), (329, 4, 2), (330, 6, 2), (331, 4, 2), (332, 6, 2), (333, 4, 2), (334, 6, 2), (335, 4, 2), (336, 6, 2), (337, 4, 2), (338, 6, 2), (339, 4, 2), (340, 6, 2), (341, 4, 2), (342, 6, 2), (343, 4, 2), (344, 6, 2), (345, 4, 2), (346, 6, 2), (347, 4, 2), (348, 6, 2), (349, 4, 2), (350, 6, 2), (351, 4, 2), (352, 6, 2), (353, 4, 2), (354, 6, 2), (355, 4, 2), (356, 6, 2), (357, 4, 2), (358, 6, 2), (359, 4, 2), (360, 6, 2), (361, 4, 2), (362, 6, 2), (363, 4, 2), (364, 6, 2), (365, 4, 2), (366, 6, 2), (367, 4, 2), (368, 6, 2), (369, 4, 2), (370, 6, 2), (371, 4, 2), (372, 6, 2), (373, 4, 2), (374, 6, 2), (375, 4, 2), (376, 6, 2), (377, 6, 2), (378, 4, 2), (379, 6, 2), (380, 4, 2), (381, 6, 2), (382, 4, 2), (383, 4, 2), (384, 0, 0), (768, 7, 11), (880, 0, 0), (913, 6, 3), (930, 0, 0), (931, 6, 3), (938, 0, 0), (945, 4, 3), (970, 0, 0), (1024, 6, 4), (1072, 4, 4), (1120, 0, 0), (1488, 5, 5), (1515, 0, 0), (1568, 5, 6), (1600, 0, 0), (1601, 5, 6), (1611, 0, 0), (1632, 8, 1), (1642, 0, 0), (8192, 24, 1), (8203, 2, 1), (8208, 12, 1), (8214, 16, 1), (8216, 15, 1), (8217, 14, 1), (8218, 17, 1), (8219, 15, 1), (8221, 14, 1), (8222, 17, 1), (8223, 15, 1), (8224, 16, 1), (8232, 22, 1), (8233, 23, 1), (8234, 0, 0), (8239, 24, 1), (8240, 0, 0), (8287, 24, 1), (8288, 0, 0), (8352, 18, 1), (8384, 0, 0), (8490, 6, 2), (8492, 0, 0), (8544, 9, 1), (8560, 0, 0), (8592, 20, 1), (8597, 0, 0), (12288, 24, 1), (12289, 0, 0), (12353, 5, 7), (12439, 0, 0), (12449, 5, 8), (12539, 0, 0), (19968, 5, 9), (40960, 0, 0), (44032, 5, 10), (55204, 0, 0), (57344, 3, 0), (63744, 0, 0), (65039, 7, 11), (65040, 0, 0), (65279, 2, 1), (65280, 0, 0), (127744, 21, 1), (128592, 0, 0)]
def LOn (i : Nat) : Nat := (PL.getD i (0, 0, 0)).1
def CAn (i : Nat) : Nat := (PL.getD i (0, 0, 0)).2.1
def SCn (i : Nat) : Nat := (PL.getD i (0, 0, 0)).2.2
def digF (c : Int) : Prop := 48 ≤ c ∧ c ≤ 57
def alpF (c : Int) : Prop := (65 ≤ c ∧ c ≤ 90) ∨ (97 ≤ c ∧ c ≤ 122)
def blkF (c : Int) : Prop := c = 9 ∨ c = 32 ∨ c = 160 ∨ c = 5760 ∨ c = 6158 ∨ (8192 ≤ c ∧ c ≤ 8202) ∨ c = 8239 ∨ c = 8287 ∨ c = 12288
def holdF (k c : Int) : Prop := if k < 25 then catF c = k else if k < 32 then genF (k - 25) (catF c) else if k < 44 then scrF c = k - 32 else if k = 44 then True else if k = 45 then (catF c = 4 ∨ catF c = 6) else if k = 46 then (genF 1 (catF c) ∨ genF 3 (catF c)) else if k = 47 then (genF 1 (catF c) ∨ genF 3 (catF c) ∨ c = 95) else ((9 ≤ c ∧ c ≤ 13) ∨ c = 133 ∨ genF 6 (catF c))
def plainF (k c : Int) : Prop := if k = 0 ∨ k = 8 then digF c else if k = 1 ∨ k = 10 then (alpF c ∨ digF c ∨ c = 95) else if k = 2 ∨ k = 11 then ((9 ≤ c ∧ c ≤ 13) ∨ c = 32) else if k = 3 then blkF c else if k = 4 then ((10 ≤ c ∧ c ≤ 13) ∨ c = 133 ∨ c = 8232 ∨ c = 8233) else if k = 5 then alpF c else if k = 6 then (alpF c ∧ 96 < c) else if k = 7 then (alpF c ∧ c < 96) else if k = 9 then (alpF c ∨ digF c) else if k = 12 then (c = 9 ∨ c = 32) else if k = 13 then (c < 32 ∨ c = 127) else if k = 14 then (33 ≤ c ∧ c ≤ 126) else if k = 15 then ((33 ≤ c ∧ c ≤ 126) ∨ c = 32) else if k = 16 then ((33 ≤ c ∧ c ≤ 126) ∧ ¬ alpF c ∧ ¬ digF c) else if k = 17 then (digF c ∨ (65 ≤ c ∧ c ≤ 70) ∨ (97 ≤ c ∧ c ≤ 102)) else c < 128
def grpF (c : Int) : Prop := ¬ genF 6 (catF c) ∧ catF c ≠ 1 ∧ catF c ≠ 0
def wideF (k c : Int) : Prop := if k = 0 ∨ k = 8 then catF c = 8 else if k = 1 ∨ k = 10 then holdF 47 c else if k = 2 ∨ k = 11 then holdF 48 c else if k = 12 then blkF c else if k = 5 then genF 1 (catF c) else if k = 6 then catF c = 4 else if k = 7 then catF c = 6 else if k = 9 then holdF 46 c else if k = 13 then catF c = 1 else if k = 14 then grpF c else if k = 15 then (grpF c ∨ catF c = 24) else if k = 16 then (genF 4 (catF c) ∨ (genF 5 (catF c) ∧ c < 128)) else plainF k c
def PTl : List Nat := [12544, 19968, 40960, 44032, 55204, 57344, 63744, 65039, 65040, 65279, 65280, 127744, 128592, 1114112]
def PT : Nat → Int := fun j => ((PTl.getD j 0 : Nat) : Int)
