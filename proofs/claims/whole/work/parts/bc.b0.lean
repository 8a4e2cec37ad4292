/-! THE FIXED EDGES -/
def B0n : List Nat := [0, 9, 10, 14, 32, 33, 36, 37, 40, 41, 42, 43, 44, 45, 46, 48, 58, 60, 63, 65, 66, 67, 68, 69, 70, 71, 72, 73, 74, 75, 76, 77, 78, 79, 80, 81, 82, 83, 84, 85, 86, 87, 88, 89, 90, 91, 92, 93, 94, 95, 96, 97, 98, 99, 100, 101, 102, 103, 104, 105, 106, 107, 108, 109, 110, 111, 112, 113, 114, 115, 116, 117, 118, 119, 120, 121, 122, 123, 124, 125, 126, 127, 128, 133, 134, 160, 161, 162, 166, 167, 168, 169, 170, 171, 172, 173, 174, 175, 176, 177, 178, 180, 181, 182, 184, 185, 186, 187, 188, 191, 192, 193, 194, 195, 196, 197, 198, 199, 200, 201, 202, 203, 204, 205, 206, 207, 208, 209, 210, 211, 212, 213, 214, 215, 216, 217, 218, 219, 220, 221, 222, 223, 224, 225, 226, 227, 228, 229, 230, 231, 232, 233, 234, 235, 236, 237, 238, 239, 240, 241, 242, 243, 244, 245, 246, 247, 248, 249, 250, 251, 252, 253, 254, 255, 256, 257, 258, 259, 260, 261, 262, 263, 264, 265, 266, 267, 268, 269, 270, 271, 272, 273, 274, 275, 276, 277, 278, 279, 280, 281, 282, 283, 284, 285, 286, 287, 288, 289, 290, 291, 292, 293, 294, 295, 296, 297, 298, 299, 300, 301, 302, 303, 304, 305, 306, 307, 308, 309, 310, 311, 312, 313, 314, 315, 316, 317, 318, 319, 320, 321, 322, 323, 324, 325, 326, 327, 328, 329, 330, 331, 332, 333, 334, 335, 336, 337, 338, 339, 340, 341, 342, 343, 344, 345, 346, 347, 348, 349, 350, 351, 352, 353, 354, 355, 356, 357, 358, 359, 360, 361, 362, 363, 364, 365, 366, 367, 368, 369, 370, 371, 372, 373, 374, 375, 376, 377, 378, 379, 380, 381, 382, 383, 384, 768, 880, 913, 914, 915, 916, 917, 918, 919, 920, 921, 922, 923, 924, 925, 926, 927, 928, 929, 930, 931, 932, 933, 934, 935, 936, 937, 938, 945, 946, 947, 948, 949, 950, 951, 952, 953, 954, 955, 956, 957, 958, 959, 960, 961, 962, 963, 964, 965, 966, 967, 968, 969, 970, 1024, 1025, 1026, 1027, 1028, 1029, 1030, 1031, 1032, 1033, 1034, 1035, 1036, 1037, 1038, 1039, 1040, 1041, 1042, 1043, 1044, 1045, 1046, 1047, 1048, 1049, 1050, 1051, 1052, 1053, 1054, 1055, 1056, 1057, 1058, 1059, 1060, 1061, 1062, 1063, 1064, 1065, 1066, 1067, 1068, 1069, 1070, 1071, 1072, 1073, 1074, 1075, 1076, 1077, 1078, 1079, 1080, 1081, 1082, 1083, 1084, 1085, 1086, 1087, 1088, 1089, 1090, 1091, 1092, 1093, 1094, 1095, 1096, 1097, 1098, 1099, 1100, 1101, 1102, 1103, 1104, 1105, 1106, 1107, 1108, 1109, 1110, 1111, 1112, 1113, 1114, 1115, 1116, 1117, 1118, 1119, 1120, 1488, 1515, 1568, 1600, 1601, 1611, 1632, 1642, 5760, 5761, 6158, 6159, 8192, 8203, 8208, 8214, 8216, 8217, 8218, 8219, 8221, 8222, 8223, 8224, 8232, 8233, 8234, 8239, 8240, 8287, 8288, 8352, 8384, 8490, 8491, 8492, 8544, 8560, 8592, 8597, 12288, 12289, 12353, 12439, 12449, 12539, 19968, 40960, 44032, 55204, 57344, 63744, 65039, 65040, 65279, 65280, 127744, 128592, 1114112]
def B0 : List Int := B0n.map (fun x => ((x : Nat) : Int))
def inB (x : Nat) : Bool := B0n.any (fun y => Nat.beq y x)
theorem B0_len : B0.length = 513 := by unfold B0; rw [List.length_map]; decide +kernel
theorem inB_ok {x : Nat} (h : inB x = true) : ((x : Nat) : Int) ∈ B0 := by
  obtain ⟨y, hy, e⟩ := List.any_eq_true.mp h
  rw [← Nat.eq_of_beq_eq_true e]
  exact List.mem_map_of_mem hy
theorem inB_I {x : Int} (h0 : 0 ≤ x) (h : inB x.toNat = true) : x ∈ B0 := by
  have := inB_ok h
  rw [show ((x.toNat : Nat) : Int) = x by omega] at this
  exact this
theorem B0_pc : (List.range 253).all (fun i => inB (LOn i) && inB (pcN i)) = true := by decide +kernel
theorem B0_piece {i : Nat} (hi : i < 253) : LOf i ∈ B0 ∧ hiE i ∈ B0 := by
  have h := List.all_eq_true.mp B0_pc i (List.mem_range.mpr hi)
  rw [Bool.and_eq_true] at h
  rw [hiE_pcN]
  exact ⟨inB_ok h.1, inB_ok h.2⟩
theorem B0_c : inB 256 = true ∧ inB 1114112 = true ∧ inB 128 = true ∧ inB 0 = true ∧ inB 95 = true ∧ inB 96 = true ∧ inB 9 = true ∧ inB 14 = true ∧ inB 133 = true ∧ inB 134 = true := by decide +kernel
theorem B0_li : (List.range 18).all (fun t => Nat.blt t 2 || (stE t).all (fun x => decide (0 ≤ x)) && (List.range ((stE t).length / 2)).all (fun i => inB ((stE t).getD (2 * i) 0).toNat && inB (((stE t).getD (2 * i + 1) 0).toNat + 1))) = true := by decide +kernel
theorem B0_ka : (List.range 1122).all (fun j => Nat.beq (nxT Ta (chN j)) (chN j) || (inB (chN j) && inB (chN j + 1))) = true := by decide +kernel
theorem B0_kb : (List.range 1122).all (fun j => Nat.beq (nxT Tb (chN j)) (chN j) || (inB (chN j) && inB (chN j + 1))) = true := by decide +kernel
theorem B0_kc : (List.range 1122).all (fun j => Nat.beq (nxT Tc (chN j)) (chN j) || (inB (chN j) && inB (chN j + 1))) = true := by decide +kernel
section B0S
variable {E : List Int} {la : Int}
theorem B0_last (hla : la = 255 ∨ la = 1114111) : la + 1 ∈ B0 := by
  rcases hla with rfl | rfl
  · exact inB_ok (x := 256) B0_c.1
  · exact inB_ok (x := 1114112) B0_c.2.1
theorem min_B {x la : Int} (h1 : x + 1 ∈ B0) (hl : la + 1 ∈ B0) : min x la + 1 ∈ B0 := by
  rcases (show min x la = x ∨ min x la = la by omega) with e | e
  · rw [e]; exact h1
  · rw [e]; exact hl
theorem B0_PB1 (hla : la = 255 ∨ la = 1114111) : ∀ i, i < 253 → LOf i ≤ min (hiE i - 1) la → LOf i ∈ B0 ++ E ∧ min (hiE i - 1) la + 1 ∈ B0 ++ E := fun i hi _ =>
  ⟨List.mem_append_left _ (B0_piece hi).1, List.mem_append_left _ (min_B (by rw [show hiE i - 1 + 1 = hiE i by omega]; exact (B0_piece hi).2) (B0_last hla))⟩
theorem B0_B7 (hla : la = 255 ∨ la = 1114111) : ∀ i, i < 253 → LOf i ≤ min (min (hiE i - 1) 127) la → LOf i ∈ B0 ++ E ∧ min (min (hiE i - 1) 127) la + 1 ∈ B0 ++ E := fun i hi _ =>
  ⟨List.mem_append_left _ (B0_piece hi).1, List.mem_append_left _ (min_B (min_B (by rw [show hiE i - 1 + 1 = hiE i by omega]; exact (B0_piece hi).2) (inB_ok (x := 128) B0_c.2.2.1)) (B0_last hla))⟩
theorem B0_BC : 95 ∈ B0 ++ E ∧ 96 ∈ B0 ++ E ∧ 9 ∈ B0 ++ E ∧ 14 ∈ B0 ++ E ∧ 133 ∈ B0 ++ E ∧ 134 ∈ B0 ++ E := by
  obtain ⟨-, -, -, -, a, b, c, d, e, f⟩ := B0_c
  exact ⟨List.mem_append_left _ (inB_ok (x := 95) a), List.mem_append_left _ (inB_ok (x := 96) b), List.mem_append_left _ (inB_ok (x := 9) c), List.mem_append_left _ (inB_ok (x := 14) d), List.mem_append_left _ (inB_ok (x := 133) e), List.mem_append_left _ (inB_ok (x := 134) f)⟩
theorem B0_0 : 0 ∈ B0 ++ E := List.mem_append_left _ (inB_ok (x := 0) B0_c.2.2.2.1)
theorem B0_BL (hla : la = 255 ∨ la = 1114111) : ∀ t, 2 ≤ t → t ≤ 17 → ∀ i, 2 * i + 1 < (stE t).length → (stE t).getD (2 * i) 0 ≤ min ((stE t).getD (2 * i + 1) 0) la → (stE t).getD (2 * i) 0 ∈ B0 ++ E ∧ min ((stE t).getD (2 * i + 1) 0) la + 1 ∈ B0 ++ E := by
  intro t h2 h17 i hi _
  have h := List.all_eq_true.mp B0_li t (List.mem_range.mpr (by omega))
  rw [Bool.or_eq_true, Bool.and_eq_true] at h
  rcases h with h | ⟨hp, h⟩
  · have : t < 2 := Nat.le_of_ble_eq_true h
    omega
  · have g := List.all_eq_true.mp h i (List.mem_range.mpr (by omega))
    rw [Bool.and_eq_true] at g
    have p1 := of_decide_eq_true (List.all_eq_true.mp hp _ (gd_in (L := stE t) (i := 2 * i) (by omega)))
    have p2 := of_decide_eq_true (List.all_eq_true.mp hp _ (gd_in (L := stE t) (i := 2 * i + 1) (by omega)))
    refine ⟨List.mem_append_left _ (inB_I p1 g.1), List.mem_append_left _ (min_B ?_ (B0_last hla))⟩
    have := inB_ok g.2
    rw [show ((((stE t).getD (2 * i + 1) 0).toNat + 1 : Nat) : Int) = (stE t).getD (2 * i + 1) 0 + 1 by omega] at this
    exact this
end B0S
theorem B0_BKa {E : List Int} : ∀ i, i < 1122 → ¬ nxF (NXa 255) (chA i) = chA i → chA i ∈ B0 ++ E ∧ chA i + 1 ∈ B0 ++ E := by
  intro i hi hn
  have h := List.all_eq_true.mp B0_ka i (List.mem_range.mpr hi)
  rw [nxa_f, chA_N] at hn
  rw [chA_N]
  rw [Bool.or_eq_true, Bool.and_eq_true] at h
  rcases h with h | ⟨h1, h2⟩
  · refine absurd ?_ hn
    unfold nxI
    rw [if_neg (by omega), show (((chN i : Nat) : Int)).toNat = chN i from rfl, Nat.eq_of_beq_eq_true h]
  · exact ⟨List.mem_append_left _ (inB_ok h1), List.mem_append_left _ (inB_ok (x := chN i + 1) h2)⟩
theorem B0_BKb {E : List Int} : ∀ i, i < 1122 → ¬ nxF (NXb 255) (chA i) = chA i → chA i ∈ B0 ++ E ∧ chA i + 1 ∈ B0 ++ E := by
  intro i hi hn
  have h := List.all_eq_true.mp B0_kb i (List.mem_range.mpr hi)
  rw [nxb_f, chA_N] at hn
  rw [chA_N]
  rw [Bool.or_eq_true, Bool.and_eq_true] at h
  rcases h with h | ⟨h1, h2⟩
  · refine absurd ?_ hn
    unfold nxI
    rw [if_neg (by omega), show (((chN i : Nat) : Int)).toNat = chN i from rfl, Nat.eq_of_beq_eq_true h]
  · exact ⟨List.mem_append_left _ (inB_ok h1), List.mem_append_left _ (inB_ok (x := chN i + 1) h2)⟩
theorem B0_BKc {E : List Int} : ∀ i, i < 1122 → ¬ nxF (NXb 1114111) (chA i) = chA i → chA i ∈ B0 ++ E ∧ chA i + 1 ∈ B0 ++ E := by
  intro i hi hn
  have h := List.all_eq_true.mp B0_kc i (List.mem_range.mpr hi)
  rw [nxc_f, chA_N] at hn
  rw [chA_N]
  rw [Bool.or_eq_true, Bool.and_eq_true] at h
  rcases h with h | ⟨h1, h2⟩
  · refine absurd ?_ hn
    unfold nxI
    rw [if_neg (by omega), show (((chN i : Nat) : Int)).toNat = chN i from rfl, Nat.eq_of_beq_eq_true h]
  · exact ⟨List.mem_append_left _ (inB_ok h1), List.mem_append_left _ (inB_ok (x := chN i + 1) h2)⟩
theorem out_ca : (List.range 1122).all (fun j => Nat.ble (chN j) 255 || Nat.beq (nxT Ta (chN j)) (chN j)) = true := by decide +kernel
theorem out_a : ∀ i, i < 1122 → (255 : Int) < chA i → nxF (NXa 255) (chA i) = chA i := by
  intro i hi hl
  have h := List.all_eq_true.mp out_ca i (List.mem_range.mpr hi)
  rw [nxa_f]
  rw [chA_N] at hl ⊢
  rw [Bool.or_eq_true] at h
  rcases h with h | h
  · have := Nat.le_of_ble_eq_true h
    omega
  · unfold nxI
    rw [if_neg (by omega), show (((chN i : Nat) : Int)).toNat = chN i from rfl, Nat.eq_of_beq_eq_true h]
theorem nbdc_a : (List.range 1122).all (fun j => Nat.ble (nxT Ta (chN j)) 1114111) = true := by decide +kernel
theorem nbd_a : ∀ j, j < 1122 → 0 ≤ (NXa 255) j ∧ (NXa 255) j ≤ 1114111 := by
  intro j hj
  have h := Nat.le_of_ble_eq_true (List.all_eq_true.mp nbdc_a j (List.mem_range.mpr hj))
  rw [nxa_at hj]
  omega
theorem out_cb : (List.range 1122).all (fun j => Nat.ble (chN j) 255 || Nat.beq (nxT Tb (chN j)) (chN j)) = true := by decide +kernel
theorem out_b : ∀ i, i < 1122 → (255 : Int) < chA i → nxF (NXb 255) (chA i) = chA i := by
  intro i hi hl
  have h := List.all_eq_true.mp out_cb i (List.mem_range.mpr hi)
  rw [nxb_f]
  rw [chA_N] at hl ⊢
  rw [Bool.or_eq_true] at h
  rcases h with h | h
  · have := Nat.le_of_ble_eq_true h
    omega
  · unfold nxI
    rw [if_neg (by omega), show (((chN i : Nat) : Int)).toNat = chN i from rfl, Nat.eq_of_beq_eq_true h]
theorem nbdc_b : (List.range 1122).all (fun j => Nat.ble (nxT Tb (chN j)) 1114111) = true := by decide +kernel
theorem nbd_b : ∀ j, j < 1122 → 0 ≤ (NXb 255) j ∧ (NXb 255) j ≤ 1114111 := by
  intro j hj
  have h := Nat.le_of_ble_eq_true (List.all_eq_true.mp nbdc_b j (List.mem_range.mpr hj))
  rw [nxb_at hj]
  omega
theorem out_cc : (List.range 1122).all (fun j => Nat.ble (chN j) 1114111 || Nat.beq (nxT Tc (chN j)) (chN j)) = true := by decide +kernel
theorem out_c : ∀ i, i < 1122 → (1114111 : Int) < chA i → nxF (NXb 1114111) (chA i) = chA i := by
  intro i hi hl
  have h := List.all_eq_true.mp out_cc i (List.mem_range.mpr hi)
  rw [nxc_f]
  rw [chA_N] at hl ⊢
  rw [Bool.or_eq_true] at h
  rcases h with h | h
  · have := Nat.le_of_ble_eq_true h
    omega
  · unfold nxI
    rw [if_neg (by omega), show (((chN i : Nat) : Int)).toNat = chN i from rfl, Nat.eq_of_beq_eq_true h]
theorem nbdc_c : (List.range 1122).all (fun j => Nat.ble (nxT Tc (chN j)) 1114111) = true := by decide +kernel
theorem nbd_c : ∀ j, j < 1122 → 0 ≤ (NXb 1114111) j ∧ (NXb 1114111) j ≤ 1114111 := by
  intro j hj
  have h := Nat.le_of_ble_eq_true (List.all_eq_true.mp nbdc_c j (List.mem_range.mpr hj))
  rw [nxc_at hj]
  omega
