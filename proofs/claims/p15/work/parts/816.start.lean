/-! WHAT THE TURNS KEEP HOLDS AT THE START (written by wip/p2/genlaw0.py) -/
set_option maxRecDepth 1000000 in
def cT0 : qCt := (11, (([(0, (2, ((1, []), (0, [])))), (1, (2, ((26909, []), (0, [])))), (2, (2, ((28161, []), (0, [])))), (3, (0, ((0, [(0, 1)]), (0, [])))), (4, (0, ((0, [(1, 1)]), (0, [])))), (5, (0, ((0, [(2, 1)]), (0, [])))), (6, (0, ((0, [(3, 1)]), (0, [])))), (7, (0, ((0, [(4, 1)]), (0, [])))), (8, (1, ((0, [(5, 1)]), (0, [])))), (10, (0, ((0, [(6, 1)]), (0, [])))), (11, (0, ((0, [(7, 1)]), (0, []))))], [], ([(212, (0, [])), (440, (0, [])), (443, (0, [])), (442, (0, [])), (444, (0, [])), (441, (0, [])), (267, (0, [])), (210, (0, [])), (227, (0, [])), (213, (0, [])), (209, (0, [])), (211, (0, [])), (208, (0, [])), (190, (0, [])), (231, (0, [])), (204, (0, [])), (214, (0, [])), (39, (0, [])), (59, (0, [])), (65, (0, [])), (0, (0, [])), (5, (0, [])), (12, (0, [])), (432, (0, [])), (433, (0, [])), (435, ((-1), [])), (430, (0, [])), (431, (0, [])), (13, (0, [])), (8, (0, [])), (9, (0, []))], [(399, 0), (294, 1), (296, 2), (386, 3), (407, 4), (408, 5), (314, 6), (316, 7), (309, 8), (313, 9), (310, 10), (315, 11), (312, 12), (303, 13), (354, 14), (301, 15), (353, 16), (291, 17), (297, 18), (358, 19), (357, 20), (347, 21), (349, 22), (348, 23), (350, 24), (362, 25), (320, 26), (319, 27), (322, 28), (321, 29), (323, 30), (290, 31), (426, 32), (427, 33), (113, 34), (112, 35), (51, 36), (49, 37), (52, 38), (50, 39), (73, 40), (60, 41), (67, 42), (181, 43), (179, 44), (15, 45), (27, 46), (22, 47), (23, 48)]), (8, [(0, ((-2147483648), 2147483647)), (1, ((-2147483648), 2147483647)), (2, ((-2147483648), 2147483647)), (3, ((-2147483648), 2147483647)), (4, ((-2147483648), 2147483647)), (5, ((-9223372036854775808), 9223372036854775807)), (6, (0, 1)), (7, ((-2147483648), 2147483647))], [], 49, [(0, 399), (1, 294), (2, 296), (3, 386), (4, 407), (5, 408), (6, 314), (7, 316), (8, 309), (9, 313), (10, 310), (11, 315), (12, 312), (13, 303), (14, 354), (15, 301), (16, 353), (17, 291), (18, 297), (19, 358), (20, 357), (21, 347), (22, 349), (23, 348), (24, 350), (25, 362), (26, 320), (27, 319), (28, 322), (29, 321), (30, 323), (31, 290), (32, 426), (33, 427), (34, 113), (35, 112), (36, 51), (37, 49), (38, 52), (39, 50), (40, 73), (41, 60), (42, 67), (43, 181), (44, 179), (45, 15), (46, 27), (47, 22), (48, 23)], [], [], [(1087, ([35], [(0, [])])), (1087, ([44], [(0, [])])), (1174, ([34], [(0, []), (55, [])])), (1174, ([43], [(0, []), (6144, [])])), (1175, ([32], [(0, []), (13, [])])), (1176, ([33], [(0, []), (6, [])])), (2, ([40], [(0, []), (1, []), (0, [])])), (2, ([42], [(0, []), (1, []), (0, [])])), (3, ([40], [(0, []), (1, []), (32768, [])])), (3, ([40], [(0, []), (1, []), (0, [])])), (3, ([42], [(0, []), (1, []), (65536, [])])), (10, ([15], [(0, []), (1, []), (63, []), ((-1), [])])), (1071, ([0], [(0, []), (8194, [])])), (1071, ([3], [(0, []), (8194, [])])), (1071, ([11], [(0, []), (9218, [])])), (1075, ([25], [(0, []), (4, [])])), (1172, ([31], [(0, []), (200, [])])), (1173, ([17], [(0, []), (50, [])])), (2, ([6], [(0, []), (9218, []), (0, [])])), (2, ([12], [(0, []), (9218, []), (0, [])])), (2, ([23], [(0, []), (1110, []), (0, [])])), (23, ([14], [(0, []), (1110, []), (1024, []), (1048576, [])])), (23, ([16], [(0, []), (1110, []), (1024, []), (1048576, [])])), (23, ([19], [(0, []), (4104, []), (1024, []), (1048576, [])])), (23, ([20], [(0, []), (4104, []), (1024, []), (1048576, [])])), (23, ([28], [(0, []), (4104, []), (1024, []), (1048576, [])])), (23, ([29], [(0, []), (4104, []), (1024, []), (1048576, [])])), (3, ([23], [(0, []), (1110, []), (1024, [])]))])), ([([], [], ([], []), (8, [], [], 49, [], [], [], []))], [0, 1, 2, 3, 4, 5, 6, 7, 8, 9, 10, 11, 12, 13, 14, 15, 16, 17, 18, 19, 20, 21, 22, 23, 24, 25, 26, 27, 28, 29, 30, 31, 32, 33, 34, 35, 36, 37, 38, 39, 40, 41, 42, 49, 50, 51, 52, 53, 54, 55, 56, 57, 58, 59, 60, 61, 62, 63, 64, 65, 66, 67, 68, 69, 70, 71, 72, 73, 74, 75, 76, 77, 78, 79, 80, 81, 82, 83, 84, 85, 86, 87, 88, 89, 90, 91, 92, 93, 94, 95, 96, 97, 98, 99, 100, 101, 102, 103, 104, 105, 106, 107, 108, 109, 110, 111, 115, 116, 117, 118, 119, 120, 121, 122, 123, 124, 125, 126, 127, 128, 129, 130, 131, 132, 133, 134, 135, 136, 137, 138, 139, 140, 141, 142, 143, 144, 145, 146, 147, 148, 149, 150, 151, 152, 153, 154, 155, 156, 157, 158, 159, 160, 161, 162, 163, 164, 165, 166, 167, 168, 169, 170, 171, 172, 174, 178, 182, 183, 185, 186, 187, 188, 189, 190, 204, 205, 206, 207, 208, 209, 210, 211, 212, 213, 214, 215, 216, 217, 218, 219, 220, 221, 222, 223, 224, 225, 226, 227, 228, 229, 230, 231, 232, 233, 234, 235, 236, 237, 238, 239, 240, 241, 242, 243, 244, 245, 246, 247, 248, 249, 250, 251, 253, 254, 255, 256, 257, 258, 259, 260, 261, 262, 263, 265, 266, 267, 268, 269, 270, 271, 272, 273, 274, 275, 276, 277, 278, 279, 280, 281, 282, 283, 284, 285, 286, 287, 292, 293, 294, 295, 296, 297, 298, 299, 300, 301, 302, 303, 304, 305, 306, 307, 308, 309, 310, 311, 312, 313, 314, 315, 316, 317, 318, 319, 320, 321, 322, 323, 324, 325, 326, 327, 328, 329, 330, 331, 332, 333, 334, 335, 336, 337, 338, 339, 340, 341, 342, 343, 344, 345, 346, 347, 348, 349, 350, 351, 352, 353, 354, 355, 356, 357, 358, 359, 360, 361, 362, 363, 364, 372, 373, 374, 375, 376, 377, 378, 379, 380, 381, 382, 383, 384, 385, 386, 387, 388, 389, 390, 391, 392, 393, 394, 395, 396, 397, 398, 399, 400, 401, 402, 403, 404, 405, 406, 407, 408, 409, 410, 411, 412, 413, 414, 415, 416, 417, 430, 431, 432, 433, 434, 435, 436, 437, 438, 439, 440, 441, 442, 443, 444, 445, 446])))
def tT0 : List qCt := [cT]
def bT0_0 : List qD × qTm := ([(3, 0, 2, 0), (3, 1, 2, 0), (3, 2, 2, 0), (0, 0, 0, 0), (3, 3, 0, 0), (3, 4, 0, 0), (3, 5, 0, 0), (3, 6, 0, 0), (3, 7, 0, 0), (3, 8, 1, 0), (3, 10, 0, 0), (3, 11, 0, 0), (34, 212, 0, 0), (34, 440, 0, 0), (34, 443, 0, 0), (34, 442, 0, 0), (34, 444, 0, 0), (34, 441, 0, 0), (34, 267, 0, 0), (34, 210, 0, 0), (34, 227, 0, 0), (34, 213, 0, 0), (34, 209, 0, 0), (34, 211, 0, 0), (34, 208, 0, 0), (34, 190, 0, 0), (34, 231, 0, 0), (34, 204, 0, 0), (34, 214, 0, 0), (34, 39, 0, 0), (34, 59, 0, 0), (34, 65, 0, 0), (34, 0, 0, 0), (34, 5, 0, 0), (34, 12, 0, 0), (34, 432, 0, 0), (34, 433, 0, 0), (34, 435, 0, 0), (34, 430, 0, 0), (34, 431, 0, 0), (34, 13, 0, 0), (34, 8, 0, 0), (34, 9, 0, 0), (35, 399, 0, 0), (35, 294, 0, 0), (35, 296, 0, 0), (35, 386, 0, 0), (35, 407, 0, 0), (35, 408, 0, 0), (35, 314, 0, 0), (35, 316, 0, 0), (35, 309, 0, 0), (35, 313, 0, 0), (35, 310, 0, 0), (35, 315, 0, 0), (35, 312, 0, 0), (35, 303, 0, 0), (35, 354, 0, 0), (35, 301, 0, 0), (35, 353, 0, 0), (35, 291, 0, 0), (35, 297, 0, 0), (35, 358, 0, 0), (35, 357, 0, 0), (35, 347, 0, 0), (35, 349, 0, 0), (35, 348, 0, 0), (35, 350, 0, 0), (35, 362, 0, 0), (35, 320, 0, 0), (35, 319, 0, 0), (35, 322, 0, 0), (35, 321, 0, 0), (35, 323, 0, 0), (35, 290, 0, 0), (35, 426, 0, 0), (35, 427, 0, 0), (35, 113, 0, 0), (35, 112, 0, 0), (35, 51, 0, 0), (35, 49, 0, 0), (35, 52, 0, 0), (35, 50, 0, 0), (35, 73, 0, 0), (35, 60, 0, 0), (35, 67, 0, 0), (35, 181, 0, 0), (35, 179, 0, 0), (35, 15, 0, 0), (35, 27, 0, 0), (35, 22, 0, 0), (35, 23, 0, 0), (38, 0, 0, 0), (33, 0, 0, 0)], (4, 0, 0, 0, []))
def bT0 : qCd := [bT0_0]
set_option maxRecDepth 1000000 in
theorem zT0 : zchk gAll tT0 ruI2 ruJ2 rqL bT0 [] cT0 300 [2, 253, 1, 2, 47, 0, 0, 0, 0, 2, 781, 2, 2, 47, 46, 0, 0, 0, 0, 2, 782, 2, 2, 48, 47, 0, 0, 0, 0, 2, 783, 2, 3, 48, 46, 0, 0, 0, 0, 0, 0, 2, 784, 1, 1, 46, 0, 0, 2, 42, 1, 3, 36, 0, 0, 0, 0, 0, 0, 2, 1157, 2, 2, 36, 38, 0, 0, 0, 0, 2, 61, 1, 3, 38, 0, 0, 0, 0, 2048, 0, 2, 1156, 1, 2, 40, 0, 0, 0, 0, 2, 1156, 1, 2, 45, 0, 0, 0, 0, 2, 1158, 2, 2, 37, 39, 0, 0, 0, 0, 2, 1159, 2, 2, 37, 39, 0, 0, 0, 0, 2, 785, 1, 3, 46, 2, 0, 2, 0, 0, 0, 2, 786, 1, 3, 46, 2, 0, 2, 0, 0, 0, 2, 787, 1, 3, 46, 2, 0, 2, 0, 0, 0, 2, 1154, 1, 2, 47, 0, 0, 0, 0, 2, 1107, 1, 3, 48, 0, 0, 0, 0, 0, 0, 2, 582, 1, 2, 47, 0, 0, 0, 0, 2, 1155, 1, 2, 47, 0, 0, 0, 0, 2, 1160, 1, 2, 47, 0, 0, 0, 0, 2, 1161, 1, 2, 41, 0, 0, 0, 0, 2, 801, 14, 4, 8, 10, 12, 9, 6, 27, 26, 30, 29, 28, 13, 1, 2, 18, 0, 0, 0, 0, 0, 0, 0, 0, 2, 515, 5, 6, 8, 12, 27, 26, 30, 0, 0, 0, 0, 0, 0, 0, 0, 16385, 0, 8193, 0, 2, 802, 1, 2, 13, 0, 0, 0, 0, 2, 803, 1, 2, 8, 0, 0, 0, 0, 2, 105, 1, 4, 2, 0, 0, 0, 0, 0, 0, 0, 0, 3, 2, 0, 0, 2, 277, 1, 8, 2, 0, 0, 0, 0, 0, 0, 0, 0, 0, 0, 0, 0, 0, 1, 8, 2, 2, 0, 0, 0, 0, 0, 2, 1162, 2, 2, 21, 24, 0, 0, 0, 0, 2, 1163, 2, 2, 21, 24, 0, 0, 0, 0, 2, 1164, 2, 2, 21, 22, 0, 0, 0, 0, 2, 1165, 2, 2, 8, 7, 0, 0, 0, 0, 2, 1166, 2, 2, 8, 7, 0, 0, 0, 0, 2, 838, 2, 3, 4, 5, 0, 0, 0, 0, 258048, 0, 2, 798, 3, 3, 8, 6, 12, 0, 0, 0, 0, 0, 0, 2, 799, 3, 3, 8, 6, 12, 0, 0, 0, 0, 0, 0, 2, 800, 3, 3, 8, 6, 12, 0, 0, 0, 0, 0, 0, 2, 612, 1, 5, 27, 0, 0, 0, 0, 1, 0, 16385, 0, 8193, 0, 0, 37, 38, 36, 35, 34, 33, 32, 39, 40, 41, 42, 31, 43, 43, 44, 30, 29, 45, 46, 47, 28, 27, 26, 25, 24, 23, 22, 21, 20, 19, 18, 17, 16, 48, 49, 50, 51, 52, 15, 14, 13, 13, 12, 53, 54, 10, 9, 8, 55, 56, 57, 7, 58, 59, 60, 61, 62, 63, 6, 5, 64, 4, 3, 2, 1, 0, 0] = true := by decide +kernel
theorem yrT0 : yRun gAll tT0 bT0 cT0 := yRun_z gAll_tag ruI2_RtI ruJ2_RtJ rqL_ok zT0
noncomputable def oqZ0 (w : rWd) (T : List (Nat × sRc)) (b : Nat) : Bool := match lkA b T with
  | none => true
  | some (0, (k, _)) => (match wGet k w with
    | some (.inr (_, _, d, [])) => decide (zv d = 0)
    | _ => false)
  | _ => false
theorem oqZ0_ok {w : rWd} {fo : List rCC} {T : List (Nat × sRc)} {b : Nat} (h : oqZ0 w T b = true) (i : Int) : sSt w fo T b i = 0 := by
  unfold oqZ0 at h
  split at h
  · rename_i e
    unfold sSt; rw [e]
  · rename_i k j e
    split at h
    · rename_i t N d e3
      have e2 : sSt w fo T b i = zv (rL d [] i.toNat) := by
        unfold sSt; rw [e]
        show (match wGet k w with
          | some (.inr (_, _, d, m)) => zv (rL d m i.toNat)
          | _ => 0) = _
        rw [e3]
      rw [e2, rL_eq]
      exact of_decide_eq_true h
    · cases h
  · cases h
theorem pq_ge0 {F : Int → Int} {a b c : Int} (hF : ∀ i, F i = 0) (hc : c ≤ 0) : PQ 2 [F] [a, b, c] := (PQ_f (φ := ((1, 3), ([(0, 1, 0, [], [])], [(0, 0, [(2, (-1))], [(0, 1)])]))) rfl _ _).mpr (fun j _ _ => ⟨_, List.mem_cons_self, by
  show 0 ≤ 0 + 0 * j + (-1 * c + 0) + (1 * F (0 + 1 * j + 0 + 0) + 0)
  rw [hF]; omega⟩)
theorem pq_le0 {F : Int → Int} {a b c : Int} (hF : ∀ i, F i = 0) (hc : 0 ≤ c) : PQ 3 [F] [a, b, c] := (PQ_f (φ := ((1, 3), ([(0, 1, 0, [], [])], [(0, 0, [(2, 1)], [(0, (-1))])]))) rfl _ _).mpr (fun j _ _ => ⟨_, List.mem_cons_self, by
  show 0 ≤ 0 + 0 * j + (1 * c + 0) + (-1 * F (0 + 1 * j + 0 + 0) + 0)
  rw [hF]; omega⟩)
theorem pq_lo0 {F : Int → Int} {a b c d : Int} (hF : ∀ i, F i = 0) (hc : 0 ≤ c) : PQ 10 [F] [a, b, c, d] := (PQ_f (φ := ((1, 4), ([(0, 1, 0, [], [])], [(0, 0, [(2, 1)], [(0, (-1))]), (0, 0, [(3, 1)], [])]))) rfl _ _).mpr (fun j _ _ => ⟨_, List.mem_cons_self, by
  show 0 ≤ 0 + 0 * j + (1 * c + 0) + (-1 * F (0 + 1 * j + 0 + 0) + 0)
  rw [hF]; omega⟩)
theorem pq_or0 {F : Int → Int} {a b c d : Int} (hF : ∀ i, F i = 0) (hc : 0 ≤ c) : PQ 23 [F] [a, b, c, d] := (PQ_f (φ := ((1, 4), ([(0, 1, 0, [], [])], [(0, 0, [(2, 1)], [(0, (-1))]), (0, 0, [(3, (-1))], [(0, 1)])]))) rfl _ _).mpr (fun j _ _ => ⟨_, List.mem_cons_self, by
  show 0 ≤ 0 + 0 * j + (1 * c + 0) + (-1 * F (0 + 1 * j + 0 + 0) + 0)
  rw [hF]; omega⟩)
theorem pq_sh0 {F : Int → Int} {a b : Int} (hF : ∀ i, F i = 0) : PQ 1071 [F] [a, b] := (PQ_c (show fTab[1071]? = none by decide +kernel)).mpr (fun j _ _ => by
  show eShp (F j)
  rw [hF]
  exact ⟨by decide, Or.inl (by decide)⟩)
theorem pq_sz0 {F : Int → Int} {a b : Int} (hF : ∀ i, F i = 0) : PQ 1075 [F] [a, b] := (PQ_c (show fTab[1075]? = none by decide +kernel)).mpr (fun j _ _ => by
  show eSzv (F j)
  rw [hF]
  exact Or.inl rfl)
theorem rng_of {P : Int → Prop} {f : Int → Bool} {n : Nat} (hf : ∀ i, f i = true → P i) (h : (List.range n).all (fun i => f (i : Int)) = true) {i : Int} (h0 : 0 ≤ i) (h1 : i < n) : P i := by
  have h9 := List.all_eq_true.mp h i.toNat (List.mem_range.mpr (by omega))
  have e : ((i.toNat : Nat) : Int) = i := Int.toNat_of_nonneg h0
  rw [e] at h9
  exact hf i h9
set_option maxRecDepth 1000000 in
/-- x.assembler.instruction.rows -/
theorem pq0_0 : PQ 1087 [s0 112] [0] := (PQ_c (show fTab[1087]? = none by decide +kernel)).mpr (fun i h0 h1 h6 => by
  have h9 := rng_of (P := fun k => (0 ≤ s0 112 (6 * k) ∧ s0 112 (6 * k) ≤ 53) ∧ (0 ≤ s0 112 ((6 * k) + 1) ∧ s0 112 ((6 * k) + 1) ≤ 9) ∧ (0 ≤ s0 112 ((6 * k) + 2) ∧ s0 112 ((6 * k) + 2) ≤ 12) ∧ (0 ≤ s0 112 ((6 * k) + 3) ∧ s0 112 ((6 * k) + 3) ≤ 5) ∧ (0 ≤ s0 112 ((6 * k) + 4) ∧ s0 112 ((6 * k) + 4) ≤ 62379) ∧ (-1 ≤ s0 112 ((6 * k) + 5) ∧ s0 112 ((6 * k) + 5) ≤ 7) ∧ (s0 112 ((6 * k) + 1) ≠ 4 ∨ (6 * k) ≤ 1080)) (f := fun k => decide ((0 ≤ s0 112 (6 * k) ∧ s0 112 (6 * k) ≤ 53) ∧ (0 ≤ s0 112 ((6 * k) + 1) ∧ s0 112 ((6 * k) + 1) ≤ 9) ∧ (0 ≤ s0 112 ((6 * k) + 2) ∧ s0 112 ((6 * k) + 2) ≤ 12) ∧ (0 ≤ s0 112 ((6 * k) + 3) ∧ s0 112 ((6 * k) + 3) ≤ 5) ∧ (0 ≤ s0 112 ((6 * k) + 4) ∧ s0 112 ((6 * k) + 4) ≤ 62379) ∧ (-1 ≤ s0 112 ((6 * k) + 5) ∧ s0 112 ((6 * k) + 5) ≤ 7) ∧ (s0 112 ((6 * k) + 1) ≠ 4 ∨ (6 * k) ≤ 1080))) (n := 183) (fun i h => of_decide_eq_true h) (by decide +kernel) (i := i / 6) (by omega) (by omega)
  have e : 6 * (i / 6) = i := by omega
  rw [e] at h9
  exact h9)
set_option maxRecDepth 1000000 in
/-- x.machine.it.rows -/
theorem pq0_1 : PQ 1087 [s0 179] [0] := (PQ_c (show fTab[1087]? = none by decide +kernel)).mpr (fun i h0 h1 h6 => by
  have h9 := rng_of (P := fun k => (0 ≤ s0 179 (6 * k) ∧ s0 179 (6 * k) ≤ 53) ∧ (0 ≤ s0 179 ((6 * k) + 1) ∧ s0 179 ((6 * k) + 1) ≤ 9) ∧ (0 ≤ s0 179 ((6 * k) + 2) ∧ s0 179 ((6 * k) + 2) ≤ 12) ∧ (0 ≤ s0 179 ((6 * k) + 3) ∧ s0 179 ((6 * k) + 3) ≤ 5) ∧ (0 ≤ s0 179 ((6 * k) + 4) ∧ s0 179 ((6 * k) + 4) ≤ 62379) ∧ (-1 ≤ s0 179 ((6 * k) + 5) ∧ s0 179 ((6 * k) + 5) ≤ 7) ∧ (s0 179 ((6 * k) + 1) ≠ 4 ∨ (6 * k) ≤ 1080)) (f := fun k => decide ((0 ≤ s0 179 (6 * k) ∧ s0 179 (6 * k) ≤ 53) ∧ (0 ≤ s0 179 ((6 * k) + 1) ∧ s0 179 ((6 * k) + 1) ≤ 9) ∧ (0 ≤ s0 179 ((6 * k) + 2) ∧ s0 179 ((6 * k) + 2) ≤ 12) ∧ (0 ≤ s0 179 ((6 * k) + 3) ∧ s0 179 ((6 * k) + 3) ≤ 5) ∧ (0 ≤ s0 179 ((6 * k) + 4) ∧ s0 179 ((6 * k) + 4) ≤ 62379) ∧ (-1 ≤ s0 179 ((6 * k) + 5) ∧ s0 179 ((6 * k) + 5) ≤ 7) ∧ (s0 179 ((6 * k) + 1) ≠ 4 ∨ (6 * k) ≤ 1080))) (n := 183) (fun i h => of_decide_eq_true h) (by decide +kernel) (i := i / 6) (by omega) (by omega)
  have e : 6 * (i / 6) = i := by omega
  rw [e] at h9
  exact h9)
set_option maxRecDepth 1000000 in
/-- x.assembler.instruction.firstRow -/
theorem pq0_2 : PQ 1174 [s0 113] [0, 55] := (PQ_c (show fTab[1174]? = none by decide +kernel)).mpr (fun i h0 h1 => rng_of (P := fun i => s0 113 i = -1 ∨ (0 ≤ s0 113 i ∧ s0 113 i % 6 = 0)) (f := fun i => decide (s0 113 i = -1 ∨ (0 ≤ s0 113 i ∧ s0 113 i % 6 = 0))) (n := 55) (fun i h => of_decide_eq_true h) (by decide +kernel) h0 h1)
set_option maxRecDepth 1000000 in
/-- x.machine.it.rowAt -/
theorem pq0_3 : PQ 1174 [s0 181] [0, 6144] := (PQ_c (show fTab[1174]? = none by decide +kernel)).mpr (fun i h0 h1 => rng_of (P := fun i => s0 181 i = -1 ∨ (0 ≤ s0 181 i ∧ s0 181 i % 6 = 0)) (f := fun i => decide (s0 181 i = -1 ∨ (0 ≤ s0 181 i ∧ s0 181 i % 6 = 0))) (n := 6144) (fun i h => of_decide_eq_true h) (by decide +kernel) h0 h1)
set_option maxRecDepth 1000000 in
/-- s:NativeWorks$Instruction.N_AT -/
theorem pq0_4 : PQ 1175 [s0 426] [0, 13] := (PQ_c (show fTab[1175]? = none by decide +kernel)).mpr (fun i h0 h1 => rng_of (P := fun i => (s0 426 i = -1 ∧ (i = 0 ∨ i = 1 ∨ i = 2 ∨ i = 5 ∨ i = 7 ∨ i = 8 ∨ i = 10 ∨ i = 11)) ∨ (s0 426 i = 1 ∧ (i = 3 ∨ i = 4 ∨ i = 6)) ∨ (s0 426 i = 2 ∧ i = 9) ∨ (s0 426 i = 0 ∧ i = 12)) (f := fun i => decide ((s0 426 i = -1 ∧ (i = 0 ∨ i = 1 ∨ i = 2 ∨ i = 5 ∨ i = 7 ∨ i = 8 ∨ i = 10 ∨ i = 11)) ∨ (s0 426 i = 1 ∧ (i = 3 ∨ i = 4 ∨ i = 6)) ∨ (s0 426 i = 2 ∧ i = 9) ∨ (s0 426 i = 0 ∧ i = 12))) (n := 13) (fun i h => of_decide_eq_true h) (by decide +kernel) h0 h1)
set_option maxRecDepth 1000000 in
/-- s:NativeWorks$Instruction.WIDTHS -/
theorem pq0_5 : PQ 1176 [s0 427] [0, 6] := (PQ_c (show fTab[1176]? = none by decide +kernel)).mpr (fun i h0 h1 => rng_of (P := fun i => (i = 0 ∧ s0 427 i = 0) ∨ (i = 1 ∧ s0 427 i = 1) ∨ (i = 2 ∧ s0 427 i = 1) ∨ (i = 3 ∧ s0 427 i = 2) ∨ (i = 4 ∧ s0 427 i = 4) ∨ (i = 5 ∧ s0 427 i = 8)) (f := fun i => decide ((i = 0 ∧ s0 427 i = 0) ∨ (i = 1 ∧ s0 427 i = 1) ∨ (i = 2 ∧ s0 427 i = 1) ∨ (i = 3 ∧ s0 427 i = 2) ∨ (i = 4 ∧ s0 427 i = 4) ∨ (i = 5 ∧ s0 427 i = 8))) (n := 6) (fun i h => of_decide_eq_true h) (by decide +kernel) h0 h1)
set_option maxRecDepth 1000000 in
/-- x.assembler.reader.source.firstParameter -/
theorem pq0_6 : PQ 2 [s0 73] [0, 1, 0] := pq_ge0 (oqZ0_ok (by decide +kernel)) (by decide)
set_option maxRecDepth 1000000 in
/-- x.assembler.reader.source.macros.from -/
theorem pq0_7 : PQ 2 [s0 67] [0, 1, 0] := pq_ge0 (oqZ0_ok (by decide +kernel)) (by decide)
set_option maxRecDepth 1000000 in
/-- x.assembler.reader.source.firstParameter -/
theorem pq0_8 : PQ 3 [s0 73] [0, 1, 32768] := pq_le0 (oqZ0_ok (by decide +kernel)) (by decide)
set_option maxRecDepth 1000000 in
/-- x.assembler.reader.source.firstParameter -/
theorem pq0_9 : PQ 3 [s0 73] [0, 1, 0] := pq_le0 (oqZ0_ok (by decide +kernel)) (by decide)
set_option maxRecDepth 1000000 in
/-- x.assembler.reader.source.macros.from -/
theorem pq0_10 : PQ 3 [s0 67] [0, 1, 65536] := pq_le0 (oqZ0_ok (by decide +kernel)) (by decide)
set_option maxRecDepth 1000000 in
/-- m.nameLength -/
theorem pq0_11 : PQ 10 [s0 301] [0, 1, 63, (-1)] := pq_lo0 (oqZ0_ok (by decide +kernel)) (by decide)
set_option maxRecDepth 1000000 in
/-- m.code.shape -/
theorem pq0_12 : PQ 1071 [s0 399] [0, 8194] := pq_sh0 (oqZ0_ok (by decide +kernel))
set_option maxRecDepth 1000000 in
/-- m.image.shape -/
theorem pq0_13 : PQ 1071 [s0 386] [0, 8194] := pq_sh0 (oqZ0_ok (by decide +kernel))
set_option maxRecDepth 1000000 in
/-- m.itemShape -/
theorem pq0_14 : PQ 1071 [s0 315] [0, 9218] := pq_sh0 (oqZ0_ok (by decide +kernel))
set_option maxRecDepth 1000000 in
/-- m.told -/
theorem pq0_15 : PQ 1075 [s0 362] [0, 4] := pq_sz0 (oqZ0_ok (by decide +kernel))
set_option maxRecDepth 1000000 in
/-- m.wordCode -/
theorem pq0_16 : PQ 1172 [s0 290] [0, 200] := (PQ_c (show fTab[1172]? = none by decide +kernel)).mpr (fun i h0 h1 => rng_of (P := fun i => s0 290 i ∈ kvWc) (f := fun i => decide (s0 290 i ∈ kvWc)) (n := 200) (fun i h => of_decide_eq_true h) (by decide +kernel) h0 h1)
set_option maxRecDepth 1000000 in
/-- m.registerCode -/
theorem pq0_17 : PQ 1173 [s0 291] [0, 50] := (PQ_c (show fTab[1173]? = none by decide +kernel)).mpr (fun i h0 h1 => rng_of (P := fun i => s0 291 i ∈ kvRc) (f := fun i => decide (s0 291 i ∈ kvRc)) (n := 50) (fun i h => of_decide_eq_true h) (by decide +kernel) h0 h1)
set_option maxRecDepth 1000000 in
/-- m.itemData -/
theorem pq0_18 : PQ 2 [s0 314] [0, 9218, 0] := pq_ge0 (oqZ0_ok (by decide +kernel)) (by decide)
set_option maxRecDepth 1000000 in
/-- m.itemSize -/
theorem pq0_19 : PQ 2 [s0 312] [0, 9218, 0] := pq_ge0 (oqZ0_ok (by decide +kernel)) (by decide)
set_option maxRecDepth 1000000 in
/-- m.tokenStart -/
theorem pq0_20 : PQ 2 [s0 348] [0, 1110, 0] := pq_ge0 (oqZ0_ok (by decide +kernel)) (by decide)
set_option maxRecDepth 1000000 in
/-- m.minus -/
theorem pq0_21 : PQ 23 [s0 354] [0, 1110, 1024, 1048576] := pq_or0 (oqZ0_ok (by decide +kernel)) (by decide)
set_option maxRecDepth 1000000 in
/-- m.plus -/
theorem pq0_22 : PQ 23 [s0 353] [0, 1110, 1024, 1048576] := pq_or0 (oqZ0_ok (by decide +kernel)) (by decide)
set_option maxRecDepth 1000000 in
/-- m.spanMinus -/
theorem pq0_23 : PQ 23 [s0 358] [0, 4104, 1024, 1048576] := pq_or0 (oqZ0_ok (by decide +kernel)) (by decide)
set_option maxRecDepth 1000000 in
/-- m.spanPlus -/
theorem pq0_24 : PQ 23 [s0 357] [0, 4104, 1024, 1048576] := pq_or0 (oqZ0_ok (by decide +kernel)) (by decide)
set_option maxRecDepth 1000000 in
/-- m.waitMinus -/
theorem pq0_25 : PQ 23 [s0 322] [0, 4104, 1024, 1048576] := pq_or0 (oqZ0_ok (by decide +kernel)) (by decide)
set_option maxRecDepth 1000000 in
/-- m.waitPlus -/
theorem pq0_26 : PQ 23 [s0 321] [0, 4104, 1024, 1048576] := pq_or0 (oqZ0_ok (by decide +kernel)) (by decide)
set_option maxRecDepth 1000000 in
/-- m.tokenStart -/
theorem pq0_27 : PQ 3 [s0 348] [0, 1110, 1024] := pq_le0 (oqZ0_ok (by decide +kernel)) (by decide)
def aT0 (c v1 v2 v3 v4 v5 L b k : Int) : List qV := [(2, 1), (2, 26909), (2, 28161), (0, v1), (0, v2), (0, v3), (0, v4), (0, v5), (1, L), (0, b), (0, k)]
abbrev lT0 (v1 v2 v3 v4 v5 L b k : Int) : qLS := [(0, (2, 1)), (1, (2, 26909)), (2, (2, 28161)), (3, (0, v1)), (4, (0, v2)), (5, (0, v3)), (6, (0, v4)), (7, (0, v5)), (8, (1, L)), (10, (0, b)), (11, (0, k))]
theorem tl0_0 {v1 v2 v3 v4 v5 L b k : Int} {v : qV} (h : (0, v) ∈ lT0 v1 v2 v3 v4 v5 L b k) : v = (2, 1) := lsArgs_fn (as := aT0 0 v1 v2 v3 v4 v5 L b k) (p := 0) h (List.mem_cons_self)
theorem tl0_1 {v1 v2 v3 v4 v5 L b k : Int} {v : qV} (h : (1, v) ∈ lT0 v1 v2 v3 v4 v5 L b k) : v = (2, 26909) := lsArgs_fn (as := aT0 0 v1 v2 v3 v4 v5 L b k) (p := 0) h (List.mem_cons_of_mem _ (List.mem_cons_self))
theorem tl0_2 {v1 v2 v3 v4 v5 L b k : Int} {v : qV} (h : (2, v) ∈ lT0 v1 v2 v3 v4 v5 L b k) : v = (2, 28161) := lsArgs_fn (as := aT0 0 v1 v2 v3 v4 v5 L b k) (p := 0) h (List.mem_cons_of_mem _ (List.mem_cons_of_mem _ (List.mem_cons_self)))
theorem tl0_3 {v1 v2 v3 v4 v5 L b k : Int} {v : qV} (h : (3, v) ∈ lT0 v1 v2 v3 v4 v5 L b k) : v = (0, v1) := lsArgs_fn (as := aT0 0 v1 v2 v3 v4 v5 L b k) (p := 0) h (List.mem_cons_of_mem _ (List.mem_cons_of_mem _ (List.mem_cons_of_mem _ (List.mem_cons_self))))
theorem tl0_4 {v1 v2 v3 v4 v5 L b k : Int} {v : qV} (h : (4, v) ∈ lT0 v1 v2 v3 v4 v5 L b k) : v = (0, v2) := lsArgs_fn (as := aT0 0 v1 v2 v3 v4 v5 L b k) (p := 0) h (List.mem_cons_of_mem _ (List.mem_cons_of_mem _ (List.mem_cons_of_mem _ (List.mem_cons_of_mem _ (List.mem_cons_self)))))
theorem tl0_5 {v1 v2 v3 v4 v5 L b k : Int} {v : qV} (h : (5, v) ∈ lT0 v1 v2 v3 v4 v5 L b k) : v = (0, v3) := lsArgs_fn (as := aT0 0 v1 v2 v3 v4 v5 L b k) (p := 0) h (List.mem_cons_of_mem _ (List.mem_cons_of_mem _ (List.mem_cons_of_mem _ (List.mem_cons_of_mem _ (List.mem_cons_of_mem _ (List.mem_cons_self))))))
theorem tl0_6 {v1 v2 v3 v4 v5 L b k : Int} {v : qV} (h : (6, v) ∈ lT0 v1 v2 v3 v4 v5 L b k) : v = (0, v4) := lsArgs_fn (as := aT0 0 v1 v2 v3 v4 v5 L b k) (p := 0) h (List.mem_cons_of_mem _ (List.mem_cons_of_mem _ (List.mem_cons_of_mem _ (List.mem_cons_of_mem _ (List.mem_cons_of_mem _ (List.mem_cons_of_mem _ (List.mem_cons_self)))))))
theorem tl0_7 {v1 v2 v3 v4 v5 L b k : Int} {v : qV} (h : (7, v) ∈ lT0 v1 v2 v3 v4 v5 L b k) : v = (0, v5) := lsArgs_fn (as := aT0 0 v1 v2 v3 v4 v5 L b k) (p := 0) h (List.mem_cons_of_mem _ (List.mem_cons_of_mem _ (List.mem_cons_of_mem _ (List.mem_cons_of_mem _ (List.mem_cons_of_mem _ (List.mem_cons_of_mem _ (List.mem_cons_of_mem _ (List.mem_cons_self))))))))
theorem tl0_8 {v1 v2 v3 v4 v5 L b k : Int} {v : qV} (h : (8, v) ∈ lT0 v1 v2 v3 v4 v5 L b k) : v = (1, L) := lsArgs_fn (as := aT0 0 v1 v2 v3 v4 v5 L b k) (p := 0) h (List.mem_cons_of_mem _ (List.mem_cons_of_mem _ (List.mem_cons_of_mem _ (List.mem_cons_of_mem _ (List.mem_cons_of_mem _ (List.mem_cons_of_mem _ (List.mem_cons_of_mem _ (List.mem_cons_of_mem _ (List.mem_cons_self)))))))))
theorem tl0_10 {v1 v2 v3 v4 v5 L b k : Int} {v : qV} (h : (10, v) ∈ lT0 v1 v2 v3 v4 v5 L b k) : v = (0, b) := lsArgs_fn (as := aT0 0 v1 v2 v3 v4 v5 L b k) (p := 0) h (List.mem_cons_of_mem _ (List.mem_cons_of_mem _ (List.mem_cons_of_mem _ (List.mem_cons_of_mem _ (List.mem_cons_of_mem _ (List.mem_cons_of_mem _ (List.mem_cons_of_mem _ (List.mem_cons_of_mem _ (List.mem_cons_of_mem _ (List.mem_cons_self))))))))))
theorem tl0_11 {v1 v2 v3 v4 v5 L b k : Int} {v : qV} (h : (11, v) ∈ lT0 v1 v2 v3 v4 v5 L b k) : v = (0, k) := lsArgs_fn (as := aT0 0 v1 v2 v3 v4 v5 L b k) (p := 0) h (List.mem_cons_of_mem _ (List.mem_cons_of_mem _ (List.mem_cons_of_mem _ (List.mem_cons_of_mem _ (List.mem_cons_of_mem _ (List.mem_cons_of_mem _ (List.mem_cons_of_mem _ (List.mem_cons_of_mem _ (List.mem_cons_of_mem _ (List.mem_cons_of_mem _ (List.mem_cons_self)))))))))))
def rT0 (v1 v2 v3 v4 v5 L b k : Int) : qW := fun n => match n with
  | 0 => v1
  | 1 => v2
  | 2 => v3
  | 3 => v4
  | 4 => v5
  | 5 => L
  | 6 => b
  | 7 => k
  | _ => 0
def vbT0 : List (Nat × Nat) := [(0, 399), (1, 294), (2, 296), (3, 386), (4, 407), (5, 408), (6, 314), (7, 316), (8, 309), (9, 313), (10, 310), (11, 315), (12, 312), (13, 303), (14, 354), (15, 301), (16, 353), (17, 291), (18, 297), (19, 358), (20, 357), (21, 347), (22, 349), (23, 348), (24, 350), (25, 362), (26, 320), (27, 319), (28, 322), (29, 321), (30, 323), (31, 290), (32, 426), (33, 427), (34, 113), (35, 112), (36, 51), (37, 49), (38, 52), (39, 50), (40, 73), (41, 60), (42, 67), (43, 181), (44, 179), (45, 15), (46, 27), (47, 22), (48, 23)]
noncomputable def aaT0 : qX := fun v => s0 ((lkA v vbT0).getD 0)
set_option maxRecDepth 1000000 in
set_option maxHeartbeats 4000000 in
theorem tI_0 : tI 0 s0 := by
  refine ⟨s0_typed, fun v1 v2 v3 v4 v5 L b k g1 g2 g3 g4 g5 g6 g7 g8 => ?_⟩
  have hB : CtBeg gAll cT0 (aT0 0 v1 v2 v3 v4 v5 L b k) s0 (rT0 v1 v2 v3 v4 v5 L b k) aaT0 := by
    refine ⟨rfl, lT0 v1 v2 v3 v4 v5 L b k, fun q hq => hq, Gh.triv _ _ _, fun r' a' hg => ?_⟩
    have e0 : r' 0 = v1 := hg.1 0 (by decide)
    have e1 : r' 1 = v2 := hg.1 1 (by decide)
    have e2 : r' 2 = v3 := hg.1 2 (by decide)
    have e3 : r' 3 = v4 := hg.1 3 (by decide)
    have e4 : r' 4 = v5 := hg.1 4 (by decide)
    have e5 : r' 5 = L := hg.1 5 (by decide)
    have e6 : r' 6 = b := hg.1 6 (by decide)
    have e7 : r' 7 = k := hg.1 7 (by decide)
    have ea : ∀ v, v < 49 → a' v = aaT0 v := hg.2
    refine ⟨?_, rfl, ?_, ?_, ?_, (fun x hx => by cases hx), (fun x hx => by cases hx), (fun x hx => by cases hx), ?_, ?_⟩
    · show lT0 v1 v2 v3 v4 v5 L b k = [(0, (2, 1)), (1, (2, 26909)), (2, (2, 28161)), (3, (0, 0 + (1 * r' 0 + 0))), (4, (0, 0 + (1 * r' 1 + 0))), (5, (0, 0 + (1 * r' 2 + 0))), (6, (0, 0 + (1 * r' 3 + 0))), (7, (0, 0 + (1 * r' 4 + 0))), (8, (1, 0 + (1 * r' 5 + 0))), (10, (0, 0 + (1 * r' 6 + 0))), (11, (0, 0 + (1 * r' 7 + 0)))]
      rw [e0, e1, e2, e3, e4, e5, e6, e7]
      simp only [Int.zero_add, Int.one_mul, Int.add_zero]
    · intro x hx
      have h := List.all_eq_true.mp (show cT0.2.1.2.2.1.1.all (fun x => x.2.2.isEmpty && decide (s0 x.1 0 = x.2.1)) = true by decide +kernel) x hx
      rw [Bool.and_eq_true, List.isEmpty_iff, decide_eq_true_eq] at h
      obtain ⟨b9, z9, l9⟩ := x
      have h1 : l9 = [] := h.1
      subst h1
      rw [h.2]
      exact (qC_ev r' z9).symm
    · intro x hx i
      have h := List.all_eq_true.mp (show cT0.2.1.2.2.1.2.all (fun x => Nat.blt x.2 49 && Nat.beq ((lkA x.2 vbT0).getD 0) x.1) = true by decide +kernel) x hx
      rw [Bool.and_eq_true] at h
      rw [ea _ (Nat.blt_eq.mp h.1)]
      show s0 x.1 i = s0 ((lkA x.2 vbT0).getD 0) i
      rw [Nat.eq_of_beq_eq_true h.2]
    · intro x hx
      rcases List.mem_cons.mp hx with rfl | hx
      · exact (show _ ≤ r' 0 ∧ r' 0 ≤ _ by rw [e0]; exact g1)
      rcases List.mem_cons.mp hx with rfl | hx
      · exact (show _ ≤ r' 1 ∧ r' 1 ≤ _ by rw [e1]; exact g2)
      rcases List.mem_cons.mp hx with rfl | hx
      · exact (show _ ≤ r' 2 ∧ r' 2 ≤ _ by rw [e2]; exact g3)
      rcases List.mem_cons.mp hx with rfl | hx
      · exact (show _ ≤ r' 3 ∧ r' 3 ≤ _ by rw [e3]; exact g4)
      rcases List.mem_cons.mp hx with rfl | hx
      · exact (show _ ≤ r' 4 ∧ r' 4 ≤ _ by rw [e4]; exact g5)
      rcases List.mem_cons.mp hx with rfl | hx
      · exact (show _ ≤ r' 5 ∧ r' 5 ≤ _ by rw [e5]; exact g6)
      rcases List.mem_cons.mp hx with rfl | hx
      · exact (show _ ≤ r' 6 ∧ r' 6 ≤ _ by rw [e6]; exact g7)
      rcases List.mem_cons.mp hx with rfl | hx
      · exact (show _ ≤ r' 7 ∧ r' 7 ≤ _ by rw [e7]; exact g8)
      cases hx
    · intro x hx y hy i h0 h1
      have h := List.all_eq_true.mp (show cT0.2.1.2.2.2.2.2.2.2.1.all (fun x => Nat.blt x.1 49 && Nat.beq ((lkA x.1 vbT0).getD 0) x.2) = true by decide +kernel) x hx
      rw [Bool.and_eq_true] at h
      rw [ea _ (Nat.blt_eq.mp h.1)]
      show ∃ c, colAt y.2.2.2.2 i = some c ∧ c.1 ≤ s0 ((lkA x.1 vbT0).getD 0) i ∧ s0 ((lkA x.1 vbT0).getD 0) i ≤ c.2
      rw [Nat.eq_of_beq_eq_true h.2]
      exact s0_typed x.2 y hy i h0 h1
    · intro x hx
      rcases List.mem_cons.mp hx with rfl | hx
      · have e9 : a' 35 = s0 112 := (ea 35 (by decide)).trans rfl
        show PQ 1087 [a' 35] [qe r' (0, [])]
        rw [e9, show qe r' (0, []) = 0 from qC_ev r' 0]
        exact pq0_0
      rcases List.mem_cons.mp hx with rfl | hx
      · have e9 : a' 44 = s0 179 := (ea 44 (by decide)).trans rfl
        show PQ 1087 [a' 44] [qe r' (0, [])]
        rw [e9, show qe r' (0, []) = 0 from qC_ev r' 0]
        exact pq0_1
      rcases List.mem_cons.mp hx with rfl | hx
      · have e9 : a' 34 = s0 113 := (ea 34 (by decide)).trans rfl
        show PQ 1174 [a' 34] [qe r' (0, []), qe r' (55, [])]
        rw [e9, show qe r' (0, []) = 0 from qC_ev r' 0, show qe r' (55, []) = 55 from qC_ev r' 55]
        exact pq0_2
      rcases List.mem_cons.mp hx with rfl | hx
      · have e9 : a' 43 = s0 181 := (ea 43 (by decide)).trans rfl
        show PQ 1174 [a' 43] [qe r' (0, []), qe r' (6144, [])]
        rw [e9, show qe r' (0, []) = 0 from qC_ev r' 0, show qe r' (6144, []) = 6144 from qC_ev r' 6144]
        exact pq0_3
      rcases List.mem_cons.mp hx with rfl | hx
      · have e9 : a' 32 = s0 426 := (ea 32 (by decide)).trans rfl
        show PQ 1175 [a' 32] [qe r' (0, []), qe r' (13, [])]
        rw [e9, show qe r' (0, []) = 0 from qC_ev r' 0, show qe r' (13, []) = 13 from qC_ev r' 13]
        exact pq0_4
      rcases List.mem_cons.mp hx with rfl | hx
      · have e9 : a' 33 = s0 427 := (ea 33 (by decide)).trans rfl
        show PQ 1176 [a' 33] [qe r' (0, []), qe r' (6, [])]
        rw [e9, show qe r' (0, []) = 0 from qC_ev r' 0, show qe r' (6, []) = 6 from qC_ev r' 6]
        exact pq0_5
      rcases List.mem_cons.mp hx with rfl | hx
      · have e9 : a' 40 = s0 73 := (ea 40 (by decide)).trans rfl
        show PQ 2 [a' 40] [qe r' (0, []), qe r' (1, []), qe r' (0, [])]
        rw [e9, show qe r' (0, []) = 0 from qC_ev r' 0, show qe r' (1, []) = 1 from qC_ev r' 1]
        exact pq0_6
      rcases List.mem_cons.mp hx with rfl | hx
      · have e9 : a' 42 = s0 67 := (ea 42 (by decide)).trans rfl
        show PQ 2 [a' 42] [qe r' (0, []), qe r' (1, []), qe r' (0, [])]
        rw [e9, show qe r' (0, []) = 0 from qC_ev r' 0, show qe r' (1, []) = 1 from qC_ev r' 1]
        exact pq0_7
      rcases List.mem_cons.mp hx with rfl | hx
      · have e9 : a' 40 = s0 73 := (ea 40 (by decide)).trans rfl
        show PQ 3 [a' 40] [qe r' (0, []), qe r' (1, []), qe r' (32768, [])]
        rw [e9, show qe r' (0, []) = 0 from qC_ev r' 0, show qe r' (1, []) = 1 from qC_ev r' 1, show qe r' (32768, []) = 32768 from qC_ev r' 32768]
        exact pq0_8
      rcases List.mem_cons.mp hx with rfl | hx
      · have e9 : a' 40 = s0 73 := (ea 40 (by decide)).trans rfl
        show PQ 3 [a' 40] [qe r' (0, []), qe r' (1, []), qe r' (0, [])]
        rw [e9, show qe r' (0, []) = 0 from qC_ev r' 0, show qe r' (1, []) = 1 from qC_ev r' 1]
        exact pq0_9
      rcases List.mem_cons.mp hx with rfl | hx
      · have e9 : a' 42 = s0 67 := (ea 42 (by decide)).trans rfl
        show PQ 3 [a' 42] [qe r' (0, []), qe r' (1, []), qe r' (65536, [])]
        rw [e9, show qe r' (0, []) = 0 from qC_ev r' 0, show qe r' (1, []) = 1 from qC_ev r' 1, show qe r' (65536, []) = 65536 from qC_ev r' 65536]
        exact pq0_10
      rcases List.mem_cons.mp hx with rfl | hx
      · have e9 : a' 15 = s0 301 := (ea 15 (by decide)).trans rfl
        show PQ 10 [a' 15] [qe r' (0, []), qe r' (1, []), qe r' (63, []), qe r' ((-1), [])]
        rw [e9, show qe r' (0, []) = 0 from qC_ev r' 0, show qe r' (1, []) = 1 from qC_ev r' 1, show qe r' (63, []) = 63 from qC_ev r' 63, show qe r' ((-1), []) = (-1) from qC_ev r' (-1)]
        exact pq0_11
      rcases List.mem_cons.mp hx with rfl | hx
      · have e9 : a' 0 = s0 399 := (ea 0 (by decide)).trans rfl
        show PQ 1071 [a' 0] [qe r' (0, []), qe r' (8194, [])]
        rw [e9, show qe r' (0, []) = 0 from qC_ev r' 0, show qe r' (8194, []) = 8194 from qC_ev r' 8194]
        exact pq0_12
      rcases List.mem_cons.mp hx with rfl | hx
      · have e9 : a' 3 = s0 386 := (ea 3 (by decide)).trans rfl
        show PQ 1071 [a' 3] [qe r' (0, []), qe r' (8194, [])]
        rw [e9, show qe r' (0, []) = 0 from qC_ev r' 0, show qe r' (8194, []) = 8194 from qC_ev r' 8194]
        exact pq0_13
      rcases List.mem_cons.mp hx with rfl | hx
      · have e9 : a' 11 = s0 315 := (ea 11 (by decide)).trans rfl
        show PQ 1071 [a' 11] [qe r' (0, []), qe r' (9218, [])]
        rw [e9, show qe r' (0, []) = 0 from qC_ev r' 0, show qe r' (9218, []) = 9218 from qC_ev r' 9218]
        exact pq0_14
      rcases List.mem_cons.mp hx with rfl | hx
      · have e9 : a' 25 = s0 362 := (ea 25 (by decide)).trans rfl
        show PQ 1075 [a' 25] [qe r' (0, []), qe r' (4, [])]
        rw [e9, show qe r' (0, []) = 0 from qC_ev r' 0, show qe r' (4, []) = 4 from qC_ev r' 4]
        exact pq0_15
      rcases List.mem_cons.mp hx with rfl | hx
      · have e9 : a' 31 = s0 290 := (ea 31 (by decide)).trans rfl
        show PQ 1172 [a' 31] [qe r' (0, []), qe r' (200, [])]
        rw [e9, show qe r' (0, []) = 0 from qC_ev r' 0, show qe r' (200, []) = 200 from qC_ev r' 200]
        exact pq0_16
      rcases List.mem_cons.mp hx with rfl | hx
      · have e9 : a' 17 = s0 291 := (ea 17 (by decide)).trans rfl
        show PQ 1173 [a' 17] [qe r' (0, []), qe r' (50, [])]
        rw [e9, show qe r' (0, []) = 0 from qC_ev r' 0, show qe r' (50, []) = 50 from qC_ev r' 50]
        exact pq0_17
      rcases List.mem_cons.mp hx with rfl | hx
      · have e9 : a' 6 = s0 314 := (ea 6 (by decide)).trans rfl
        show PQ 2 [a' 6] [qe r' (0, []), qe r' (9218, []), qe r' (0, [])]
        rw [e9, show qe r' (0, []) = 0 from qC_ev r' 0, show qe r' (9218, []) = 9218 from qC_ev r' 9218]
        exact pq0_18
      rcases List.mem_cons.mp hx with rfl | hx
      · have e9 : a' 12 = s0 312 := (ea 12 (by decide)).trans rfl
        show PQ 2 [a' 12] [qe r' (0, []), qe r' (9218, []), qe r' (0, [])]
        rw [e9, show qe r' (0, []) = 0 from qC_ev r' 0, show qe r' (9218, []) = 9218 from qC_ev r' 9218]
        exact pq0_19
      rcases List.mem_cons.mp hx with rfl | hx
      · have e9 : a' 23 = s0 348 := (ea 23 (by decide)).trans rfl
        show PQ 2 [a' 23] [qe r' (0, []), qe r' (1110, []), qe r' (0, [])]
        rw [e9, show qe r' (0, []) = 0 from qC_ev r' 0, show qe r' (1110, []) = 1110 from qC_ev r' 1110]
        exact pq0_20
      rcases List.mem_cons.mp hx with rfl | hx
      · have e9 : a' 14 = s0 354 := (ea 14 (by decide)).trans rfl
        show PQ 23 [a' 14] [qe r' (0, []), qe r' (1110, []), qe r' (1024, []), qe r' (1048576, [])]
        rw [e9, show qe r' (0, []) = 0 from qC_ev r' 0, show qe r' (1110, []) = 1110 from qC_ev r' 1110, show qe r' (1024, []) = 1024 from qC_ev r' 1024, show qe r' (1048576, []) = 1048576 from qC_ev r' 1048576]
        exact pq0_21
      rcases List.mem_cons.mp hx with rfl | hx
      · have e9 : a' 16 = s0 353 := (ea 16 (by decide)).trans rfl
        show PQ 23 [a' 16] [qe r' (0, []), qe r' (1110, []), qe r' (1024, []), qe r' (1048576, [])]
        rw [e9, show qe r' (0, []) = 0 from qC_ev r' 0, show qe r' (1110, []) = 1110 from qC_ev r' 1110, show qe r' (1024, []) = 1024 from qC_ev r' 1024, show qe r' (1048576, []) = 1048576 from qC_ev r' 1048576]
        exact pq0_22
      rcases List.mem_cons.mp hx with rfl | hx
      · have e9 : a' 19 = s0 358 := (ea 19 (by decide)).trans rfl
        show PQ 23 [a' 19] [qe r' (0, []), qe r' (4104, []), qe r' (1024, []), qe r' (1048576, [])]
        rw [e9, show qe r' (0, []) = 0 from qC_ev r' 0, show qe r' (4104, []) = 4104 from qC_ev r' 4104, show qe r' (1024, []) = 1024 from qC_ev r' 1024, show qe r' (1048576, []) = 1048576 from qC_ev r' 1048576]
        exact pq0_23
      rcases List.mem_cons.mp hx with rfl | hx
      · have e9 : a' 20 = s0 357 := (ea 20 (by decide)).trans rfl
        show PQ 23 [a' 20] [qe r' (0, []), qe r' (4104, []), qe r' (1024, []), qe r' (1048576, [])]
        rw [e9, show qe r' (0, []) = 0 from qC_ev r' 0, show qe r' (4104, []) = 4104 from qC_ev r' 4104, show qe r' (1024, []) = 1024 from qC_ev r' 1024, show qe r' (1048576, []) = 1048576 from qC_ev r' 1048576]
        exact pq0_24
      rcases List.mem_cons.mp hx with rfl | hx
      · have e9 : a' 28 = s0 322 := (ea 28 (by decide)).trans rfl
        show PQ 23 [a' 28] [qe r' (0, []), qe r' (4104, []), qe r' (1024, []), qe r' (1048576, [])]
        rw [e9, show qe r' (0, []) = 0 from qC_ev r' 0, show qe r' (4104, []) = 4104 from qC_ev r' 4104, show qe r' (1024, []) = 1024 from qC_ev r' 1024, show qe r' (1048576, []) = 1048576 from qC_ev r' 1048576]
        exact pq0_25
      rcases List.mem_cons.mp hx with rfl | hx
      · have e9 : a' 29 = s0 321 := (ea 29 (by decide)).trans rfl
        show PQ 23 [a' 29] [qe r' (0, []), qe r' (4104, []), qe r' (1024, []), qe r' (1048576, [])]
        rw [e9, show qe r' (0, []) = 0 from qC_ev r' 0, show qe r' (4104, []) = 4104 from qC_ev r' 4104, show qe r' (1024, []) = 1024 from qC_ev r' 1024, show qe r' (1048576, []) = 1048576 from qC_ev r' 1048576]
        exact pq0_26
      rcases List.mem_cons.mp hx with rfl | hx
      · have e9 : a' 23 = s0 348 := (ea 23 (by decide)).trans rfl
        show PQ 3 [a' 23] [qe r' (0, []), qe r' (1110, []), qe r' (1024, [])]
        rw [e9, show qe r' (0, []) = 0 from qC_ev r' 0, show qe r' (1110, []) = 1110 from qC_ev r' 1110, show qe r' (1024, []) = 1024 from qC_ev r' 1024]
        exact pq0_27
      cases hx
  obtain ⟨blk, l0, e, h0, h⟩ := yRun_get yrT0 s0_typed hB 1
  cases (show some bT0_0 = some blk from e)
  obtain ⟨v, hv, -, h⟩ := h
  cases tl0_0 (h0 _ hv)
  obtain ⟨v, hv, -, h⟩ := h
  cases tl0_1 (h0 _ hv)
  obtain ⟨v, hv, -, h⟩ := h
  cases tl0_2 (h0 _ hv)
  obtain ⟨v, hv, -, h⟩ := h
  cases tl0_3 (h0 _ hv)
  obtain ⟨v, hv, -, h⟩ := h
  cases tl0_4 (h0 _ hv)
  obtain ⟨v, hv, -, h⟩ := h
  cases tl0_5 (h0 _ hv)
  obtain ⟨v, hv, -, h⟩ := h
  cases tl0_6 (h0 _ hv)
  obtain ⟨v, hv, -, h⟩ := h
  cases tl0_7 (h0 _ hv)
  obtain ⟨v, hv, -, h⟩ := h
  cases tl0_8 (h0 _ hv)
  obtain ⟨v, hv, -, h⟩ := h
  cases tl0_10 (h0 _ hv)
  obtain ⟨v, hv, -, h⟩ := h
  cases tl0_11 (h0 _ hv)
  obtain ⟨C, eC, h⟩ := h
  cases (show some cT = some C from eC)
  obtain ⟨r9, a9, hB9, -, h⟩ := wCall_get (as := [(2, 1), (2, 26909), (2, 28161), (0, 0), (0, v1), (0, v2), (0, v3), (0, v4), (0, v5), (1, L), (0, b), (0, k)]) (st2 := []) h rfl
  exact ⟨r9, a9, hB9⟩
